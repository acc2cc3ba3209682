theorem in_X0 : ∀ w ∈ u_ws RX0 TX0 17, w ∈ TB := in_gen [113, 115, 117, 119, 121, 123, 125, 127, 129, 131, 133, 135, 137, 139, 141, 143, 145] (by decide +kernel)
theorem in_X1 : ∀ w ∈ u_ws RX1 TX1 3, w ∈ TB := in_gen [206, 208, 210] (by decide +kernel)
theorem in_X3 : ∀ w ∈ u_ws RX3 TX3 2, w ∈ TB := in_gen [158, 160] (by decide +kernel)
theorem sh_X1_loss {p : Nat} (h : kd p = 1) : kd (p + 1) = 10 ∧ ln (p + 1) = 64 := sh_gen (c := 1) (P := fun p => kd (p + 1) = 10 ∧ ln (p + 1) = 64) (by decide) (by decide +kernel) h
theorem sh_X1_best {p : Nat} (h : kd p = 1) : kd (p + 2) = 10 ∧ ln (p + 2) = 4 := sh_gen (c := 1) (P := fun p => kd (p + 2) = 10 ∧ ln (p + 2) = 4) (by decide) (by decide +kernel) h
theorem sh_X0_wet {p : Nat} (h : kd p = 0) : kd (p + 5) = 10 ∧ ln (p + 5) = 2 := sh_gen (c := 0) (P := fun p => kd (p + 5) = 10 ∧ ln (p + 5) = 2) (by decide) (by decide +kernel) h
theorem sh_X0_warmth {p : Nat} (h : kd p = 0) : kd (p + 1) = 10 ∧ ln (p + 1) = 20 := sh_gen (c := 0) (P := fun p => kd (p + 1) = 10 ∧ ln (p + 1) = 20) (by decide) (by decide +kernel) h
theorem sh_X0_brown {p : Nat} (h : kd p = 0) : kd (p + 6) = 10 ∧ ln (p + 6) = 2 := sh_gen (c := 0) (P := fun p => kd (p + 6) = 10 ∧ ln (p + 6) = 2) (by decide) (by decide +kernel) h
theorem sh_X0_most {p : Nat} (h : kd p = 0) : kd (p + 3) = 10 ∧ ln (p + 3) = 20 := sh_gen (c := 0) (P := fun p => kd (p + 3) = 10 ∧ ln (p + 3) = 20) (by decide) (by decide +kernel) h
theorem sh_X0_juice {p : Nat} (h : kd p = 0) : kd (p + 4) = 10 ∧ ln (p + 4) = 20 := sh_gen (c := 0) (P := fun p => kd (p + 4) = 10 ∧ ln (p + 4) = 20) (by decide) (by decide +kernel) h
theorem sh_X0_plan {p : Nat} (h : kd p = 0) : kd (p + 7) = 2 := sh_gen (c := 0) (P := fun p => kd (p + 7) = 2) (by decide) (by decide +kernel) h
theorem sh_X0_next {p : Nat} (h : kd p = 0) : kd (p + 2) = 10 ∧ ln (p + 2) = 20 := sh_gen (c := 0) (P := fun p => kd (p + 2) = 10 ∧ ln (p + 2) = 20) (by decide) (by decide +kernel) h
theorem tw_3 : Cond.selects RX3 yX3_skipBlanks yX3_skipBlanks ∈ TB := TB_mem 3 (by decide +kernel) (by decide +kernel)
theorem tw_4 : Cond.selects RX3 yX3_readStep yX3_readStep ∈ TB := TB_mem 4 (by decide +kernel) (by decide +kernel)
theorem tw_5 : Cond.selects RX3 yX3_readNumber yX3_readNumber ∈ TB := TB_mem 5 (by decide +kernel) (by decide +kernel)
theorem tw_7 : Cond.selects RX0 yX0_turnAndDry yX0_turnAndDry ∈ TB := TB_mem 7 (by decide +kernel) (by decide +kernel)
theorem tw_8 : Cond.selects RX0 yX0_spread yX0_spread ∈ TB := TB_mem 8 (by decide +kernel) (by decide +kernel)
theorem tw_9 : Cond.selects RX0 yX0_boil yX0_boil ∈ TB := TB_mem 9 (by decide +kernel) (by decide +kernel)
theorem tw_10 : Cond.selects RX0 yX0_browns yX0_browns ∈ TB := TB_mem 10 (by decide +kernel) (by decide +kernel)
theorem tw_21 : Cond.selects RX3 yX3_readItem yX3_readItem ∈ TB := TB_mem 21 (by decide +kernel) (by decide +kernel)
theorem tw_25 : Cond.selects RX1 yX1_lossOfOrder yX1_lossOfOrder ∈ TB := TB_mem 25 (by decide +kernel) (by decide +kernel)
theorem tw_26 : Cond.selects RX1 yX1_lossOf yX1_lossOf ∈ TB := TB_mem 26 (by decide +kernel) (by decide +kernel)
theorem tw_28 : Cond.initialized RX7 ∈ TB := TB_mem 28 (by decide +kernel) (by decide +kernel)
theorem tw_29 : Cond.initialized RX0 ∈ TB := TB_mem 29 (by decide +kernel) (by decide +kernel)
theorem tw_31 : Cond.initialized RX3 ∈ TB := TB_mem 31 (by decide +kernel) (by decide +kernel)
theorem tw_33 : Cond.initialized RX1 ∈ TB := TB_mem 33 (by decide +kernel) (by decide +kernel)
theorem tw_72 : Cond.fieldLink RX3 66 RX2 "count" "I" ∈ TB := TB_mem 72 (by decide +kernel) (by decide +kernel)
theorem tw_75 : Cond.fieldLink RX0 94 RX2 "ticks" "I" ∈ TB := TB_mem 75 (by decide +kernel) (by decide +kernel)
theorem tw_76 : Cond.fieldLink RX3 69 RX2 "ticks" "I" ∈ TB := TB_mem 76 (by decide +kernel) (by decide +kernel)
theorem tw_92 : Cond.fieldLink RX0 9 RX0 "warmth" "[I" ∈ TB := TB_mem 92 (by decide +kernel) (by decide +kernel)
theorem tw_93 : Cond.fieldLink RX0 15 RX0 "next" "[I" ∈ TB := TB_mem 93 (by decide +kernel) (by decide +kernel)
theorem tw_94 : Cond.fieldLink RX0 18 RX0 "most" "[I" ∈ TB := TB_mem 94 (by decide +kernel) (by decide +kernel)
theorem tw_95 : Cond.fieldLink RX0 21 RX0 "juice" "[I" ∈ TB := TB_mem 95 (by decide +kernel) (by decide +kernel)
theorem tw_96 : Cond.fieldLink RX0 24 RX0 "wet" "[I" ∈ TB := TB_mem 96 (by decide +kernel) (by decide +kernel)
theorem tw_97 : Cond.fieldLink RX0 27 RX0 "brown" "[I" ∈ TB := TB_mem 97 (by decide +kernel) (by decide +kernel)
theorem tw_98 : Cond.fieldLink RX0 33 RX0 "plan" "LSlabTurn$Plan;" ∈ TB := TB_mem 98 (by decide +kernel) (by decide +kernel)
theorem tw_100 : Cond.fieldLink RX0 87 RX0 "there" "Z" ∈ TB := TB_mem 100 (by decide +kernel) (by decide +kernel)
theorem tw_102 : Cond.fieldLink RX0 37 RX0 "thick" "I" ∈ TB := TB_mem 102 (by decide +kernel) (by decide +kernel)
theorem tw_104 : Cond.fieldLink RX0 50 RX0 "salt" "I" ∈ TB := TB_mem 104 (by decide +kernel) (by decide +kernel)
theorem tw_105 : Cond.fieldLink RX0 58 RX0 "fat" "I" ∈ TB := TB_mem 105 (by decide +kernel) (by decide +kernel)
theorem tw_106 : Cond.fieldLink RX0 65 RX0 "down" "I" ∈ TB := TB_mem 106 (by decide +kernel) (by decide +kernel)
theorem tw_107 : Cond.fieldLink RX0 68 RX0 "tick" "I" ∈ TB := TB_mem 107 (by decide +kernel) (by decide +kernel)
theorem tw_109 : Cond.fieldLink RX0 71 RX0 "stepAt" "I" ∈ TB := TB_mem 109 (by decide +kernel) (by decide +kernel)
theorem tw_110 : Cond.fieldLink RX0 74 RX0 "stepGone" "I" ∈ TB := TB_mem 110 (by decide +kernel) (by decide +kernel)
theorem tw_111 : Cond.fieldLink RX0 77 RX0 "latest" "I" ∈ TB := TB_mem 111 (by decide +kernel) (by decide +kernel)
theorem tw_112 : Cond.fieldLink RX0 80 RX0 "rested" "I" ∈ TB := TB_mem 112 (by decide +kernel) (by decide +kernel)
theorem tw_155 : Cond.fieldLink RX3 15 RX3 "place" "I" ∈ TB := TB_mem 155 (by decide +kernel) (by decide +kernel)
theorem tw_156 : Cond.fieldLink RX3 9 RX3 "fault" "I" ∈ TB := TB_mem 156 (by decide +kernel) (by decide +kernel)
theorem tw_171 : Cond.fieldLink RX0 104 RX5 "thick" "I" ∈ TB := TB_mem 171 (by decide +kernel) (by decide +kernel)
theorem tw_172 : Cond.fieldLink RX3 51 RX5 "thick" "I" ∈ TB := TB_mem 172 (by decide +kernel) (by decide +kernel)
theorem tw_175 : Cond.fieldLink RX0 59 RX5 "cold" "I" ∈ TB := TB_mem 175 (by decide +kernel) (by decide +kernel)
theorem tw_176 : Cond.fieldLink RX3 54 RX5 "cold" "I" ∈ TB := TB_mem 176 (by decide +kernel) (by decide +kernel)
theorem tw_178 : Cond.fieldLink RX0 105 RX5 "salt" "I" ∈ TB := TB_mem 178 (by decide +kernel) (by decide +kernel)
theorem tw_179 : Cond.fieldLink RX3 57 RX5 "salt" "I" ∈ TB := TB_mem 179 (by decide +kernel) (by decide +kernel)
theorem tw_181 : Cond.fieldLink RX0 53 RX5 "fat" "I" ∈ TB := TB_mem 181 (by decide +kernel) (by decide +kernel)
theorem tw_183 : Cond.fieldLink RX3 60 RX5 "fat" "I" ∈ TB := TB_mem 183 (by decide +kernel) (by decide +kernel)
theorem tw_202 : Cond.fieldLink RX1 7 RX1 "loss" "[I" ∈ TB := TB_mem 202 (by decide +kernel) (by decide +kernel)
theorem tw_203 : Cond.fieldLink RX1 13 RX1 "best" "[I" ∈ TB := TB_mem 203 (by decide +kernel) (by decide +kernel)
theorem tw_204 : Cond.fieldLink RX1 28 RX1 "least" "I" ∈ TB := TB_mem 204 (by decide +kernel) (by decide +kernel)
theorem tw_233 : Cond.fieldLink RX3 27 RX6 "size" "I" ∈ TB := TB_mem 233 (by decide +kernel) (by decide +kernel)
theorem tw_319 : Cond.instanceMethod yX3_readPlan ∈ TB := TB_mem 319 (by decide +kernel) (by decide +kernel)
theorem tw_320 : Cond.selects RX3 yX3_readPlan yX3_readPlan ∈ TB := TB_mem 320 (by decide +kernel) (by decide +kernel)
theorem tw_321 : Cond.code yX3_readPlan cX3_readPlan 4 none ∈ TB := TB_mem 321 (by decide +kernel) (by decide +kernel)
theorem tw_322 : Cond.methodLink RX3 36 yX2_begin ∈ TB := TB_mem 322 (by decide +kernel) (by decide +kernel)
theorem tw_326 : Cond.methodLink RX3 23 yX3_skipBlanks ∈ TB := TB_mem 326 (by decide +kernel) (by decide +kernel)
theorem tw_328 : Cond.instanceMethod yX3_skipBlanks ∈ TB := TB_mem 328 (by decide +kernel) (by decide +kernel)
theorem tw_329 : Cond.code yX3_skipBlanks cX3_skipBlanks 3 none ∈ TB := TB_mem 329 (by decide +kernel) (by decide +kernel)
theorem tw_330 : Cond.methodLink RX3 43 yX6_value ∈ TB := TB_mem 330 (by decide +kernel) (by decide +kernel)
theorem tw_338 : Cond.methodLink RX3 39 yX3_readStep ∈ TB := TB_mem 338 (by decide +kernel) (by decide +kernel)
theorem tw_340 : Cond.instanceMethod yX3_readStep ∈ TB := TB_mem 340 (by decide +kernel) (by decide +kernel)
theorem tw_341 : Cond.code yX3_readStep cX3_readStep 6 none ∈ TB := TB_mem 341 (by decide +kernel) (by decide +kernel)
theorem tw_342 : Cond.methodLink RX3 63 yX3_stepKind ∈ TB := TB_mem 342 (by decide +kernel) (by decide +kernel)
theorem tw_343 : Cond.static yX3_stepKind ∈ TB := TB_mem 343 (by decide +kernel) (by decide +kernel)
theorem tw_344 : Cond.code yX3_stepKind cX3_stepKind 1 (some .int) ∈ TB := TB_mem 344 (by decide +kernel) (by decide +kernel)
theorem tw_345 : Cond.methodLink RX3 47 yX3_readNumber ∈ TB := TB_mem 345 (by decide +kernel) (by decide +kernel)
theorem tw_347 : Cond.instanceMethod yX3_readNumber ∈ TB := TB_mem 347 (by decide +kernel) (by decide +kernel)
theorem tw_348 : Cond.code yX3_readNumber cX3_readNumber 6 (some .int) ∈ TB := TB_mem 348 (by decide +kernel) (by decide +kernel)
theorem tw_350 : Cond.static yX7_within ∈ TB := TB_mem 350 (by decide +kernel) (by decide +kernel)
theorem tw_351 : Cond.code yX7_within cX7_within 3 (some .boolean) ∈ TB := TB_mem 351 (by decide +kernel) (by decide +kernel)
theorem tw_352 : Cond.methodLink RX3 72 yX2_add ∈ TB := TB_mem 352 (by decide +kernel) (by decide +kernel)
theorem tw_387 : Cond.instanceMethod yX0_begin ∈ TB := TB_mem 387 (by decide +kernel) (by decide +kernel)
theorem tw_388 : Cond.selects RX0 yX0_begin yX0_begin ∈ TB := TB_mem 388 (by decide +kernel) (by decide +kernel)
theorem tw_389 : Cond.code yX0_begin cX0_begin 5 none ∈ TB := TB_mem 389 (by decide +kernel) (by decide +kernel)
theorem tw_390 : Cond.methodLink RX0 41 Lib.Math.min.name ∈ TB := TB_mem 390 (by decide +kernel) (by decide +kernel)
theorem tw_393 : Cond.methodLink RX0 47 Lib.Math.max.name ∈ TB := TB_mem 393 (by decide +kernel) (by decide +kernel)
theorem tw_396 : Cond.methodLink RX0 62 yX2_begin ∈ TB := TB_mem 396 (by decide +kernel) (by decide +kernel)
theorem tw_403 : Cond.instanceMethod yX0_goOn ∈ TB := TB_mem 403 (by decide +kernel) (by decide +kernel)
theorem tw_404 : Cond.selects RX0 yX0_goOn yX0_goOn ∈ TB := TB_mem 404 (by decide +kernel) (by decide +kernel)
theorem tw_405 : Cond.code yX0_goOn cX0_goOn 3 none ∈ TB := TB_mem 405 (by decide +kernel) (by decide +kernel)
theorem tw_406 : Cond.methodLink RX0 101 yX0_turnAndDry ∈ TB := TB_mem 406 (by decide +kernel) (by decide +kernel)
theorem tw_408 : Cond.instanceMethod yX0_turnAndDry ∈ TB := TB_mem 408 (by decide +kernel) (by decide +kernel)
theorem tw_409 : Cond.code yX0_turnAndDry cX0_turnAndDry 2 none ∈ TB := TB_mem 409 (by decide +kernel) (by decide +kernel)
theorem tw_410 : Cond.methodLink RX0 121 yX2_kindAt ∈ TB := TB_mem 410 (by decide +kernel) (by decide +kernel)
theorem tw_411 : Cond.methodLink RX0 117 yX2_has ∈ TB := TB_mem 411 (by decide +kernel) (by decide +kernel)
theorem tw_412 : Cond.methodLink RX0 125 yX2_heatAt ∈ TB := TB_mem 412 (by decide +kernel) (by decide +kernel)
theorem tw_413 : Cond.methodLink RX0 110 yX0_heat ∈ TB := TB_mem 413 (by decide +kernel) (by decide +kernel)
theorem tw_414 : Cond.instanceMethod yX0_heat ∈ TB := TB_mem 414 (by decide +kernel) (by decide +kernel)
theorem tw_415 : Cond.selects RX0 yX0_heat yX0_heat ∈ TB := TB_mem 415 (by decide +kernel) (by decide +kernel)
theorem tw_416 : Cond.code yX0_heat cX0_heat 5 none ∈ TB := TB_mem 416 (by decide +kernel) (by decide +kernel)
theorem tw_417 : Cond.methodLink RX0 134 yX0_spread ∈ TB := TB_mem 417 (by decide +kernel) (by decide +kernel)
theorem tw_419 : Cond.instanceMethod yX0_spread ∈ TB := TB_mem 419 (by decide +kernel) (by decide +kernel)
theorem tw_420 : Cond.code yX0_spread cX0_spread 5 none ∈ TB := TB_mem 420 (by decide +kernel) (by decide +kernel)
theorem tw_421 : Cond.methodLink RX0 143 yX0_fromOutside ∈ TB := TB_mem 421 (by decide +kernel) (by decide +kernel)
theorem tw_422 : Cond.static yX0_fromOutside ∈ TB := TB_mem 422 (by decide +kernel) (by decide +kernel)
theorem tw_423 : Cond.code yX0_fromOutside cX0_fromOutside 4 (some .int) ∈ TB := TB_mem 423 (by decide +kernel) (by decide +kernel)
theorem tw_424 : Cond.methodLink RX0 137 yX0_boil ∈ TB := TB_mem 424 (by decide +kernel) (by decide +kernel)
theorem tw_426 : Cond.instanceMethod yX0_boil ∈ TB := TB_mem 426 (by decide +kernel) (by decide +kernel)
theorem tw_427 : Cond.code yX0_boil cX0_boil 3 none ∈ TB := TB_mem 427 (by decide +kernel) (by decide +kernel)
theorem tw_428 : Cond.methodLink RX0 140 yX0_browns ∈ TB := TB_mem 428 (by decide +kernel) (by decide +kernel)
theorem tw_430 : Cond.instanceMethod yX0_browns ∈ TB := TB_mem 430 (by decide +kernel) (by decide +kernel)
theorem tw_431 : Cond.code yX0_browns cX0_browns 3 none ∈ TB := TB_mem 431 (by decide +kernel) (by decide +kernel)
theorem tw_432 : Cond.methodLink RX0 128 yX2_lengthAt ∈ TB := TB_mem 432 (by decide +kernel) (by decide +kernel)
theorem tw_438 : Cond.instanceMethod yX0_depthTells ∈ TB := TB_mem 438 (by decide +kernel) (by decide +kernel)
theorem tw_439 : Cond.selects RX0 yX0_depthTells yX0_depthTells ∈ TB := TB_mem 439 (by decide +kernel) (by decide +kernel)
theorem tw_440 : Cond.code yX0_depthTells cX0_depthTells 3 (some .int) ∈ TB := TB_mem 440 (by decide +kernel) (by decide +kernel)
theorem tw_441 : Cond.methodLink RX0 151 yX0_warmthAt ∈ TB := TB_mem 441 (by decide +kernel) (by decide +kernel)
theorem tw_442 : Cond.instanceMethod yX0_warmthAt ∈ TB := TB_mem 442 (by decide +kernel) (by decide +kernel)
theorem tw_443 : Cond.selects RX0 yX0_warmthAt yX0_warmthAt ∈ TB := TB_mem 443 (by decide +kernel) (by decide +kernel)
theorem tw_444 : Cond.code yX0_warmthAt cX0_warmthAt 2 (some .int) ∈ TB := TB_mem 444 (by decide +kernel) (by decide +kernel)
theorem tw_445 : Cond.methodLink RX0 147 yX0_has ∈ TB := TB_mem 445 (by decide +kernel) (by decide +kernel)
theorem tw_446 : Cond.instanceMethod yX0_has ∈ TB := TB_mem 446 (by decide +kernel) (by decide +kernel)
theorem tw_447 : Cond.selects RX0 yX0_has yX0_has ∈ TB := TB_mem 447 (by decide +kernel) (by decide +kernel)
theorem tw_448 : Cond.code yX0_has cX0_has 2 (some .boolean) ∈ TB := TB_mem 448 (by decide +kernel) (by decide +kernel)
theorem tw_449 : Cond.methodLink RX0 154 yX0_mostAt ∈ TB := TB_mem 449 (by decide +kernel) (by decide +kernel)
theorem tw_450 : Cond.instanceMethod yX0_mostAt ∈ TB := TB_mem 450 (by decide +kernel) (by decide +kernel)
theorem tw_451 : Cond.selects RX0 yX0_mostAt yX0_mostAt ∈ TB := TB_mem 451 (by decide +kernel) (by decide +kernel)
theorem tw_452 : Cond.code yX0_mostAt cX0_mostAt 2 (some .int) ∈ TB := TB_mem 452 (by decide +kernel) (by decide +kernel)
theorem tw_453 : Cond.methodLink RX0 157 yX0_juiceAt ∈ TB := TB_mem 453 (by decide +kernel) (by decide +kernel)
theorem tw_454 : Cond.instanceMethod yX0_juiceAt ∈ TB := TB_mem 454 (by decide +kernel) (by decide +kernel)
theorem tw_455 : Cond.selects RX0 yX0_juiceAt yX0_juiceAt ∈ TB := TB_mem 455 (by decide +kernel) (by decide +kernel)
theorem tw_456 : Cond.code yX0_juiceAt cX0_juiceAt 2 (some .int) ∈ TB := TB_mem 456 (by decide +kernel) (by decide +kernel)
theorem tw_466 : Cond.instanceMethod yX0_skinTells ∈ TB := TB_mem 466 (by decide +kernel) (by decide +kernel)
theorem tw_467 : Cond.selects RX0 yX0_skinTells yX0_skinTells ∈ TB := TB_mem 467 (by decide +kernel) (by decide +kernel)
theorem tw_468 : Cond.code yX0_skinTells cX0_skinTells 3 (some .int) ∈ TB := TB_mem 468 (by decide +kernel) (by decide +kernel)
theorem tw_469 : Cond.methodLink RX0 160 yX0_kindOf ∈ TB := TB_mem 469 (by decide +kernel) (by decide +kernel)
theorem tw_470 : Cond.instanceMethod yX0_kindOf ∈ TB := TB_mem 470 (by decide +kernel) (by decide +kernel)
theorem tw_471 : Cond.selects RX0 yX0_kindOf yX0_kindOf ∈ TB := TB_mem 471 (by decide +kernel) (by decide +kernel)
theorem tw_472 : Cond.code yX0_kindOf cX0_kindOf 2 (some .int) ∈ TB := TB_mem 472 (by decide +kernel) (by decide +kernel)
theorem tw_473 : Cond.methodLink RX0 166 yX0_brownOf ∈ TB := TB_mem 473 (by decide +kernel) (by decide +kernel)
theorem tw_474 : Cond.instanceMethod yX0_brownOf ∈ TB := TB_mem 474 (by decide +kernel) (by decide +kernel)
theorem tw_475 : Cond.selects RX0 yX0_brownOf yX0_brownOf ∈ TB := TB_mem 475 (by decide +kernel) (by decide +kernel)
theorem tw_476 : Cond.code yX0_brownOf cX0_brownOf 2 (some .int) ∈ TB := TB_mem 476 (by decide +kernel) (by decide +kernel)
theorem tw_477 : Cond.methodLink RX0 163 yX0_wetOf ∈ TB := TB_mem 477 (by decide +kernel) (by decide +kernel)
theorem tw_478 : Cond.instanceMethod yX0_wetOf ∈ TB := TB_mem 478 (by decide +kernel) (by decide +kernel)
theorem tw_479 : Cond.selects RX0 yX0_wetOf yX0_wetOf ∈ TB := TB_mem 479 (by decide +kernel) (by decide +kernel)
theorem tw_480 : Cond.code yX0_wetOf cX0_wetOf 2 (some .int) ∈ TB := TB_mem 480 (by decide +kernel) (by decide +kernel)
theorem tw_489 : Cond.instanceMethod yX0_justSo ∈ TB := TB_mem 489 (by decide +kernel) (by decide +kernel)
theorem tw_490 : Cond.selects RX0 yX0_justSo yX0_justSo ∈ TB := TB_mem 490 (by decide +kernel) (by decide +kernel)
theorem tw_491 : Cond.code yX0_justSo cX0_justSo 5 (some .int) ∈ TB := TB_mem 491 (by decide +kernel) (by decide +kernel)
theorem tw_494 : Cond.instanceMethod yX0_allJuice ∈ TB := TB_mem 494 (by decide +kernel) (by decide +kernel)
theorem tw_495 : Cond.selects RX0 yX0_allJuice yX0_allJuice ∈ TB := TB_mem 495 (by decide +kernel) (by decide +kernel)
theorem tw_496 : Cond.code yX0_allJuice cX0_allJuice 3 (some .int) ∈ TB := TB_mem 496 (by decide +kernel) (by decide +kernel)
theorem tw_512 : Cond.instanceMethod yX0_colour ∈ TB := TB_mem 512 (by decide +kernel) (by decide +kernel)
theorem tw_513 : Cond.selects RX0 yX0_colour yX0_colour ∈ TB := TB_mem 513 (by decide +kernel) (by decide +kernel)
theorem tw_514 : Cond.code yX0_colour cX0_colour 2 (some .int) ∈ TB := TB_mem 514 (by decide +kernel) (by decide +kernel)
theorem tw_524 : Cond.instanceMethod yX0_pink ∈ TB := TB_mem 524 (by decide +kernel) (by decide +kernel)
theorem tw_525 : Cond.selects RX0 yX0_pink yX0_pink ∈ TB := TB_mem 525 (by decide +kernel) (by decide +kernel)
theorem tw_526 : Cond.code yX0_pink cX0_pink 1 (some .int) ∈ TB := TB_mem 526 (by decide +kernel) (by decide +kernel)
theorem tw_527 : Cond.methodLink RX0 173 yX0_justSo ∈ TB := TB_mem 527 (by decide +kernel) (by decide +kernel)
theorem tw_533 : Cond.instanceMethod yX0_become ∈ TB := TB_mem 533 (by decide +kernel) (by decide +kernel)
theorem tw_534 : Cond.selects RX0 yX0_become yX0_become ∈ TB := TB_mem 534 (by decide +kernel) (by decide +kernel)
theorem tw_535 : Cond.code yX0_become cX0_become 3 none ∈ TB := TB_mem 535 (by decide +kernel) (by decide +kernel)
theorem tw_536 : Cond.methodLink RX0 83 yX2_become ∈ TB := TB_mem 536 (by decide +kernel) (by decide +kernel)
theorem tw_538 : Cond.instanceMethod yX0_restFor ∈ TB := TB_mem 538 (by decide +kernel) (by decide +kernel)
theorem tw_539 : Cond.selects RX0 yX0_restFor yX0_restFor ∈ TB := TB_mem 539 (by decide +kernel) (by decide +kernel)
theorem tw_540 : Cond.code yX0_restFor cX0_restFor 3 none ∈ TB := TB_mem 540 (by decide +kernel) (by decide +kernel)
theorem tw_542 : Cond.instanceMethod yX0_lossNow ∈ TB := TB_mem 542 (by decide +kernel) (by decide +kernel)
theorem tw_543 : Cond.selects RX0 yX0_lossNow yX0_lossNow ∈ TB := TB_mem 543 (by decide +kernel) (by decide +kernel)
theorem tw_544 : Cond.code yX0_lossNow cX0_lossNow 4 (some .int) ∈ TB := TB_mem 544 (by decide +kernel) (by decide +kernel)
theorem tw_550 : Cond.instanceMethod yX0_middleWarmth ∈ TB := TB_mem 550 (by decide +kernel) (by decide +kernel)
theorem tw_551 : Cond.selects RX0 yX0_middleWarmth yX0_middleWarmth ∈ TB := TB_mem 551 (by decide +kernel) (by decide +kernel)
theorem tw_552 : Cond.code yX0_middleWarmth cX0_middleWarmth 1 (some .int) ∈ TB := TB_mem 552 (by decide +kernel) (by decide +kernel)
theorem tw_553 : Cond.methodLink RX0 148 yX0_middle ∈ TB := TB_mem 553 (by decide +kernel) (by decide +kernel)
theorem tw_554 : Cond.instanceMethod yX0_middle ∈ TB := TB_mem 554 (by decide +kernel) (by decide +kernel)
theorem tw_555 : Cond.selects RX0 yX0_middle yX0_middle ∈ TB := TB_mem 555 (by decide +kernel) (by decide +kernel)
theorem tw_556 : Cond.code yX0_middle cX0_middle 1 (some .int) ∈ TB := TB_mem 556 (by decide +kernel) (by decide +kernel)
theorem tw_563 : Cond.instanceMethod yX0_makeByPlan ∈ TB := TB_mem 563 (by decide +kernel) (by decide +kernel)
theorem tw_564 : Cond.selects RX0 yX0_makeByPlan yX0_makeByPlan ∈ TB := TB_mem 564 (by decide +kernel) (by decide +kernel)
theorem tw_565 : Cond.code yX0_makeByPlan cX0_makeByPlan 5 none ∈ TB := TB_mem 565 (by decide +kernel) (by decide +kernel)
theorem tw_566 : Cond.methodLink RX0 91 yX0_begin ∈ TB := TB_mem 566 (by decide +kernel) (by decide +kernel)
theorem tw_567 : Cond.methodLink RX0 97 yX0_goOn ∈ TB := TB_mem 567 (by decide +kernel) (by decide +kernel)
theorem tw_588 : Cond.instanceMethod yX0_unlikeRow ∈ TB := TB_mem 588 (by decide +kernel) (by decide +kernel)
theorem tw_589 : Cond.selects RX0 yX0_unlikeRow yX0_unlikeRow ∈ TB := TB_mem 589 (by decide +kernel) (by decide +kernel)
theorem tw_590 : Cond.code yX0_unlikeRow cX0_unlikeRow 4 (some .int) ∈ TB := TB_mem 590 (by decide +kernel) (by decide +kernel)
theorem tw_591 : Cond.methodLink RX0 176 yX4_value ∈ TB := TB_mem 591 (by decide +kernel) (by decide +kernel)
theorem tw_592 : Cond.methodLink RX0 181 yX0_colour ∈ TB := TB_mem 592 (by decide +kernel) (by decide +kernel)
theorem tw_669 : Cond.instanceMethod yX0_digestOn ∈ TB := TB_mem 669 (by decide +kernel) (by decide +kernel)
theorem tw_670 : Cond.selects RX0 yX0_digestOn yX0_digestOn ∈ TB := TB_mem 670 (by decide +kernel) (by decide +kernel)
theorem tw_671 : Cond.code yX0_digestOn cX0_digestOn 7 (some .long) ∈ TB := TB_mem 671 (by decide +kernel) (by decide +kernel)
theorem tw_672 : Cond.constantLong RX0 184 31 ∈ TB := TB_mem 672 (by decide +kernel) (by decide +kernel)
theorem tw_673 : Cond.methodLink RX0 186 yX0_depthTells ∈ TB := TB_mem 673 (by decide +kernel) (by decide +kernel)
theorem tw_674 : Cond.methodLink RX0 189 yX0_skinTells ∈ TB := TB_mem 674 (by decide +kernel) (by decide +kernel)
theorem tw_728 : Cond.instanceMethod yX3_readSlab ∈ TB := TB_mem 728 (by decide +kernel) (by decide +kernel)
theorem tw_729 : Cond.selects RX3 yX3_readSlab yX3_readSlab ∈ TB := TB_mem 729 (by decide +kernel) (by decide +kernel)
theorem tw_730 : Cond.code yX3_readSlab cX3_readSlab 4 (some .int) ∈ TB := TB_mem 730 (by decide +kernel) (by decide +kernel)
theorem tw_731 : Cond.methodLink RX3 18 yX5_begin ∈ TB := TB_mem 731 (by decide +kernel) (by decide +kernel)
theorem tw_735 : Cond.methodLink RX3 32 yX3_readItem ∈ TB := TB_mem 735 (by decide +kernel) (by decide +kernel)
theorem tw_737 : Cond.instanceMethod yX3_readItem ∈ TB := TB_mem 737 (by decide +kernel) (by decide +kernel)
theorem tw_738 : Cond.code yX3_readItem cX3_readItem 4 none ∈ TB := TB_mem 738 (by decide +kernel) (by decide +kernel)
theorem tw_770 : Cond.instanceMethod yX0_makeByWay ∈ TB := TB_mem 770 (by decide +kernel) (by decide +kernel)
theorem tw_771 : Cond.selects RX0 yX0_makeByWay yX0_makeByWay ∈ TB := TB_mem 771 (by decide +kernel) (by decide +kernel)
theorem tw_772 : Cond.code yX0_makeByWay cX0_makeByWay 6 none ∈ TB := TB_mem 772 (by decide +kernel) (by decide +kernel)
theorem tw_773 : Cond.methodLink RX0 106 yX0_goByWay ∈ TB := TB_mem 773 (by decide +kernel) (by decide +kernel)
theorem tw_774 : Cond.instanceMethod yX0_goByWay ∈ TB := TB_mem 774 (by decide +kernel) (by decide +kernel)
theorem tw_775 : Cond.selects RX0 yX0_goByWay yX0_goByWay ∈ TB := TB_mem 775 (by decide +kernel) (by decide +kernel)
theorem tw_776 : Cond.code yX0_goByWay cX0_goByWay 3 none ∈ TB := TB_mem 776 (by decide +kernel) (by decide +kernel)
theorem tw_782 : Cond.instanceMethod yX0_crust ∈ TB := TB_mem 782 (by decide +kernel) (by decide +kernel)
theorem tw_783 : Cond.selects RX0 yX0_crust yX0_crust ∈ TB := TB_mem 783 (by decide +kernel) (by decide +kernel)
theorem tw_784 : Cond.code yX0_crust cX0_crust 1 (some .int) ∈ TB := TB_mem 784 (by decide +kernel) (by decide +kernel)
theorem tw_790 : Cond.instanceMethod yX0_middleMost ∈ TB := TB_mem 790 (by decide +kernel) (by decide +kernel)
theorem tw_791 : Cond.selects RX0 yX0_middleMost yX0_middleMost ∈ TB := TB_mem 791 (by decide +kernel) (by decide +kernel)
theorem tw_792 : Cond.code yX0_middleMost cX0_middleMost 1 (some .int) ∈ TB := TB_mem 792 (by decide +kernel) (by decide +kernel)
theorem tw_805 : Cond.instanceMethod yX0_greatestAtRest ∈ TB := TB_mem 805 (by decide +kernel) (by decide +kernel)
theorem tw_806 : Cond.selects RX0 yX0_greatestAtRest yX0_greatestAtRest ∈ TB := TB_mem 806 (by decide +kernel) (by decide +kernel)
theorem tw_807 : Cond.code yX0_greatestAtRest cX0_greatestAtRest 4 (some .int) ∈ TB := TB_mem 807 (by decide +kernel) (by decide +kernel)
theorem tw_808 : Cond.methodLink RX0 131 yX0_middleWarmth ∈ TB := TB_mem 808 (by decide +kernel) (by decide +kernel)
theorem tw_825 : Cond.instanceMethod yX0_ticksTill ∈ TB := TB_mem 825 (by decide +kernel) (by decide +kernel)
theorem tw_826 : Cond.selects RX0 yX0_ticksTill yX0_ticksTill ∈ TB := TB_mem 826 (by decide +kernel) (by decide +kernel)
theorem tw_827 : Cond.code yX0_ticksTill cX0_ticksTill 7 (some .int) ∈ TB := TB_mem 827 (by decide +kernel) (by decide +kernel)
theorem tw_828 : Cond.methodLink RX0 113 yX0_middleMost ∈ TB := TB_mem 828 (by decide +kernel) (by decide +kernel)
theorem tw_852 : Cond.static yX7_isIn ∈ TB := TB_mem 852 (by decide +kernel) (by decide +kernel)
theorem tw_853 : Cond.code yX7_isIn cX7_isIn 2 (some .boolean) ∈ TB := TB_mem 853 (by decide +kernel) (by decide +kernel)
theorem tw_867 : Cond.instanceMethod yX1_setLoss ∈ TB := TB_mem 867 (by decide +kernel) (by decide +kernel)
theorem tw_868 : Cond.selects RX1 yX1_setLoss yX1_setLoss ∈ TB := TB_mem 868 (by decide +kernel) (by decide +kernel)
theorem tw_869 : Cond.code yX1_setLoss cX1_setLoss 4 none ∈ TB := TB_mem 869 (by decide +kernel) (by decide +kernel)
theorem tw_872 : Cond.instanceMethod yX1_findBest ∈ TB := TB_mem 872 (by decide +kernel) (by decide +kernel)
theorem tw_873 : Cond.selects RX1 yX1_findBest yX1_findBest ∈ TB := TB_mem 873 (by decide +kernel) (by decide +kernel)
theorem tw_874 : Cond.code yX1_findBest cX1_findBest 6 none ∈ TB := TB_mem 874 (by decide +kernel) (by decide +kernel)
theorem tw_875 : Cond.methodLink RX1 22 yJ6_bitCount_0f7a4 ∈ TB := TB_mem 875 (by decide +kernel) (by decide +kernel)
theorem tw_881 : Cond.methodLink RX1 32 yX1_lossOfOrder ∈ TB := TB_mem 881 (by decide +kernel) (by decide +kernel)
theorem tw_883 : Cond.instanceMethod yX1_lossOfOrder ∈ TB := TB_mem 883 (by decide +kernel) (by decide +kernel)
theorem tw_884 : Cond.code yX1_lossOfOrder cX1_lossOfOrder 8 (some .int) ∈ TB := TB_mem 884 (by decide +kernel) (by decide +kernel)
theorem tw_885 : Cond.methodLink RX1 36 yX1_figureOf ∈ TB := TB_mem 885 (by decide +kernel) (by decide +kernel)
theorem tw_886 : Cond.static yX1_figureOf ∈ TB := TB_mem 886 (by decide +kernel) (by decide +kernel)
theorem tw_887 : Cond.code yX1_figureOf cX1_figureOf 3 (some .int) ∈ TB := TB_mem 887 (by decide +kernel) (by decide +kernel)
theorem tw_889 : Cond.methodLink RX1 43 yX1_lossOf ∈ TB := TB_mem 889 (by decide +kernel) (by decide +kernel)
theorem tw_891 : Cond.instanceMethod yX1_lossOf ∈ TB := TB_mem 891 (by decide +kernel) (by decide +kernel)
theorem tw_892 : Cond.code yX1_lossOf cX1_lossOf 3 (some .int) ∈ TB := TB_mem 892 (by decide +kernel) (by decide +kernel)
theorem tw_895 : Cond.instanceMethod yX1_bestAt ∈ TB := TB_mem 895 (by decide +kernel) (by decide +kernel)
theorem tw_896 : Cond.selects RX1 yX1_bestAt yX1_bestAt ∈ TB := TB_mem 896 (by decide +kernel) (by decide +kernel)
theorem tw_897 : Cond.code yX1_bestAt cX1_bestAt 2 (some .int) ∈ TB := TB_mem 897 (by decide +kernel) (by decide +kernel)
theorem mw_X7_within : MWS yX7_within cX7_within 3 (some .boolean) 3 := ⟨⟨by decide, by decide, by decide +kernel⟩, tw_351, tw_28, tw_350⟩
theorem mw_X7_isIn : MWS yX7_isIn cX7_isIn 2 (some .boolean) 2 := ⟨⟨by decide, by decide, by decide +kernel⟩, tw_853, tw_28, tw_852⟩
theorem mw_X1_figureOf : MWS yX1_figureOf cX1_figureOf 3 (some .int) 3 := ⟨⟨by decide, by decide, by decide +kernel⟩, tw_887, tw_33, tw_886⟩
theorem mw_X3_stepKind : MWS yX3_stepKind cX3_stepKind 1 (some .int) 1 := ⟨⟨by decide, by decide, by decide +kernel⟩, tw_344, tw_31, tw_343⟩
theorem mw_X1_setLoss : MWV yX1_setLoss cX1_setLoss 4 none 3 := ⟨⟨by decide, by decide, by decide +kernel⟩, tw_869, tw_33, tw_867, tw_868⟩
theorem mw_X1_lossOf : MWV yX1_lossOf cX1_lossOf 3 (some .int) 2 := ⟨⟨by decide, by decide, by decide +kernel⟩, tw_892, tw_33, tw_891, tw_26⟩
theorem mw_X1_bestAt : MWV yX1_bestAt cX1_bestAt 2 (some .int) 1 := ⟨⟨by decide, by decide, by decide +kernel⟩, tw_897, tw_33, tw_895, tw_896⟩
theorem mw_X1_lossOfOrder : MWV yX1_lossOfOrder cX1_lossOfOrder 8 (some .int) 3 := ⟨⟨by decide, by decide, by decide +kernel⟩, tw_884, tw_33, tw_883, tw_25⟩
theorem mw_X3_skipBlanks : MWV yX3_skipBlanks cX3_skipBlanks 3 none 1 := ⟨⟨by decide, by decide, by decide +kernel⟩, tw_329, tw_31, tw_328, tw_3⟩
theorem mw_X3_readNumber : MWV yX3_readNumber cX3_readNumber 6 (some .int) 3 := ⟨⟨by decide, by decide, by decide +kernel⟩, tw_348, tw_31, tw_347, tw_5⟩
theorem mw_X1_findBest : MWV yX1_findBest cX1_findBest 6 none 1 := ⟨⟨by decide, by decide, by decide +kernel⟩, tw_874, tw_33, tw_872, tw_873⟩
theorem mw_X3_readItem : MWV yX3_readItem cX3_readItem 4 none 2 := ⟨⟨by decide, by decide, by decide +kernel⟩, tw_738, tw_31, tw_737, tw_21⟩
theorem mw_X3_readStep : MWV yX3_readStep cX3_readStep 6 none 2 := ⟨⟨by decide, by decide, by decide +kernel⟩, tw_341, tw_31, tw_340, tw_4⟩
theorem mw_X3_readSlab : MWV yX3_readSlab cX3_readSlab 4 (some .int) 2 := ⟨⟨by decide, by decide, by decide +kernel⟩, tw_730, tw_31, tw_728, tw_729⟩
theorem mw_X3_readPlan : MWV yX3_readPlan cX3_readPlan 4 none 2 := ⟨⟨by decide, by decide, by decide +kernel⟩, tw_321, tw_31, tw_319, tw_320⟩
theorem mw_X0_fromOutside : MWS yX0_fromOutside cX0_fromOutside 4 (some .int) 4 := ⟨⟨by decide, by decide, by decide +kernel⟩, tw_423, tw_29, tw_422⟩
theorem mw_X0_browns : MWV yX0_browns cX0_browns 3 none 2 := ⟨⟨by decide, by decide, by decide +kernel⟩, tw_431, tw_29, tw_430, tw_10⟩
theorem mw_X0_middle : MWV yX0_middle cX0_middle 1 (some .int) 0 := ⟨⟨by decide, by decide, by decide +kernel⟩, tw_556, tw_29, tw_554, tw_555⟩
theorem mw_X0_has : MWV yX0_has cX0_has 2 (some .boolean) 1 := ⟨⟨by decide, by decide, by decide +kernel⟩, tw_448, tw_29, tw_446, tw_447⟩
theorem mw_X0_wetOf : MWV yX0_wetOf cX0_wetOf 2 (some .int) 1 := ⟨⟨by decide, by decide, by decide +kernel⟩, tw_480, tw_29, tw_478, tw_479⟩
theorem mw_X0_brownOf : MWV yX0_brownOf cX0_brownOf 2 (some .int) 1 := ⟨⟨by decide, by decide, by decide +kernel⟩, tw_476, tw_29, tw_474, tw_475⟩
theorem mw_X0_begin : MWV yX0_begin cX0_begin 5 none 3 := ⟨⟨by decide, by decide, by decide +kernel⟩, tw_389, tw_29, tw_387, tw_388⟩
theorem mw_X0_spread : MWV yX0_spread cX0_spread 5 none 2 := ⟨⟨by decide, by decide, by decide +kernel⟩, tw_420, tw_29, tw_419, tw_8⟩
theorem mw_X0_boil : MWV yX0_boil cX0_boil 3 none 2 := ⟨⟨by decide, by decide, by decide +kernel⟩, tw_427, tw_29, tw_426, tw_9⟩
theorem mw_X0_warmthAt : MWV yX0_warmthAt cX0_warmthAt 2 (some .int) 1 := ⟨⟨by decide, by decide, by decide +kernel⟩, tw_444, tw_29, tw_442, tw_443⟩
theorem mw_X0_mostAt : MWV yX0_mostAt cX0_mostAt 2 (some .int) 1 := ⟨⟨by decide, by decide, by decide +kernel⟩, tw_452, tw_29, tw_450, tw_451⟩
theorem mw_X0_juiceAt : MWV yX0_juiceAt cX0_juiceAt 2 (some .int) 1 := ⟨⟨by decide, by decide, by decide +kernel⟩, tw_456, tw_29, tw_454, tw_455⟩
theorem mw_X0_kindOf : MWV yX0_kindOf cX0_kindOf 2 (some .int) 1 := ⟨⟨by decide, by decide, by decide +kernel⟩, tw_472, tw_29, tw_470, tw_471⟩
theorem mw_X0_crust : MWV yX0_crust cX0_crust 1 (some .int) 0 := ⟨⟨by decide, by decide, by decide +kernel⟩, tw_784, tw_29, tw_782, tw_783⟩
theorem mw_X0_turnAndDry : MWV yX0_turnAndDry cX0_turnAndDry 2 none 0 := ⟨⟨by decide, by decide, by decide +kernel⟩, tw_409, tw_29, tw_408, tw_7⟩
theorem mw_X0_heat : MWV yX0_heat cX0_heat 5 none 2 := ⟨⟨by decide, by decide, by decide +kernel⟩, tw_416, tw_29, tw_414, tw_415⟩
theorem mw_X0_middleWarmth : MWV yX0_middleWarmth cX0_middleWarmth 1 (some .int) 0 := ⟨⟨by decide, by decide, by decide +kernel⟩, tw_552, tw_29, tw_550, tw_551⟩
theorem mw_X0_middleMost : MWV yX0_middleMost cX0_middleMost 1 (some .int) 0 := ⟨⟨by decide, by decide, by decide +kernel⟩, tw_792, tw_29, tw_790, tw_791⟩
theorem mw_X0_depthTells : MWV yX0_depthTells cX0_depthTells 3 (some .int) 2 := ⟨⟨by decide, by decide, by decide +kernel⟩, tw_440, tw_29, tw_438, tw_439⟩
theorem mw_X0_skinTells : MWV yX0_skinTells cX0_skinTells 3 (some .int) 2 := ⟨⟨by decide, by decide, by decide +kernel⟩, tw_468, tw_29, tw_466, tw_467⟩
theorem mw_X0_justSo : MWV yX0_justSo cX0_justSo 5 (some .int) 2 := ⟨⟨by decide, by decide, by decide +kernel⟩, tw_491, tw_29, tw_489, tw_490⟩
theorem mw_X0_colour : MWV yX0_colour cX0_colour 2 (some .int) 1 := ⟨⟨by decide, by decide, by decide +kernel⟩, tw_514, tw_29, tw_512, tw_513⟩
theorem mw_X0_allJuice : MWV yX0_allJuice cX0_allJuice 3 (some .int) 0 := ⟨⟨by decide, by decide, by decide +kernel⟩, tw_496, tw_29, tw_494, tw_495⟩
theorem mw_X0_lossNow : MWV yX0_lossNow cX0_lossNow 4 (some .int) 0 := ⟨⟨by decide, by decide, by decide +kernel⟩, tw_544, tw_29, tw_542, tw_543⟩
theorem mw_X0_become : MWV yX0_become cX0_become 3 none 1 := ⟨⟨by decide, by decide, by decide +kernel⟩, tw_535, tw_29, tw_533, tw_534⟩
theorem mw_X0_goByWay : MWV yX0_goByWay cX0_goByWay 3 none 2 := ⟨⟨by decide, by decide, by decide +kernel⟩, tw_776, tw_29, tw_774, tw_775⟩
theorem mw_X0_goOn : MWV yX0_goOn cX0_goOn 3 none 1 := ⟨⟨by decide, by decide, by decide +kernel⟩, tw_405, tw_29, tw_403, tw_404⟩
theorem mw_X0_restFor : MWV yX0_restFor cX0_restFor 3 none 1 := ⟨⟨by decide, by decide, by decide +kernel⟩, tw_540, tw_29, tw_538, tw_539⟩
theorem mw_X0_greatestAtRest : MWV yX0_greatestAtRest cX0_greatestAtRest 4 (some .int) 1 := ⟨⟨by decide, by decide, by decide +kernel⟩, tw_807, tw_29, tw_805, tw_806⟩
theorem mw_X0_pink : MWV yX0_pink cX0_pink 1 (some .int) 0 := ⟨⟨by decide, by decide, by decide +kernel⟩, tw_526, tw_29, tw_524, tw_525⟩
theorem mw_X0_unlikeRow : MWV yX0_unlikeRow cX0_unlikeRow 4 (some .int) 1 := ⟨⟨by decide, by decide, by decide +kernel⟩, tw_590, tw_29, tw_588, tw_589⟩
theorem mw_X0_digestOn : MWV yX0_digestOn cX0_digestOn 7 (some .long) 1 := ⟨⟨by decide, by decide, by decide +kernel⟩, tw_671, tw_29, tw_669, tw_670⟩
theorem mw_X0_makeByPlan : MWV yX0_makeByPlan cX0_makeByPlan 5 none 4 := ⟨⟨by decide, by decide, by decide +kernel⟩, tw_565, tw_29, tw_563, tw_564⟩
theorem mw_X0_makeByWay : MWV yX0_makeByWay cX0_makeByWay 6 none 4 := ⟨⟨by decide, by decide, by decide +kernel⟩, tw_772, tw_29, tw_770, tw_771⟩
theorem mw_X0_ticksTill : MWV yX0_ticksTill cX0_ticksTill 7 (some .int) 5 := ⟨⟨by decide, by decide, by decide +kernel⟩, tw_827, tw_29, tw_825, tw_826⟩
theorem dX7_within_0 : decode cX7_within 0 = .ok (.iload_n 0, 1) := by decide +kernel
theorem dX7_within_1 : decode cX7_within 1 = .ok (.iload_n 1, 1) := by decide +kernel
theorem dX7_within_2 : decode cX7_within 2 = .ok (.if_icmp .lt 12, 3) := by decide +kernel
theorem dX7_within_5 : decode cX7_within 5 = .ok (.iload_n 0, 1) := by decide +kernel
theorem dX7_within_6 : decode cX7_within 6 = .ok (.iload_n 2, 1) := by decide +kernel
theorem dX7_within_7 : decode cX7_within 7 = .ok (.if_icmp .gt 7, 3) := by decide +kernel
theorem dX7_within_10 : decode cX7_within 10 = .ok (.iconst 1, 1) := by decide +kernel
theorem dX7_within_11 : decode cX7_within 11 = .ok (.goto 4, 3) := by decide +kernel
theorem dX7_within_14 : decode cX7_within 14 = .ok (.iconst 0, 1) := by decide +kernel
theorem dX7_within_15 : decode cX7_within 15 = .ok (.ireturn, 1) := by decide +kernel
theorem dX7_isIn_0 : decode cX7_isIn 0 = .ok (.iload_n 1, 1) := by decide +kernel
theorem dX7_isIn_1 : decode cX7_isIn 1 = .ok (.iload_n 0, 1) := by decide +kernel
theorem dX7_isIn_2 : decode cX7_isIn 2 = .ok (.ishr, 1) := by decide +kernel
theorem dX7_isIn_3 : decode cX7_isIn 3 = .ok (.iconst 1, 1) := by decide +kernel
theorem dX7_isIn_4 : decode cX7_isIn 4 = .ok (.iand, 1) := by decide +kernel
theorem dX7_isIn_5 : decode cX7_isIn 5 = .ok (.iconst 1, 1) := by decide +kernel
theorem dX7_isIn_6 : decode cX7_isIn 6 = .ok (.if_icmp .ne 7, 3) := by decide +kernel
theorem dX7_isIn_9 : decode cX7_isIn 9 = .ok (.iconst 1, 1) := by decide +kernel
theorem dX7_isIn_10 : decode cX7_isIn 10 = .ok (.goto 4, 3) := by decide +kernel
theorem dX7_isIn_13 : decode cX7_isIn 13 = .ok (.iconst 0, 1) := by decide +kernel
theorem dX7_isIn_14 : decode cX7_isIn 14 = .ok (.ireturn, 1) := by decide +kernel
theorem dX1_figureOf_0 : decode cX1_figureOf 0 = .ok (.iload_n 0, 1) := by decide +kernel
theorem dX1_figureOf_1 : decode cX1_figureOf 1 = .ok (.iconst 2, 1) := by decide +kernel
theorem dX1_figureOf_2 : decode cX1_figureOf 2 = .ok (.iload_n 2, 1) := by decide +kernel
theorem dX1_figureOf_3 : decode cX1_figureOf 3 = .ok (.iconst 1, 1) := by decide +kernel
theorem dX1_figureOf_4 : decode cX1_figureOf 4 = .ok (.isub, 1) := by decide +kernel
theorem dX1_figureOf_5 : decode cX1_figureOf 5 = .ok (.iload_n 1, 1) := by decide +kernel
theorem dX1_figureOf_6 : decode cX1_figureOf 6 = .ok (.isub, 1) := by decide +kernel
theorem dX1_figureOf_7 : decode cX1_figureOf 7 = .ok (.imul, 1) := by decide +kernel
theorem dX1_figureOf_8 : decode cX1_figureOf 8 = .ok (.ishr, 1) := by decide +kernel
theorem dX1_figureOf_9 : decode cX1_figureOf 9 = .ok (.iconst 3, 1) := by decide +kernel
theorem dX1_figureOf_10 : decode cX1_figureOf 10 = .ok (.iand, 1) := by decide +kernel
theorem dX1_figureOf_11 : decode cX1_figureOf 11 = .ok (.ireturn, 1) := by decide +kernel
theorem dX3_stepKind_0 : decode cX3_stepKind 0 = .ok (.iload_n 0, 1) := by decide +kernel
theorem dX3_stepKind_1 : decode cX3_stepKind 1 = .ok (.tableswitch 108 98 117 #[99, 108, 105, 108, 108, 108, 108, 95, 108, 108, 108, 108, 108, 97, 108, 108, 101, 108, 108, 103], 95) := by decide +kernel
theorem dX3_stepKind_96 : decode cX3_stepKind 96 = .ok (.iconst 1, 1) := by decide +kernel
theorem dX3_stepKind_97 : decode cX3_stepKind 97 = .ok (.ireturn, 1) := by decide +kernel
theorem dX3_stepKind_98 : decode cX3_stepKind 98 = .ok (.iconst 2, 1) := by decide +kernel
theorem dX3_stepKind_99 : decode cX3_stepKind 99 = .ok (.ireturn, 1) := by decide +kernel
theorem dX3_stepKind_100 : decode cX3_stepKind 100 = .ok (.iconst 3, 1) := by decide +kernel
theorem dX3_stepKind_101 : decode cX3_stepKind 101 = .ok (.ireturn, 1) := by decide +kernel
theorem dX3_stepKind_102 : decode cX3_stepKind 102 = .ok (.iconst 4, 1) := by decide +kernel
theorem dX3_stepKind_103 : decode cX3_stepKind 103 = .ok (.ireturn, 1) := by decide +kernel
theorem dX3_stepKind_104 : decode cX3_stepKind 104 = .ok (.iconst 5, 1) := by decide +kernel
theorem dX3_stepKind_105 : decode cX3_stepKind 105 = .ok (.ireturn, 1) := by decide +kernel
theorem dX3_stepKind_106 : decode cX3_stepKind 106 = .ok (.bipush 6, 2) := by decide +kernel
theorem dX3_stepKind_108 : decode cX3_stepKind 108 = .ok (.ireturn, 1) := by decide +kernel
theorem dX3_stepKind_109 : decode cX3_stepKind 109 = .ok (.iconst 0, 1) := by decide +kernel
theorem dX3_stepKind_110 : decode cX3_stepKind 110 = .ok (.ireturn, 1) := by decide +kernel
theorem dX1_setLoss_0 : decode cX1_setLoss 0 = .ok (.iload_n 1, 1) := by decide +kernel
theorem dX1_setLoss_1 : decode cX1_setLoss 1 = .ok (.iconst 0, 1) := by decide +kernel
theorem dX1_setLoss_2 : decode cX1_setLoss 2 = .ok (.iconst 3, 1) := by decide +kernel
theorem dX1_setLoss_3 : decode cX1_setLoss 3 = .ok (.invokestatic 16, 3) := by decide +kernel
theorem dX1_setLoss_6 : decode cX1_setLoss 6 = .ok (.ifCond .eq 25, 3) := by decide +kernel
theorem dX1_setLoss_9 : decode cX1_setLoss 9 = .ok (.iload_n 2, 1) := by decide +kernel
theorem dX1_setLoss_10 : decode cX1_setLoss 10 = .ok (.iconst 0, 1) := by decide +kernel
theorem dX1_setLoss_11 : decode cX1_setLoss 11 = .ok (.bipush 15, 2) := by decide +kernel
theorem dX1_setLoss_13 : decode cX1_setLoss 13 = .ok (.invokestatic 16, 3) := by decide +kernel
theorem dX1_setLoss_16 : decode cX1_setLoss 16 = .ok (.ifCond .eq 15, 3) := by decide +kernel
theorem dX1_setLoss_19 : decode cX1_setLoss 19 = .ok (.aload_n 0, 1) := by decide +kernel
theorem dX1_setLoss_20 : decode cX1_setLoss 20 = .ok (.getfield 7, 3) := by decide +kernel
theorem dX1_setLoss_23 : decode cX1_setLoss 23 = .ok (.bipush 16, 2) := by decide +kernel
theorem dX1_setLoss_25 : decode cX1_setLoss 25 = .ok (.iload_n 1, 1) := by decide +kernel
theorem dX1_setLoss_26 : decode cX1_setLoss 26 = .ok (.imul, 1) := by decide +kernel
theorem dX1_setLoss_27 : decode cX1_setLoss 27 = .ok (.iload_n 2, 1) := by decide +kernel
theorem dX1_setLoss_28 : decode cX1_setLoss 28 = .ok (.iadd, 1) := by decide +kernel
theorem dX1_setLoss_29 : decode cX1_setLoss 29 = .ok (.iload_n 3, 1) := by decide +kernel
theorem dX1_setLoss_30 : decode cX1_setLoss 30 = .ok (.iastore, 1) := by decide +kernel
theorem dX1_setLoss_31 : decode cX1_setLoss 31 = .ok (.return_, 1) := by decide +kernel
theorem dX1_lossOf_0 : decode cX1_lossOf 0 = .ok (.iload_n 1, 1) := by decide +kernel
theorem dX1_lossOf_1 : decode cX1_lossOf 1 = .ok (.iconst 0, 1) := by decide +kernel
theorem dX1_lossOf_2 : decode cX1_lossOf 2 = .ok (.iconst 3, 1) := by decide +kernel
theorem dX1_lossOf_3 : decode cX1_lossOf 3 = .ok (.invokestatic 16, 3) := by decide +kernel
theorem dX1_lossOf_6 : decode cX1_lossOf 6 = .ok (.ifCond .eq 27, 3) := by decide +kernel
theorem dX1_lossOf_9 : decode cX1_lossOf 9 = .ok (.iload_n 2, 1) := by decide +kernel
theorem dX1_lossOf_10 : decode cX1_lossOf 10 = .ok (.iconst 0, 1) := by decide +kernel
theorem dX1_lossOf_11 : decode cX1_lossOf 11 = .ok (.bipush 15, 2) := by decide +kernel
theorem dX1_lossOf_13 : decode cX1_lossOf 13 = .ok (.invokestatic 16, 3) := by decide +kernel
theorem dX1_lossOf_16 : decode cX1_lossOf 16 = .ok (.ifCond .eq 17, 3) := by decide +kernel
theorem dX1_lossOf_19 : decode cX1_lossOf 19 = .ok (.aload_n 0, 1) := by decide +kernel
theorem dX1_lossOf_20 : decode cX1_lossOf 20 = .ok (.getfield 7, 3) := by decide +kernel
theorem dX1_lossOf_23 : decode cX1_lossOf 23 = .ok (.bipush 16, 2) := by decide +kernel
theorem dX1_lossOf_25 : decode cX1_lossOf 25 = .ok (.iload_n 1, 1) := by decide +kernel
theorem dX1_lossOf_26 : decode cX1_lossOf 26 = .ok (.imul, 1) := by decide +kernel
theorem dX1_lossOf_27 : decode cX1_lossOf 27 = .ok (.iload_n 2, 1) := by decide +kernel
theorem dX1_lossOf_28 : decode cX1_lossOf 28 = .ok (.iadd, 1) := by decide +kernel
theorem dX1_lossOf_29 : decode cX1_lossOf 29 = .ok (.iaload, 1) := by decide +kernel
theorem dX1_lossOf_30 : decode cX1_lossOf 30 = .ok (.goto 4, 3) := by decide +kernel
theorem dX1_lossOf_33 : decode cX1_lossOf 33 = .ok (.iconst 0, 1) := by decide +kernel
theorem dX1_lossOf_34 : decode cX1_lossOf 34 = .ok (.ireturn, 1) := by decide +kernel
theorem dX1_bestAt_0 : decode cX1_bestAt 0 = .ok (.iload_n 1, 1) := by decide +kernel
theorem dX1_bestAt_1 : decode cX1_bestAt 1 = .ok (.iconst 0, 1) := by decide +kernel
theorem dX1_bestAt_2 : decode cX1_bestAt 2 = .ok (.iconst 3, 1) := by decide +kernel
theorem dX1_bestAt_3 : decode cX1_bestAt 3 = .ok (.invokestatic 16, 3) := by decide +kernel
theorem dX1_bestAt_6 : decode cX1_bestAt 6 = .ok (.ifCond .eq 12, 3) := by decide +kernel
theorem dX1_bestAt_9 : decode cX1_bestAt 9 = .ok (.aload_n 0, 1) := by decide +kernel
theorem dX1_bestAt_10 : decode cX1_bestAt 10 = .ok (.getfield 13, 3) := by decide +kernel
theorem dX1_bestAt_13 : decode cX1_bestAt 13 = .ok (.iload_n 1, 1) := by decide +kernel
theorem dX1_bestAt_14 : decode cX1_bestAt 14 = .ok (.iaload, 1) := by decide +kernel
theorem dX1_bestAt_15 : decode cX1_bestAt 15 = .ok (.goto 4, 3) := by decide +kernel
theorem dX1_bestAt_18 : decode cX1_bestAt 18 = .ok (.iconst 0, 1) := by decide +kernel
theorem dX1_bestAt_19 : decode cX1_bestAt 19 = .ok (.ireturn, 1) := by decide +kernel
theorem dX1_lossOfOrder_0 : decode cX1_lossOfOrder 0 = .ok (.iload_n 1, 1) := by decide +kernel
theorem dX1_lossOfOrder_1 : decode cX1_lossOfOrder 1 = .ok (.istore 4, 2) := by decide +kernel
theorem dX1_lossOfOrder_3 : decode cX1_lossOfOrder 3 = .ok (.iconst 0, 1) := by decide +kernel
theorem dX1_lossOfOrder_4 : decode cX1_lossOfOrder 4 = .ok (.istore 5, 2) := by decide +kernel
theorem dX1_lossOfOrder_6 : decode cX1_lossOfOrder 6 = .ok (.iconst 0, 1) := by decide +kernel
theorem dX1_lossOfOrder_7 : decode cX1_lossOfOrder 7 = .ok (.istore 6, 2) := by decide +kernel
theorem dX1_lossOfOrder_9 : decode cX1_lossOfOrder 9 = .ok (.iload 6, 2) := by decide +kernel
theorem dX1_lossOfOrder_11 : decode cX1_lossOfOrder 11 = .ok (.iload_n 3, 1) := by decide +kernel
theorem dX1_lossOfOrder_12 : decode cX1_lossOfOrder 12 = .ok (.if_icmp .ge 54, 3) := by decide +kernel
theorem dX1_lossOfOrder_15 : decode cX1_lossOfOrder 15 = .ok (.iload_n 2, 1) := by decide +kernel
theorem dX1_lossOfOrder_16 : decode cX1_lossOfOrder 16 = .ok (.iload 6, 2) := by decide +kernel
theorem dX1_lossOfOrder_18 : decode cX1_lossOfOrder 18 = .ok (.iload_n 3, 1) := by decide +kernel
theorem dX1_lossOfOrder_19 : decode cX1_lossOfOrder 19 = .ok (.invokestatic 36, 3) := by decide +kernel
theorem dX1_lossOfOrder_22 : decode cX1_lossOfOrder 22 = .ok (.istore 7, 2) := by decide +kernel
theorem dX1_lossOfOrder_24 : decode cX1_lossOfOrder 24 = .ok (.iload 7, 2) := by decide +kernel
theorem dX1_lossOfOrder_26 : decode cX1_lossOfOrder 26 = .ok (.iload 4, 2) := by decide +kernel
theorem dX1_lossOfOrder_28 : decode cX1_lossOfOrder 28 = .ok (.invokestatic 39, 3) := by decide +kernel
theorem dX1_lossOfOrder_31 : decode cX1_lossOfOrder 31 = .ok (.ifCond .ne 5, 3) := by decide +kernel
theorem dX1_lossOfOrder_34 : decode cX1_lossOfOrder 34 = .ok (.iconst (-1), 1) := by decide +kernel
theorem dX1_lossOfOrder_35 : decode cX1_lossOfOrder 35 = .ok (.ireturn, 1) := by decide +kernel
theorem dX1_lossOfOrder_36 : decode cX1_lossOfOrder 36 = .ok (.iload 4, 2) := by decide +kernel
theorem dX1_lossOfOrder_38 : decode cX1_lossOfOrder 38 = .ok (.iconst 1, 1) := by decide +kernel
theorem dX1_lossOfOrder_39 : decode cX1_lossOfOrder 39 = .ok (.iload 7, 2) := by decide +kernel
theorem dX1_lossOfOrder_41 : decode cX1_lossOfOrder 41 = .ok (.ishl, 1) := by decide +kernel
theorem dX1_lossOfOrder_42 : decode cX1_lossOfOrder 42 = .ok (.iconst (-1), 1) := by decide +kernel
theorem dX1_lossOfOrder_43 : decode cX1_lossOfOrder 43 = .ok (.ixor, 1) := by decide +kernel
theorem dX1_lossOfOrder_44 : decode cX1_lossOfOrder 44 = .ok (.iand, 1) := by decide +kernel
theorem dX1_lossOfOrder_45 : decode cX1_lossOfOrder 45 = .ok (.istore 4, 2) := by decide +kernel
theorem dX1_lossOfOrder_47 : decode cX1_lossOfOrder 47 = .ok (.iload 5, 2) := by decide +kernel
theorem dX1_lossOfOrder_49 : decode cX1_lossOfOrder 49 = .ok (.aload_n 0, 1) := by decide +kernel
theorem dX1_lossOfOrder_50 : decode cX1_lossOfOrder 50 = .ok (.iload 7, 2) := by decide +kernel
theorem dX1_lossOfOrder_52 : decode cX1_lossOfOrder 52 = .ok (.iload 4, 2) := by decide +kernel
theorem dX1_lossOfOrder_54 : decode cX1_lossOfOrder 54 = .ok (.invokevirtual 43, 3) := by decide +kernel
theorem dX1_lossOfOrder_57 : decode cX1_lossOfOrder 57 = .ok (.iadd, 1) := by decide +kernel
theorem dX1_lossOfOrder_58 : decode cX1_lossOfOrder 58 = .ok (.istore 5, 2) := by decide +kernel
theorem dX1_lossOfOrder_60 : decode cX1_lossOfOrder 60 = .ok (.iinc 6 1, 3) := by decide +kernel
theorem dX1_lossOfOrder_63 : decode cX1_lossOfOrder 63 = .ok (.goto (-54), 3) := by decide +kernel
theorem dX1_lossOfOrder_66 : decode cX1_lossOfOrder 66 = .ok (.iload 5, 2) := by decide +kernel
theorem dX1_lossOfOrder_68 : decode cX1_lossOfOrder 68 = .ok (.ireturn, 1) := by decide +kernel
theorem dX3_skipBlanks_0 : decode cX3_skipBlanks 0 = .ok (.iconst 0, 1) := by decide +kernel
theorem dX3_skipBlanks_1 : decode cX3_skipBlanks 1 = .ok (.istore_n 2, 1) := by decide +kernel
theorem dX3_skipBlanks_2 : decode cX3_skipBlanks 2 = .ok (.iload_n 2, 1) := by decide +kernel
theorem dX3_skipBlanks_3 : decode cX3_skipBlanks 3 = .ok (.bipush 80, 2) := by decide +kernel
theorem dX3_skipBlanks_5 : decode cX3_skipBlanks 5 = .ok (.if_icmp .ge 32, 3) := by decide +kernel
theorem dX3_skipBlanks_8 : decode cX3_skipBlanks 8 = .ok (.aload_n 1, 1) := by decide +kernel
theorem dX3_skipBlanks_9 : decode cX3_skipBlanks 9 = .ok (.aload_n 0, 1) := by decide +kernel
theorem dX3_skipBlanks_10 : decode cX3_skipBlanks 10 = .ok (.getfield 15, 3) := by decide +kernel
theorem dX3_skipBlanks_13 : decode cX3_skipBlanks 13 = .ok (.invokevirtual 43, 3) := by decide +kernel
theorem dX3_skipBlanks_16 : decode cX3_skipBlanks 16 = .ok (.bipush 32, 2) := by decide +kernel
theorem dX3_skipBlanks_18 : decode cX3_skipBlanks 18 = .ok (.if_icmp .ne 19, 3) := by decide +kernel
theorem dX3_skipBlanks_21 : decode cX3_skipBlanks 21 = .ok (.aload_n 0, 1) := by decide +kernel
theorem dX3_skipBlanks_22 : decode cX3_skipBlanks 22 = .ok (.dup, 1) := by decide +kernel
theorem dX3_skipBlanks_23 : decode cX3_skipBlanks 23 = .ok (.getfield 15, 3) := by decide +kernel
theorem dX3_skipBlanks_26 : decode cX3_skipBlanks 26 = .ok (.iconst 1, 1) := by decide +kernel
theorem dX3_skipBlanks_27 : decode cX3_skipBlanks 27 = .ok (.iadd, 1) := by decide +kernel
theorem dX3_skipBlanks_28 : decode cX3_skipBlanks 28 = .ok (.putfield 15, 3) := by decide +kernel
theorem dX3_skipBlanks_31 : decode cX3_skipBlanks 31 = .ok (.iinc 2 1, 3) := by decide +kernel
theorem dX3_skipBlanks_34 : decode cX3_skipBlanks 34 = .ok (.goto (-32), 3) := by decide +kernel
theorem dX3_skipBlanks_37 : decode cX3_skipBlanks 37 = .ok (.return_, 1) := by decide +kernel
theorem dX3_readNumber_0 : decode cX3_readNumber 0 = .ok (.aload_n 0, 1) := by decide +kernel
theorem dX3_readNumber_1 : decode cX3_readNumber 1 = .ok (.dup, 1) := by decide +kernel
theorem dX3_readNumber_2 : decode cX3_readNumber 2 = .ok (.getfield 15, 3) := by decide +kernel
theorem dX3_readNumber_5 : decode cX3_readNumber 5 = .ok (.iconst 1, 1) := by decide +kernel
theorem dX3_readNumber_6 : decode cX3_readNumber 6 = .ok (.iadd, 1) := by decide +kernel
theorem dX3_readNumber_7 : decode cX3_readNumber 7 = .ok (.putfield 15, 3) := by decide +kernel
theorem dX3_readNumber_10 : decode cX3_readNumber 10 = .ok (.iconst 0, 1) := by decide +kernel
theorem dX3_readNumber_11 : decode cX3_readNumber 11 = .ok (.istore 4, 2) := by decide +kernel
theorem dX3_readNumber_13 : decode cX3_readNumber 13 = .ok (.iconst 0, 1) := by decide +kernel
theorem dX3_readNumber_14 : decode cX3_readNumber 14 = .ok (.istore 5, 2) := by decide +kernel
theorem dX3_readNumber_16 : decode cX3_readNumber 16 = .ok (.iload 4, 2) := by decide +kernel
theorem dX3_readNumber_18 : decode cX3_readNumber 18 = .ok (.iconst 2, 1) := by decide +kernel
theorem dX3_readNumber_19 : decode cX3_readNumber 19 = .ok (.if_icmp .ge 56, 3) := by decide +kernel
theorem dX3_readNumber_22 : decode cX3_readNumber 22 = .ok (.aload_n 1, 1) := by decide +kernel
theorem dX3_readNumber_23 : decode cX3_readNumber 23 = .ok (.aload_n 0, 1) := by decide +kernel
theorem dX3_readNumber_24 : decode cX3_readNumber 24 = .ok (.getfield 15, 3) := by decide +kernel
theorem dX3_readNumber_27 : decode cX3_readNumber 27 = .ok (.invokevirtual 43, 3) := by decide +kernel
theorem dX3_readNumber_30 : decode cX3_readNumber 30 = .ok (.bipush 48, 2) := by decide +kernel
theorem dX3_readNumber_32 : decode cX3_readNumber 32 = .ok (.bipush 57, 2) := by decide +kernel
theorem dX3_readNumber_34 : decode cX3_readNumber 34 = .ok (.invokestatic 76, 3) := by decide +kernel
theorem dX3_readNumber_37 : decode cX3_readNumber 37 = .ok (.ifCond .eq 38, 3) := by decide +kernel
theorem dX3_readNumber_40 : decode cX3_readNumber 40 = .ok (.bipush 10, 2) := by decide +kernel
theorem dX3_readNumber_42 : decode cX3_readNumber 42 = .ok (.iload 5, 2) := by decide +kernel
theorem dX3_readNumber_44 : decode cX3_readNumber 44 = .ok (.imul, 1) := by decide +kernel
theorem dX3_readNumber_45 : decode cX3_readNumber 45 = .ok (.aload_n 1, 1) := by decide +kernel
theorem dX3_readNumber_46 : decode cX3_readNumber 46 = .ok (.aload_n 0, 1) := by decide +kernel
theorem dX3_readNumber_47 : decode cX3_readNumber 47 = .ok (.getfield 15, 3) := by decide +kernel
theorem dX3_readNumber_50 : decode cX3_readNumber 50 = .ok (.invokevirtual 43, 3) := by decide +kernel
theorem dX3_readNumber_53 : decode cX3_readNumber 53 = .ok (.iadd, 1) := by decide +kernel
theorem dX3_readNumber_54 : decode cX3_readNumber 54 = .ok (.bipush 48, 2) := by decide +kernel
theorem dX3_readNumber_56 : decode cX3_readNumber 56 = .ok (.isub, 1) := by decide +kernel
theorem dX3_readNumber_57 : decode cX3_readNumber 57 = .ok (.istore 5, 2) := by decide +kernel
theorem dX3_readNumber_59 : decode cX3_readNumber 59 = .ok (.iinc 4 1, 3) := by decide +kernel
theorem dX3_readNumber_62 : decode cX3_readNumber 62 = .ok (.aload_n 0, 1) := by decide +kernel
theorem dX3_readNumber_63 : decode cX3_readNumber 63 = .ok (.dup, 1) := by decide +kernel
theorem dX3_readNumber_64 : decode cX3_readNumber 64 = .ok (.getfield 15, 3) := by decide +kernel
theorem dX3_readNumber_67 : decode cX3_readNumber 67 = .ok (.iconst 1, 1) := by decide +kernel
theorem dX3_readNumber_68 : decode cX3_readNumber 68 = .ok (.iadd, 1) := by decide +kernel
theorem dX3_readNumber_69 : decode cX3_readNumber 69 = .ok (.putfield 15, 3) := by decide +kernel
theorem dX3_readNumber_72 : decode cX3_readNumber 72 = .ok (.goto (-56), 3) := by decide +kernel
theorem dX3_readNumber_75 : decode cX3_readNumber 75 = .ok (.iload 4, 2) := by decide +kernel
theorem dX3_readNumber_77 : decode cX3_readNumber 77 = .ok (.ifCond .eq 13, 3) := by decide +kernel
theorem dX3_readNumber_80 : decode cX3_readNumber 80 = .ok (.iload 5, 2) := by decide +kernel
theorem dX3_readNumber_82 : decode cX3_readNumber 82 = .ok (.iload_n 2, 1) := by decide +kernel
theorem dX3_readNumber_83 : decode cX3_readNumber 83 = .ok (.iload_n 3, 1) := by decide +kernel
theorem dX3_readNumber_84 : decode cX3_readNumber 84 = .ok (.invokestatic 76, 3) := by decide +kernel
theorem dX3_readNumber_87 : decode cX3_readNumber 87 = .ok (.ifCond .ne 11, 3) := by decide +kernel
theorem dX3_readNumber_90 : decode cX3_readNumber 90 = .ok (.aload_n 0, 1) := by decide +kernel
theorem dX3_readNumber_91 : decode cX3_readNumber 91 = .ok (.aload_n 0, 1) := by decide +kernel
theorem dX3_readNumber_92 : decode cX3_readNumber 92 = .ok (.getfield 15, 3) := by decide +kernel
theorem dX3_readNumber_95 : decode cX3_readNumber 95 = .ok (.putfield 9, 3) := by decide +kernel
theorem dX3_readNumber_98 : decode cX3_readNumber 98 = .ok (.iload 5, 2) := by decide +kernel
theorem dX3_readNumber_100 : decode cX3_readNumber 100 = .ok (.ireturn, 1) := by decide +kernel
theorem dX1_findBest_0 : decode cX1_findBest 0 = .ok (.iload_n 1, 1) := by decide +kernel
theorem dX1_findBest_1 : decode cX1_findBest 1 = .ok (.invokestatic 22, 3) := by decide +kernel
theorem dX1_findBest_4 : decode cX1_findBest 4 = .ok (.istore_n 2, 1) := by decide +kernel
theorem dX1_findBest_5 : decode cX1_findBest 5 = .ok (.aload_n 0, 1) := by decide +kernel
theorem dX1_findBest_6 : decode cX1_findBest 6 = .ok (.iconst (-1), 1) := by decide +kernel
theorem dX1_findBest_7 : decode cX1_findBest 7 = .ok (.putfield 28, 3) := by decide +kernel
theorem dX1_findBest_10 : decode cX1_findBest 10 = .ok (.iconst 0, 1) := by decide +kernel
theorem dX1_findBest_11 : decode cX1_findBest 11 = .ok (.istore_n 3, 1) := by decide +kernel
theorem dX1_findBest_12 : decode cX1_findBest 12 = .ok (.iload_n 3, 1) := by decide +kernel
theorem dX1_findBest_13 : decode cX1_findBest 13 = .ok (.iconst 1, 1) := by decide +kernel
theorem dX1_findBest_14 : decode cX1_findBest 14 = .ok (.iconst 2, 1) := by decide +kernel
theorem dX1_findBest_15 : decode cX1_findBest 15 = .ok (.iload_n 2, 1) := by decide +kernel
theorem dX1_findBest_16 : decode cX1_findBest 16 = .ok (.imul, 1) := by decide +kernel
theorem dX1_findBest_17 : decode cX1_findBest 17 = .ok (.ishl, 1) := by decide +kernel
theorem dX1_findBest_18 : decode cX1_findBest 18 = .ok (.if_icmp .ge 84, 3) := by decide +kernel
theorem dX1_findBest_21 : decode cX1_findBest 21 = .ok (.aload_n 0, 1) := by decide +kernel
theorem dX1_findBest_22 : decode cX1_findBest 22 = .ok (.iload_n 1, 1) := by decide +kernel
theorem dX1_findBest_23 : decode cX1_findBest 23 = .ok (.iload_n 3, 1) := by decide +kernel
theorem dX1_findBest_24 : decode cX1_findBest 24 = .ok (.iload_n 2, 1) := by decide +kernel
theorem dX1_findBest_25 : decode cX1_findBest 25 = .ok (.invokevirtual 32, 3) := by decide +kernel
theorem dX1_findBest_28 : decode cX1_findBest 28 = .ok (.istore 4, 2) := by decide +kernel
theorem dX1_findBest_30 : decode cX1_findBest 30 = .ok (.iload 4, 2) := by decide +kernel
theorem dX1_findBest_32 : decode cX1_findBest 32 = .ok (.ifCond .lt 64, 3) := by decide +kernel
theorem dX1_findBest_35 : decode cX1_findBest 35 = .ok (.aload_n 0, 1) := by decide +kernel
theorem dX1_findBest_36 : decode cX1_findBest 36 = .ok (.getfield 28, 3) := by decide +kernel
theorem dX1_findBest_39 : decode cX1_findBest 39 = .ok (.ifCond .lt 12, 3) := by decide +kernel
theorem dX1_findBest_42 : decode cX1_findBest 42 = .ok (.iload 4, 2) := by decide +kernel
theorem dX1_findBest_44 : decode cX1_findBest 44 = .ok (.aload_n 0, 1) := by decide +kernel
theorem dX1_findBest_45 : decode cX1_findBest 45 = .ok (.getfield 28, 3) := by decide +kernel
theorem dX1_findBest_48 : decode cX1_findBest 48 = .ok (.if_icmp .ge 48, 3) := by decide +kernel
theorem dX1_findBest_51 : decode cX1_findBest 51 = .ok (.aload_n 0, 1) := by decide +kernel
theorem dX1_findBest_52 : decode cX1_findBest 52 = .ok (.iload 4, 2) := by decide +kernel
theorem dX1_findBest_54 : decode cX1_findBest 54 = .ok (.putfield 28, 3) := by decide +kernel
theorem dX1_findBest_57 : decode cX1_findBest 57 = .ok (.iconst 0, 1) := by decide +kernel
theorem dX1_findBest_58 : decode cX1_findBest 58 = .ok (.istore 5, 2) := by decide +kernel
theorem dX1_findBest_60 : decode cX1_findBest 60 = .ok (.iload 5, 2) := by decide +kernel
theorem dX1_findBest_62 : decode cX1_findBest 62 = .ok (.iload_n 2, 1) := by decide +kernel
theorem dX1_findBest_63 : decode cX1_findBest 63 = .ok (.if_icmp .ge 33, 3) := by decide +kernel
theorem dX1_findBest_66 : decode cX1_findBest 66 = .ok (.iload 5, 2) := by decide +kernel
theorem dX1_findBest_68 : decode cX1_findBest 68 = .ok (.aload_n 0, 1) := by decide +kernel
theorem dX1_findBest_69 : decode cX1_findBest 69 = .ok (.getfield 13, 3) := by decide +kernel
theorem dX1_findBest_72 : decode cX1_findBest 72 = .ok (.arraylength, 1) := by decide +kernel
theorem dX1_findBest_73 : decode cX1_findBest 73 = .ok (.if_icmp .ge 23, 3) := by decide +kernel
theorem dX1_findBest_76 : decode cX1_findBest 76 = .ok (.aload_n 0, 1) := by decide +kernel
theorem dX1_findBest_77 : decode cX1_findBest 77 = .ok (.getfield 13, 3) := by decide +kernel
theorem dX1_findBest_80 : decode cX1_findBest 80 = .ok (.iload 5, 2) := by decide +kernel
theorem dX1_findBest_82 : decode cX1_findBest 82 = .ok (.iload_n 3, 1) := by decide +kernel
theorem dX1_findBest_83 : decode cX1_findBest 83 = .ok (.iload 5, 2) := by decide +kernel
theorem dX1_findBest_85 : decode cX1_findBest 85 = .ok (.iload_n 2, 1) := by decide +kernel
theorem dX1_findBest_86 : decode cX1_findBest 86 = .ok (.invokestatic 36, 3) := by decide +kernel
theorem dX1_findBest_89 : decode cX1_findBest 89 = .ok (.iastore, 1) := by decide +kernel
theorem dX1_findBest_90 : decode cX1_findBest 90 = .ok (.iinc 5 1, 3) := by decide +kernel
theorem dX1_findBest_93 : decode cX1_findBest 93 = .ok (.goto (-33), 3) := by decide +kernel
theorem dX1_findBest_96 : decode cX1_findBest 96 = .ok (.iinc 3 1, 3) := by decide +kernel
theorem dX1_findBest_99 : decode cX1_findBest 99 = .ok (.goto (-87), 3) := by decide +kernel
theorem dX1_findBest_102 : decode cX1_findBest 102 = .ok (.return_, 1) := by decide +kernel
theorem dX3_readItem_0 : decode cX3_readItem 0 = .ok (.aload_n 1, 1) := by decide +kernel
theorem dX3_readItem_1 : decode cX3_readItem 1 = .ok (.aload_n 0, 1) := by decide +kernel
theorem dX3_readItem_2 : decode cX3_readItem 2 = .ok (.getfield 15, 3) := by decide +kernel
theorem dX3_readItem_5 : decode cX3_readItem 5 = .ok (.invokevirtual 43, 3) := by decide +kernel
theorem dX3_readItem_8 : decode cX3_readItem 8 = .ok (.istore_n 3, 1) := by decide +kernel
theorem dX3_readItem_9 : decode cX3_readItem 9 = .ok (.iload_n 3, 1) := by decide +kernel
theorem dX3_readItem_10 : decode cX3_readItem 10 = .ok (.bipush 116, 2) := by decide +kernel
theorem dX3_readItem_12 : decode cX3_readItem 12 = .ok (.if_icmp .ne 18, 3) := by decide +kernel
theorem dX3_readItem_15 : decode cX3_readItem 15 = .ok (.aload_n 2, 1) := by decide +kernel
theorem dX3_readItem_16 : decode cX3_readItem 16 = .ok (.aload_n 0, 1) := by decide +kernel
theorem dX3_readItem_17 : decode cX3_readItem 17 = .ok (.aload_n 1, 1) := by decide +kernel
theorem dX3_readItem_18 : decode cX3_readItem 18 = .ok (.iconst 3, 1) := by decide +kernel
theorem dX3_readItem_19 : decode cX3_readItem 19 = .ok (.bipush 20, 2) := by decide +kernel
theorem dX3_readItem_21 : decode cX3_readItem 21 = .ok (.invokevirtual 47, 3) := by decide +kernel
theorem dX3_readItem_24 : decode cX3_readItem 24 = .ok (.putfield 51, 3) := by decide +kernel
theorem dX3_readItem_27 : decode cX3_readItem 27 = .ok (.goto 74, 3) := by decide +kernel
theorem dX3_readItem_30 : decode cX3_readItem 30 = .ok (.iload_n 3, 1) := by decide +kernel
theorem dX3_readItem_31 : decode cX3_readItem 31 = .ok (.bipush 99, 2) := by decide +kernel
theorem dX3_readItem_33 : decode cX3_readItem 33 = .ok (.if_icmp .ne 18, 3) := by decide +kernel
theorem dX3_readItem_36 : decode cX3_readItem 36 = .ok (.aload_n 2, 1) := by decide +kernel
theorem dX3_readItem_37 : decode cX3_readItem 37 = .ok (.aload_n 0, 1) := by decide +kernel
theorem dX3_readItem_38 : decode cX3_readItem 38 = .ok (.aload_n 1, 1) := by decide +kernel
theorem dX3_readItem_39 : decode cX3_readItem 39 = .ok (.iconst 0, 1) := by decide +kernel
theorem dX3_readItem_40 : decode cX3_readItem 40 = .ok (.bipush 40, 2) := by decide +kernel
theorem dX3_readItem_42 : decode cX3_readItem 42 = .ok (.invokevirtual 47, 3) := by decide +kernel
theorem dX3_readItem_45 : decode cX3_readItem 45 = .ok (.putfield 54, 3) := by decide +kernel
theorem dX3_readItem_48 : decode cX3_readItem 48 = .ok (.goto 53, 3) := by decide +kernel
theorem dX3_readItem_51 : decode cX3_readItem 51 = .ok (.iload_n 3, 1) := by decide +kernel
theorem dX3_readItem_52 : decode cX3_readItem 52 = .ok (.bipush 115, 2) := by decide +kernel
theorem dX3_readItem_54 : decode cX3_readItem 54 = .ok (.if_icmp .ne 18, 3) := by decide +kernel
theorem dX3_readItem_57 : decode cX3_readItem 57 = .ok (.aload_n 2, 1) := by decide +kernel
theorem dX3_readItem_58 : decode cX3_readItem 58 = .ok (.aload_n 0, 1) := by decide +kernel
theorem dX3_readItem_59 : decode cX3_readItem 59 = .ok (.aload_n 1, 1) := by decide +kernel
theorem dX3_readItem_60 : decode cX3_readItem 60 = .ok (.iconst 0, 1) := by decide +kernel
theorem dX3_readItem_61 : decode cX3_readItem 61 = .ok (.bipush 60, 2) := by decide +kernel
theorem dX3_readItem_63 : decode cX3_readItem 63 = .ok (.invokevirtual 47, 3) := by decide +kernel
theorem dX3_readItem_66 : decode cX3_readItem 66 = .ok (.putfield 57, 3) := by decide +kernel
theorem dX3_readItem_69 : decode cX3_readItem 69 = .ok (.goto 32, 3) := by decide +kernel
theorem dX3_readItem_72 : decode cX3_readItem 72 = .ok (.iload_n 3, 1) := by decide +kernel
theorem dX3_readItem_73 : decode cX3_readItem 73 = .ok (.bipush 102, 2) := by decide +kernel
theorem dX3_readItem_75 : decode cX3_readItem 75 = .ok (.if_icmp .ne 18, 3) := by decide +kernel
theorem dX3_readItem_78 : decode cX3_readItem 78 = .ok (.aload_n 2, 1) := by decide +kernel
theorem dX3_readItem_79 : decode cX3_readItem 79 = .ok (.aload_n 0, 1) := by decide +kernel
theorem dX3_readItem_80 : decode cX3_readItem 80 = .ok (.aload_n 1, 1) := by decide +kernel
theorem dX3_readItem_81 : decode cX3_readItem 81 = .ok (.iconst 0, 1) := by decide +kernel
theorem dX3_readItem_82 : decode cX3_readItem 82 = .ok (.bipush 9, 2) := by decide +kernel
theorem dX3_readItem_84 : decode cX3_readItem 84 = .ok (.invokevirtual 47, 3) := by decide +kernel
theorem dX3_readItem_87 : decode cX3_readItem 87 = .ok (.putfield 60, 3) := by decide +kernel
theorem dX3_readItem_90 : decode cX3_readItem 90 = .ok (.goto 11, 3) := by decide +kernel
theorem dX3_readItem_93 : decode cX3_readItem 93 = .ok (.aload_n 0, 1) := by decide +kernel
theorem dX3_readItem_94 : decode cX3_readItem 94 = .ok (.aload_n 0, 1) := by decide +kernel
theorem dX3_readItem_95 : decode cX3_readItem 95 = .ok (.getfield 15, 3) := by decide +kernel
theorem dX3_readItem_98 : decode cX3_readItem 98 = .ok (.putfield 9, 3) := by decide +kernel
theorem dX3_readItem_101 : decode cX3_readItem 101 = .ok (.return_, 1) := by decide +kernel
theorem dX3_readStep_0 : decode cX3_readStep 0 = .ok (.aload_n 1, 1) := by decide +kernel
theorem dX3_readStep_1 : decode cX3_readStep 1 = .ok (.aload_n 0, 1) := by decide +kernel
theorem dX3_readStep_2 : decode cX3_readStep 2 = .ok (.getfield 15, 3) := by decide +kernel
theorem dX3_readStep_5 : decode cX3_readStep 5 = .ok (.invokevirtual 43, 3) := by decide +kernel
theorem dX3_readStep_8 : decode cX3_readStep 8 = .ok (.invokestatic 63, 3) := by decide +kernel
theorem dX3_readStep_11 : decode cX3_readStep 11 = .ok (.istore_n 3, 1) := by decide +kernel
theorem dX3_readStep_12 : decode cX3_readStep 12 = .ok (.iload_n 3, 1) := by decide +kernel
theorem dX3_readStep_13 : decode cX3_readStep 13 = .ok (.ifCond .eq 12, 3) := by decide +kernel
theorem dX3_readStep_16 : decode cX3_readStep 16 = .ok (.aload_n 2, 1) := by decide +kernel
theorem dX3_readStep_17 : decode cX3_readStep 17 = .ok (.getfield 66, 3) := by decide +kernel
theorem dX3_readStep_20 : decode cX3_readStep 20 = .ok (.bipush 12, 2) := by decide +kernel
theorem dX3_readStep_22 : decode cX3_readStep 22 = .ok (.if_icmp .lt 12, 3) := by decide +kernel
theorem dX3_readStep_25 : decode cX3_readStep 25 = .ok (.aload_n 0, 1) := by decide +kernel
theorem dX3_readStep_26 : decode cX3_readStep 26 = .ok (.aload_n 0, 1) := by decide +kernel
theorem dX3_readStep_27 : decode cX3_readStep 27 = .ok (.getfield 15, 3) := by decide +kernel
theorem dX3_readStep_30 : decode cX3_readStep 30 = .ok (.putfield 9, 3) := by decide +kernel
theorem dX3_readStep_33 : decode cX3_readStep 33 = .ok (.return_, 1) := by decide +kernel
theorem dX3_readStep_34 : decode cX3_readStep 34 = .ok (.iconst 0, 1) := by decide +kernel
theorem dX3_readStep_35 : decode cX3_readStep 35 = .ok (.istore 4, 2) := by decide +kernel
theorem dX3_readStep_37 : decode cX3_readStep 37 = .ok (.iconst 0, 1) := by decide +kernel
theorem dX3_readStep_38 : decode cX3_readStep 38 = .ok (.istore 5, 2) := by decide +kernel
theorem dX3_readStep_40 : decode cX3_readStep 40 = .ok (.iload_n 3, 1) := by decide +kernel
theorem dX3_readStep_41 : decode cX3_readStep 41 = .ok (.iconst 3, 1) := by decide +kernel
theorem dX3_readStep_42 : decode cX3_readStep 42 = .ok (.if_icmp .gt 46, 3) := by decide +kernel
theorem dX3_readStep_45 : decode cX3_readStep 45 = .ok (.aload_n 0, 1) := by decide +kernel
theorem dX3_readStep_46 : decode cX3_readStep 46 = .ok (.aload_n 1, 1) := by decide +kernel
theorem dX3_readStep_47 : decode cX3_readStep 47 = .ok (.iconst 2, 1) := by decide +kernel
theorem dX3_readStep_48 : decode cX3_readStep 48 = .ok (.bipush 30, 2) := by decide +kernel
theorem dX3_readStep_50 : decode cX3_readStep 50 = .ok (.invokevirtual 47, 3) := by decide +kernel
theorem dX3_readStep_53 : decode cX3_readStep 53 = .ok (.istore 4, 2) := by decide +kernel
theorem dX3_readStep_55 : decode cX3_readStep 55 = .ok (.aload_n 0, 1) := by decide +kernel
theorem dX3_readStep_56 : decode cX3_readStep 56 = .ok (.getfield 9, 3) := by decide +kernel
theorem dX3_readStep_59 : decode cX3_readStep 59 = .ok (.bipush (-9), 2) := by decide +kernel
theorem dX3_readStep_61 : decode cX3_readStep 61 = .ok (.if_icmp .ne 42, 3) := by decide +kernel
theorem dX3_readStep_64 : decode cX3_readStep 64 = .ok (.aload_n 1, 1) := by decide +kernel
theorem dX3_readStep_65 : decode cX3_readStep 65 = .ok (.aload_n 0, 1) := by decide +kernel
theorem dX3_readStep_66 : decode cX3_readStep 66 = .ok (.getfield 15, 3) := by decide +kernel
theorem dX3_readStep_69 : decode cX3_readStep 69 = .ok (.invokevirtual 43, 3) := by decide +kernel
theorem dX3_readStep_72 : decode cX3_readStep 72 = .ok (.bipush 58, 2) := by decide +kernel
theorem dX3_readStep_74 : decode cX3_readStep 74 = .ok (.if_icmp .eq 29, 3) := by decide +kernel
theorem dX3_readStep_77 : decode cX3_readStep 77 = .ok (.aload_n 0, 1) := by decide +kernel
theorem dX3_readStep_78 : decode cX3_readStep 78 = .ok (.aload_n 0, 1) := by decide +kernel
theorem dX3_readStep_79 : decode cX3_readStep 79 = .ok (.getfield 15, 3) := by decide +kernel
theorem dX3_readStep_82 : decode cX3_readStep 82 = .ok (.putfield 9, 3) := by decide +kernel
theorem dX3_readStep_85 : decode cX3_readStep 85 = .ok (.goto 18, 3) := by decide +kernel
theorem dX3_readStep_88 : decode cX3_readStep 88 = .ok (.iload_n 3, 1) := by decide +kernel
theorem dX3_readStep_89 : decode cX3_readStep 89 = .ok (.iconst 4, 1) := by decide +kernel
theorem dX3_readStep_90 : decode cX3_readStep 90 = .ok (.if_icmp .eq 13, 3) := by decide +kernel
theorem dX3_readStep_93 : decode cX3_readStep 93 = .ok (.aload_n 0, 1) := by decide +kernel
theorem dX3_readStep_94 : decode cX3_readStep 94 = .ok (.dup, 1) := by decide +kernel
theorem dX3_readStep_95 : decode cX3_readStep 95 = .ok (.getfield 15, 3) := by decide +kernel
theorem dX3_readStep_98 : decode cX3_readStep 98 = .ok (.iconst 1, 1) := by decide +kernel
theorem dX3_readStep_99 : decode cX3_readStep 99 = .ok (.iadd, 1) := by decide +kernel
theorem dX3_readStep_100 : decode cX3_readStep 100 = .ok (.putfield 15, 3) := by decide +kernel
theorem dX3_readStep_103 : decode cX3_readStep 103 = .ok (.aload_n 0, 1) := by decide +kernel
theorem dX3_readStep_104 : decode cX3_readStep 104 = .ok (.getfield 9, 3) := by decide +kernel
theorem dX3_readStep_107 : decode cX3_readStep 107 = .ok (.bipush (-9), 2) := by decide +kernel
theorem dX3_readStep_109 : decode cX3_readStep 109 = .ok (.if_icmp .ne 18, 3) := by decide +kernel
theorem dX3_readStep_112 : decode cX3_readStep 112 = .ok (.iload_n 3, 1) := by decide +kernel
theorem dX3_readStep_113 : decode cX3_readStep 113 = .ok (.iconst 4, 1) := by decide +kernel
theorem dX3_readStep_114 : decode cX3_readStep 114 = .ok (.if_icmp .gt 13, 3) := by decide +kernel
theorem dX3_readStep_117 : decode cX3_readStep 117 = .ok (.aload_n 0, 1) := by decide +kernel
theorem dX3_readStep_118 : decode cX3_readStep 118 = .ok (.aload_n 1, 1) := by decide +kernel
theorem dX3_readStep_119 : decode cX3_readStep 119 = .ok (.iconst 1, 1) := by decide +kernel
theorem dX3_readStep_120 : decode cX3_readStep 120 = .ok (.bipush 60, 2) := by decide +kernel
theorem dX3_readStep_122 : decode cX3_readStep 122 = .ok (.invokevirtual 47, 3) := by decide +kernel
theorem dX3_readStep_125 : decode cX3_readStep 125 = .ok (.istore 5, 2) := by decide +kernel
theorem dX3_readStep_127 : decode cX3_readStep 127 = .ok (.aload_n 0, 1) := by decide +kernel
theorem dX3_readStep_128 : decode cX3_readStep 128 = .ok (.getfield 9, 3) := by decide +kernel
theorem dX3_readStep_131 : decode cX3_readStep 131 = .ok (.bipush (-9), 2) := by decide +kernel
theorem dX3_readStep_133 : decode cX3_readStep 133 = .ok (.if_icmp .ne 24, 3) := by decide +kernel
theorem dX3_readStep_136 : decode cX3_readStep 136 = .ok (.aload_n 2, 1) := by decide +kernel
theorem dX3_readStep_137 : decode cX3_readStep 137 = .ok (.getfield 69, 3) := by decide +kernel
theorem dX3_readStep_140 : decode cX3_readStep 140 = .ok (.iload 5, 2) := by decide +kernel
theorem dX3_readStep_142 : decode cX3_readStep 142 = .ok (.iadd, 1) := by decide +kernel
theorem dX3_readStep_143 : decode cX3_readStep 143 = .ok (.sipush 200, 3) := by decide +kernel
theorem dX3_readStep_146 : decode cX3_readStep 146 = .ok (.if_icmp .le 11, 3) := by decide +kernel
theorem dX3_readStep_149 : decode cX3_readStep 149 = .ok (.aload_n 0, 1) := by decide +kernel
theorem dX3_readStep_150 : decode cX3_readStep 150 = .ok (.aload_n 0, 1) := by decide +kernel
theorem dX3_readStep_151 : decode cX3_readStep 151 = .ok (.getfield 15, 3) := by decide +kernel
theorem dX3_readStep_154 : decode cX3_readStep 154 = .ok (.putfield 9, 3) := by decide +kernel
theorem dX3_readStep_157 : decode cX3_readStep 157 = .ok (.aload_n 0, 1) := by decide +kernel
theorem dX3_readStep_158 : decode cX3_readStep 158 = .ok (.getfield 9, 3) := by decide +kernel
theorem dX3_readStep_161 : decode cX3_readStep 161 = .ok (.bipush (-9), 2) := by decide +kernel
theorem dX3_readStep_163 : decode cX3_readStep 163 = .ok (.if_icmp .ne 12, 3) := by decide +kernel
theorem dX3_readStep_166 : decode cX3_readStep 166 = .ok (.aload_n 2, 1) := by decide +kernel
theorem dX3_readStep_167 : decode cX3_readStep 167 = .ok (.iload_n 3, 1) := by decide +kernel
theorem dX3_readStep_168 : decode cX3_readStep 168 = .ok (.iload 4, 2) := by decide +kernel
theorem dX3_readStep_170 : decode cX3_readStep 170 = .ok (.iload 5, 2) := by decide +kernel
theorem dX3_readStep_172 : decode cX3_readStep 172 = .ok (.invokevirtual 72, 3) := by decide +kernel
theorem dX3_readStep_175 : decode cX3_readStep 175 = .ok (.return_, 1) := by decide +kernel
theorem dX3_readSlab_0 : decode cX3_readSlab 0 = .ok (.aload_n 0, 1) := by decide +kernel
theorem dX3_readSlab_1 : decode cX3_readSlab 1 = .ok (.iconst 0, 1) := by decide +kernel
theorem dX3_readSlab_2 : decode cX3_readSlab 2 = .ok (.putfield 15, 3) := by decide +kernel
theorem dX3_readSlab_5 : decode cX3_readSlab 5 = .ok (.aload_n 0, 1) := by decide +kernel
theorem dX3_readSlab_6 : decode cX3_readSlab 6 = .ok (.bipush (-9), 2) := by decide +kernel
theorem dX3_readSlab_8 : decode cX3_readSlab 8 = .ok (.putfield 9, 3) := by decide +kernel
theorem dX3_readSlab_11 : decode cX3_readSlab 11 = .ok (.aload_n 2, 1) := by decide +kernel
theorem dX3_readSlab_12 : decode cX3_readSlab 12 = .ok (.invokevirtual 18, 3) := by decide +kernel
theorem dX3_readSlab_15 : decode cX3_readSlab 15 = .ok (.iconst 0, 1) := by decide +kernel
theorem dX3_readSlab_16 : decode cX3_readSlab 16 = .ok (.istore_n 3, 1) := by decide +kernel
theorem dX3_readSlab_17 : decode cX3_readSlab 17 = .ok (.iload_n 3, 1) := by decide +kernel
theorem dX3_readSlab_18 : decode cX3_readSlab 18 = .ok (.bipush 80, 2) := by decide +kernel
theorem dX3_readSlab_20 : decode cX3_readSlab 20 = .ok (.if_icmp .gt 44, 3) := by decide +kernel
theorem dX3_readSlab_23 : decode cX3_readSlab 23 = .ok (.aload_n 0, 1) := by decide +kernel
theorem dX3_readSlab_24 : decode cX3_readSlab 24 = .ok (.aload_n 1, 1) := by decide +kernel
theorem dX3_readSlab_25 : decode cX3_readSlab 25 = .ok (.invokevirtual 23, 3) := by decide +kernel
theorem dX3_readSlab_28 : decode cX3_readSlab 28 = .ok (.aload_n 0, 1) := by decide +kernel
theorem dX3_readSlab_29 : decode cX3_readSlab 29 = .ok (.getfield 15, 3) := by decide +kernel
theorem dX3_readSlab_32 : decode cX3_readSlab 32 = .ok (.aload_n 1, 1) := by decide +kernel
theorem dX3_readSlab_33 : decode cX3_readSlab 33 = .ok (.getfield 27, 3) := by decide +kernel
theorem dX3_readSlab_36 : decode cX3_readSlab 36 = .ok (.if_icmp .lt 5, 3) := by decide +kernel
theorem dX3_readSlab_39 : decode cX3_readSlab 39 = .ok (.iload_n 3, 1) := by decide +kernel
theorem dX3_readSlab_40 : decode cX3_readSlab 40 = .ok (.ireturn, 1) := by decide +kernel
theorem dX3_readSlab_41 : decode cX3_readSlab 41 = .ok (.aload_n 0, 1) := by decide +kernel
theorem dX3_readSlab_42 : decode cX3_readSlab 42 = .ok (.aload_n 1, 1) := by decide +kernel
theorem dX3_readSlab_43 : decode cX3_readSlab 43 = .ok (.aload_n 2, 1) := by decide +kernel
theorem dX3_readSlab_44 : decode cX3_readSlab 44 = .ok (.invokevirtual 32, 3) := by decide +kernel
theorem dX3_readSlab_47 : decode cX3_readSlab 47 = .ok (.aload_n 0, 1) := by decide +kernel
theorem dX3_readSlab_48 : decode cX3_readSlab 48 = .ok (.getfield 9, 3) := by decide +kernel
theorem dX3_readSlab_51 : decode cX3_readSlab 51 = .ok (.bipush (-9), 2) := by decide +kernel
theorem dX3_readSlab_53 : decode cX3_readSlab 53 = .ok (.if_icmp .eq 5, 3) := by decide +kernel
theorem dX3_readSlab_56 : decode cX3_readSlab 56 = .ok (.iconst 0, 1) := by decide +kernel
theorem dX3_readSlab_57 : decode cX3_readSlab 57 = .ok (.ireturn, 1) := by decide +kernel
theorem dX3_readSlab_58 : decode cX3_readSlab 58 = .ok (.iinc 3 1, 3) := by decide +kernel
theorem dX3_readSlab_61 : decode cX3_readSlab 61 = .ok (.goto (-44), 3) := by decide +kernel
theorem dX3_readSlab_64 : decode cX3_readSlab 64 = .ok (.iconst 0, 1) := by decide +kernel
theorem dX3_readSlab_65 : decode cX3_readSlab 65 = .ok (.ireturn, 1) := by decide +kernel
theorem dX3_readPlan_0 : decode cX3_readPlan 0 = .ok (.aload_n 0, 1) := by decide +kernel
theorem dX3_readPlan_1 : decode cX3_readPlan 1 = .ok (.iconst 0, 1) := by decide +kernel
theorem dX3_readPlan_2 : decode cX3_readPlan 2 = .ok (.putfield 15, 3) := by decide +kernel
theorem dX3_readPlan_5 : decode cX3_readPlan 5 = .ok (.aload_n 0, 1) := by decide +kernel
theorem dX3_readPlan_6 : decode cX3_readPlan 6 = .ok (.bipush (-9), 2) := by decide +kernel
theorem dX3_readPlan_8 : decode cX3_readPlan 8 = .ok (.putfield 9, 3) := by decide +kernel
theorem dX3_readPlan_11 : decode cX3_readPlan 11 = .ok (.aload_n 2, 1) := by decide +kernel
theorem dX3_readPlan_12 : decode cX3_readPlan 12 = .ok (.invokevirtual 36, 3) := by decide +kernel
theorem dX3_readPlan_15 : decode cX3_readPlan 15 = .ok (.iconst 0, 1) := by decide +kernel
theorem dX3_readPlan_16 : decode cX3_readPlan 16 = .ok (.istore_n 3, 1) := by decide +kernel
theorem dX3_readPlan_17 : decode cX3_readPlan 17 = .ok (.iload_n 3, 1) := by decide +kernel
theorem dX3_readPlan_18 : decode cX3_readPlan 18 = .ok (.bipush 80, 2) := by decide +kernel
theorem dX3_readPlan_20 : decode cX3_readPlan 20 = .ok (.if_icmp .gt 42, 3) := by decide +kernel
theorem dX3_readPlan_23 : decode cX3_readPlan 23 = .ok (.aload_n 0, 1) := by decide +kernel
theorem dX3_readPlan_24 : decode cX3_readPlan 24 = .ok (.aload_n 1, 1) := by decide +kernel
theorem dX3_readPlan_25 : decode cX3_readPlan 25 = .ok (.invokevirtual 23, 3) := by decide +kernel
theorem dX3_readPlan_28 : decode cX3_readPlan 28 = .ok (.aload_n 0, 1) := by decide +kernel
theorem dX3_readPlan_29 : decode cX3_readPlan 29 = .ok (.getfield 15, 3) := by decide +kernel
theorem dX3_readPlan_32 : decode cX3_readPlan 32 = .ok (.aload_n 1, 1) := by decide +kernel
theorem dX3_readPlan_33 : decode cX3_readPlan 33 = .ok (.getfield 27, 3) := by decide +kernel
theorem dX3_readPlan_36 : decode cX3_readPlan 36 = .ok (.if_icmp .lt 4, 3) := by decide +kernel
theorem dX3_readPlan_39 : decode cX3_readPlan 39 = .ok (.return_, 1) := by decide +kernel
theorem dX3_readPlan_40 : decode cX3_readPlan 40 = .ok (.aload_n 0, 1) := by decide +kernel
theorem dX3_readPlan_41 : decode cX3_readPlan 41 = .ok (.aload_n 1, 1) := by decide +kernel
theorem dX3_readPlan_42 : decode cX3_readPlan 42 = .ok (.aload_n 2, 1) := by decide +kernel
theorem dX3_readPlan_43 : decode cX3_readPlan 43 = .ok (.invokevirtual 39, 3) := by decide +kernel
theorem dX3_readPlan_46 : decode cX3_readPlan 46 = .ok (.aload_n 0, 1) := by decide +kernel
theorem dX3_readPlan_47 : decode cX3_readPlan 47 = .ok (.getfield 9, 3) := by decide +kernel
theorem dX3_readPlan_50 : decode cX3_readPlan 50 = .ok (.bipush (-9), 2) := by decide +kernel
theorem dX3_readPlan_52 : decode cX3_readPlan 52 = .ok (.if_icmp .eq 4, 3) := by decide +kernel
theorem dX3_readPlan_55 : decode cX3_readPlan 55 = .ok (.return_, 1) := by decide +kernel
theorem dX3_readPlan_56 : decode cX3_readPlan 56 = .ok (.iinc 3 1, 3) := by decide +kernel
theorem dX3_readPlan_59 : decode cX3_readPlan 59 = .ok (.goto (-42), 3) := by decide +kernel
theorem dX3_readPlan_62 : decode cX3_readPlan 62 = .ok (.return_, 1) := by decide +kernel
theorem dX0_fromOutside_0 : decode cX0_fromOutside 0 = .ok (.iload_n 0, 1) := by decide +kernel
theorem dX0_fromOutside_1 : decode cX0_fromOutside 1 = .ok (.tableswitch 70 1 3 #[27, 51, 61], 27) := by decide +kernel
theorem dX0_fromOutside_28 : decode cX0_fromOutside 28 = .ok (.iload_n 2, 1) := by decide +kernel
theorem dX0_fromOutside_29 : decode cX0_fromOutside 29 = .ok (.ifCond .eq 14, 3) := by decide +kernel
theorem dX0_fromOutside_32 : decode cX0_fromOutside 32 = .ok (.bipush 100, 2) := by decide +kernel
theorem dX0_fromOutside_34 : decode cX0_fromOutside 34 = .ok (.iload_n 1, 1) := by decide +kernel
theorem dX0_fromOutside_35 : decode cX0_fromOutside 35 = .ok (.imul, 1) := by decide +kernel
theorem dX0_fromOutside_36 : decode cX0_fromOutside 36 = .ok (.iload_n 3, 1) := by decide +kernel
theorem dX0_fromOutside_37 : decode cX0_fromOutside 37 = .ok (.isub, 1) := by decide +kernel
theorem dX0_fromOutside_38 : decode cX0_fromOutside 38 = .ok (.iconst 4, 1) := by decide +kernel
theorem dX0_fromOutside_39 : decode cX0_fromOutside 39 = .ok (.idiv, 1) := by decide +kernel
theorem dX0_fromOutside_40 : decode cX0_fromOutside 40 = .ok (.goto 11, 3) := by decide +kernel
theorem dX0_fromOutside_43 : decode cX0_fromOutside 43 = .ok (.sipush 200, 3) := by decide +kernel
theorem dX0_fromOutside_46 : decode cX0_fromOutside 46 = .ok (.iload_n 3, 1) := by decide +kernel
theorem dX0_fromOutside_47 : decode cX0_fromOutside 47 = .ok (.isub, 1) := by decide +kernel
theorem dX0_fromOutside_48 : decode cX0_fromOutside 48 = .ok (.bipush 16, 2) := by decide +kernel
theorem dX0_fromOutside_50 : decode cX0_fromOutside 50 = .ok (.idiv, 1) := by decide +kernel
theorem dX0_fromOutside_51 : decode cX0_fromOutside 51 = .ok (.ireturn, 1) := by decide +kernel
theorem dX0_fromOutside_52 : decode cX0_fromOutside 52 = .ok (.bipush 100, 2) := by decide +kernel
theorem dX0_fromOutside_54 : decode cX0_fromOutside 54 = .ok (.iload_n 1, 1) := by decide +kernel
theorem dX0_fromOutside_55 : decode cX0_fromOutside 55 = .ok (.imul, 1) := by decide +kernel
theorem dX0_fromOutside_56 : decode cX0_fromOutside 56 = .ok (.iload_n 3, 1) := by decide +kernel
theorem dX0_fromOutside_57 : decode cX0_fromOutside 57 = .ok (.isub, 1) := by decide +kernel
theorem dX0_fromOutside_58 : decode cX0_fromOutside 58 = .ok (.bipush 12, 2) := by decide +kernel
theorem dX0_fromOutside_60 : decode cX0_fromOutside 60 = .ok (.idiv, 1) := by decide +kernel
theorem dX0_fromOutside_61 : decode cX0_fromOutside 61 = .ok (.ireturn, 1) := by decide +kernel
theorem dX0_fromOutside_62 : decode cX0_fromOutside 62 = .ok (.bipush 100, 2) := by decide +kernel
theorem dX0_fromOutside_64 : decode cX0_fromOutside 64 = .ok (.iload_n 1, 1) := by decide +kernel
theorem dX0_fromOutside_65 : decode cX0_fromOutside 65 = .ok (.imul, 1) := by decide +kernel
theorem dX0_fromOutside_66 : decode cX0_fromOutside 66 = .ok (.iload_n 3, 1) := by decide +kernel
theorem dX0_fromOutside_67 : decode cX0_fromOutside 67 = .ok (.isub, 1) := by decide +kernel
theorem dX0_fromOutside_68 : decode cX0_fromOutside 68 = .ok (.iconst 2, 1) := by decide +kernel
theorem dX0_fromOutside_69 : decode cX0_fromOutside 69 = .ok (.idiv, 1) := by decide +kernel
theorem dX0_fromOutside_70 : decode cX0_fromOutside 70 = .ok (.ireturn, 1) := by decide +kernel
theorem dX0_fromOutside_71 : decode cX0_fromOutside 71 = .ok (.sipush 200, 3) := by decide +kernel
theorem dX0_fromOutside_74 : decode cX0_fromOutside 74 = .ok (.iload_n 3, 1) := by decide +kernel
theorem dX0_fromOutside_75 : decode cX0_fromOutside 75 = .ok (.isub, 1) := by decide +kernel
theorem dX0_fromOutside_76 : decode cX0_fromOutside 76 = .ok (.bipush 20, 2) := by decide +kernel
theorem dX0_fromOutside_78 : decode cX0_fromOutside 78 = .ok (.idiv, 1) := by decide +kernel
theorem dX0_fromOutside_79 : decode cX0_fromOutside 79 = .ok (.ireturn, 1) := by decide +kernel
theorem dX0_browns_0 : decode cX0_browns 0 = .ok (.iload_n 2, 1) := by decide +kernel
theorem dX0_browns_1 : decode cX0_browns 1 = .ok (.ifCond .lt 18, 3) := by decide +kernel
theorem dX0_browns_4 : decode cX0_browns 4 = .ok (.iload_n 2, 1) := by decide +kernel
theorem dX0_browns_5 : decode cX0_browns 5 = .ok (.bipush 20, 2) := by decide +kernel
theorem dX0_browns_7 : decode cX0_browns 7 = .ok (.if_icmp .ge 12, 3) := by decide +kernel
theorem dX0_browns_10 : decode cX0_browns 10 = .ok (.iload_n 1, 1) := by decide +kernel
theorem dX0_browns_11 : decode cX0_browns 11 = .ok (.ifCond .lt 8, 3) := by decide +kernel
theorem dX0_browns_14 : decode cX0_browns 14 = .ok (.iload_n 1, 1) := by decide +kernel
theorem dX0_browns_15 : decode cX0_browns 15 = .ok (.iconst 1, 1) := by decide +kernel
theorem dX0_browns_16 : decode cX0_browns 16 = .ok (.if_icmp .le 4, 3) := by decide +kernel
theorem dX0_browns_19 : decode cX0_browns 19 = .ok (.return_, 1) := by decide +kernel
theorem dX0_browns_20 : decode cX0_browns 20 = .ok (.aload_n 0, 1) := by decide +kernel
theorem dX0_browns_21 : decode cX0_browns 21 = .ok (.getfield 24, 3) := by decide +kernel
theorem dX0_browns_24 : decode cX0_browns 24 = .ok (.iload_n 1, 1) := by decide +kernel
theorem dX0_browns_25 : decode cX0_browns 25 = .ok (.iaload, 1) := by decide +kernel
theorem dX0_browns_26 : decode cX0_browns 26 = .ok (.ifCond .ne 44, 3) := by decide +kernel
theorem dX0_browns_29 : decode cX0_browns 29 = .ok (.aload_n 0, 1) := by decide +kernel
theorem dX0_browns_30 : decode cX0_browns 30 = .ok (.getfield 9, 3) := by decide +kernel
theorem dX0_browns_33 : decode cX0_browns 33 = .ok (.iload_n 2, 1) := by decide +kernel
theorem dX0_browns_34 : decode cX0_browns 34 = .ok (.iaload, 1) := by decide +kernel
theorem dX0_browns_35 : decode cX0_browns 35 = .ok (.sipush 1400, 3) := by decide +kernel
theorem dX0_browns_38 : decode cX0_browns 38 = .ok (.if_icmp .lt 32, 3) := by decide +kernel
theorem dX0_browns_41 : decode cX0_browns 41 = .ok (.aload_n 0, 1) := by decide +kernel
theorem dX0_browns_42 : decode cX0_browns 42 = .ok (.getfield 27, 3) := by decide +kernel
theorem dX0_browns_45 : decode cX0_browns 45 = .ok (.iload_n 1, 1) := by decide +kernel
theorem dX0_browns_46 : decode cX0_browns 46 = .ok (.dup2, 1) := by decide +kernel
theorem dX0_browns_47 : decode cX0_browns 47 = .ok (.iaload, 1) := by decide +kernel
theorem dX0_browns_48 : decode cX0_browns 48 = .ok (.aload_n 0, 1) := by decide +kernel
theorem dX0_browns_49 : decode cX0_browns 49 = .ok (.getfield 9, 3) := by decide +kernel
theorem dX0_browns_52 : decode cX0_browns 52 = .ok (.iload_n 2, 1) := by decide +kernel
theorem dX0_browns_53 : decode cX0_browns 53 = .ok (.iaload, 1) := by decide +kernel
theorem dX0_browns_54 : decode cX0_browns 54 = .ok (.sipush 1400, 3) := by decide +kernel
theorem dX0_browns_57 : decode cX0_browns 57 = .ok (.isub, 1) := by decide +kernel
theorem dX0_browns_58 : decode cX0_browns 58 = .ok (.bipush 100, 2) := by decide +kernel
theorem dX0_browns_60 : decode cX0_browns 60 = .ok (.idiv, 1) := by decide +kernel
theorem dX0_browns_61 : decode cX0_browns 61 = .ok (.aload_n 0, 1) := by decide +kernel
theorem dX0_browns_62 : decode cX0_browns 62 = .ok (.getfield 58, 3) := by decide +kernel
theorem dX0_browns_65 : decode cX0_browns 65 = .ok (.iconst 4, 1) := by decide +kernel
theorem dX0_browns_66 : decode cX0_browns 66 = .ok (.idiv, 1) := by decide +kernel
theorem dX0_browns_67 : decode cX0_browns 67 = .ok (.iadd, 1) := by decide +kernel
theorem dX0_browns_68 : decode cX0_browns 68 = .ok (.iadd, 1) := by decide +kernel
theorem dX0_browns_69 : decode cX0_browns 69 = .ok (.iastore, 1) := by decide +kernel
theorem dX0_browns_70 : decode cX0_browns 70 = .ok (.return_, 1) := by decide +kernel
theorem dX0_middle_0 : decode cX0_middle 0 = .ok (.aload_n 0, 1) := by decide +kernel
theorem dX0_middle_1 : decode cX0_middle 1 = .ok (.getfield 37, 3) := by decide +kernel
theorem dX0_middle_4 : decode cX0_middle 4 = .ok (.iconst 2, 1) := by decide +kernel
theorem dX0_middle_5 : decode cX0_middle 5 = .ok (.idiv, 1) := by decide +kernel
theorem dX0_middle_6 : decode cX0_middle 6 = .ok (.ireturn, 1) := by decide +kernel
theorem dX0_has_0 : decode cX0_has 0 = .ok (.iload_n 1, 1) := by decide +kernel
theorem dX0_has_1 : decode cX0_has 1 = .ok (.ifCond .lt 21, 3) := by decide +kernel
theorem dX0_has_4 : decode cX0_has 4 = .ok (.iload_n 1, 1) := by decide +kernel
theorem dX0_has_5 : decode cX0_has 5 = .ok (.aload_n 0, 1) := by decide +kernel
theorem dX0_has_6 : decode cX0_has 6 = .ok (.getfield 37, 3) := by decide +kernel
theorem dX0_has_9 : decode cX0_has 9 = .ok (.if_icmp .ge 13, 3) := by decide +kernel
theorem dX0_has_12 : decode cX0_has 12 = .ok (.iload_n 1, 1) := by decide +kernel
theorem dX0_has_13 : decode cX0_has 13 = .ok (.bipush 20, 2) := by decide +kernel
theorem dX0_has_15 : decode cX0_has 15 = .ok (.if_icmp .ge 7, 3) := by decide +kernel
theorem dX0_has_18 : decode cX0_has 18 = .ok (.iconst 1, 1) := by decide +kernel
theorem dX0_has_19 : decode cX0_has 19 = .ok (.goto 4, 3) := by decide +kernel
theorem dX0_has_22 : decode cX0_has 22 = .ok (.iconst 0, 1) := by decide +kernel
theorem dX0_has_23 : decode cX0_has 23 = .ok (.ireturn, 1) := by decide +kernel
theorem dX0_wetOf_0 : decode cX0_wetOf 0 = .ok (.iload_n 1, 1) := by decide +kernel
theorem dX0_wetOf_1 : decode cX0_wetOf 1 = .ok (.ifCond .lt 17, 3) := by decide +kernel
theorem dX0_wetOf_4 : decode cX0_wetOf 4 = .ok (.iload_n 1, 1) := by decide +kernel
theorem dX0_wetOf_5 : decode cX0_wetOf 5 = .ok (.iconst 2, 1) := by decide +kernel
theorem dX0_wetOf_6 : decode cX0_wetOf 6 = .ok (.if_icmp .ge 12, 3) := by decide +kernel
theorem dX0_wetOf_9 : decode cX0_wetOf 9 = .ok (.aload_n 0, 1) := by decide +kernel
theorem dX0_wetOf_10 : decode cX0_wetOf 10 = .ok (.getfield 24, 3) := by decide +kernel
theorem dX0_wetOf_13 : decode cX0_wetOf 13 = .ok (.iload_n 1, 1) := by decide +kernel
theorem dX0_wetOf_14 : decode cX0_wetOf 14 = .ok (.iaload, 1) := by decide +kernel
theorem dX0_wetOf_15 : decode cX0_wetOf 15 = .ok (.goto 4, 3) := by decide +kernel
theorem dX0_wetOf_18 : decode cX0_wetOf 18 = .ok (.iconst 0, 1) := by decide +kernel
theorem dX0_wetOf_19 : decode cX0_wetOf 19 = .ok (.ireturn, 1) := by decide +kernel
theorem dX0_brownOf_0 : decode cX0_brownOf 0 = .ok (.iload_n 1, 1) := by decide +kernel
theorem dX0_brownOf_1 : decode cX0_brownOf 1 = .ok (.ifCond .lt 17, 3) := by decide +kernel
theorem dX0_brownOf_4 : decode cX0_brownOf 4 = .ok (.iload_n 1, 1) := by decide +kernel
theorem dX0_brownOf_5 : decode cX0_brownOf 5 = .ok (.iconst 2, 1) := by decide +kernel
theorem dX0_brownOf_6 : decode cX0_brownOf 6 = .ok (.if_icmp .ge 12, 3) := by decide +kernel
theorem dX0_brownOf_9 : decode cX0_brownOf 9 = .ok (.aload_n 0, 1) := by decide +kernel
theorem dX0_brownOf_10 : decode cX0_brownOf 10 = .ok (.getfield 27, 3) := by decide +kernel
theorem dX0_brownOf_13 : decode cX0_brownOf 13 = .ok (.iload_n 1, 1) := by decide +kernel
theorem dX0_brownOf_14 : decode cX0_brownOf 14 = .ok (.iaload, 1) := by decide +kernel
theorem dX0_brownOf_15 : decode cX0_brownOf 15 = .ok (.goto 4, 3) := by decide +kernel
theorem dX0_brownOf_18 : decode cX0_brownOf 18 = .ok (.iconst 0, 1) := by decide +kernel
theorem dX0_brownOf_19 : decode cX0_brownOf 19 = .ok (.ireturn, 1) := by decide +kernel
theorem dX0_begin_0 : decode cX0_begin 0 = .ok (.aload_n 0, 1) := by decide +kernel
theorem dX0_begin_1 : decode cX0_begin 1 = .ok (.iconst 3, 1) := by decide +kernel
theorem dX0_begin_2 : decode cX0_begin 2 = .ok (.iload_n 2, 1) := by decide +kernel
theorem dX0_begin_3 : decode cX0_begin 3 = .ok (.bipush 20, 2) := by decide +kernel
theorem dX0_begin_5 : decode cX0_begin 5 = .ok (.invokestatic 41, 3) := by decide +kernel
theorem dX0_begin_8 : decode cX0_begin 8 = .ok (.invokestatic 47, 3) := by decide +kernel
theorem dX0_begin_11 : decode cX0_begin 11 = .ok (.putfield 37, 3) := by decide +kernel
theorem dX0_begin_14 : decode cX0_begin 14 = .ok (.aload_n 0, 1) := by decide +kernel
theorem dX0_begin_15 : decode cX0_begin 15 = .ok (.iload_n 3, 1) := by decide +kernel
theorem dX0_begin_16 : decode cX0_begin 16 = .ok (.putfield 50, 3) := by decide +kernel
theorem dX0_begin_19 : decode cX0_begin 19 = .ok (.aload_n 0, 1) := by decide +kernel
theorem dX0_begin_20 : decode cX0_begin 20 = .ok (.aload_n 1, 1) := by decide +kernel
theorem dX0_begin_21 : decode cX0_begin 21 = .ok (.getfield 53, 3) := by decide +kernel
theorem dX0_begin_24 : decode cX0_begin 24 = .ok (.putfield 58, 3) := by decide +kernel
theorem dX0_begin_27 : decode cX0_begin 27 = .ok (.iconst 0, 1) := by decide +kernel
theorem dX0_begin_28 : decode cX0_begin 28 = .ok (.istore 4, 2) := by decide +kernel
theorem dX0_begin_30 : decode cX0_begin 30 = .ok (.iload 4, 2) := by decide +kernel
theorem dX0_begin_32 : decode cX0_begin 32 = .ok (.bipush 20, 2) := by decide +kernel
theorem dX0_begin_34 : decode cX0_begin 34 = .ok (.if_icmp .ge 46, 3) := by decide +kernel
theorem dX0_begin_37 : decode cX0_begin 37 = .ok (.aload_n 0, 1) := by decide +kernel
theorem dX0_begin_38 : decode cX0_begin 38 = .ok (.getfield 9, 3) := by decide +kernel
theorem dX0_begin_41 : decode cX0_begin 41 = .ok (.iload 4, 2) := by decide +kernel
theorem dX0_begin_43 : decode cX0_begin 43 = .ok (.bipush 10, 2) := by decide +kernel
theorem dX0_begin_45 : decode cX0_begin 45 = .ok (.aload_n 1, 1) := by decide +kernel
theorem dX0_begin_46 : decode cX0_begin 46 = .ok (.getfield 59, 3) := by decide +kernel
theorem dX0_begin_49 : decode cX0_begin 49 = .ok (.imul, 1) := by decide +kernel
theorem dX0_begin_50 : decode cX0_begin 50 = .ok (.iastore, 1) := by decide +kernel
theorem dX0_begin_51 : decode cX0_begin 51 = .ok (.aload_n 0, 1) := by decide +kernel
theorem dX0_begin_52 : decode cX0_begin 52 = .ok (.getfield 18, 3) := by decide +kernel
theorem dX0_begin_55 : decode cX0_begin 55 = .ok (.iload 4, 2) := by decide +kernel
theorem dX0_begin_57 : decode cX0_begin 57 = .ok (.bipush 10, 2) := by decide +kernel
theorem dX0_begin_59 : decode cX0_begin 59 = .ok (.aload_n 1, 1) := by decide +kernel
theorem dX0_begin_60 : decode cX0_begin 60 = .ok (.getfield 59, 3) := by decide +kernel
theorem dX0_begin_63 : decode cX0_begin 63 = .ok (.imul, 1) := by decide +kernel
theorem dX0_begin_64 : decode cX0_begin 64 = .ok (.iastore, 1) := by decide +kernel
theorem dX0_begin_65 : decode cX0_begin 65 = .ok (.aload_n 0, 1) := by decide +kernel
theorem dX0_begin_66 : decode cX0_begin 66 = .ok (.getfield 21, 3) := by decide +kernel
theorem dX0_begin_69 : decode cX0_begin 69 = .ok (.iload 4, 2) := by decide +kernel
theorem dX0_begin_71 : decode cX0_begin 71 = .ok (.bipush 100, 2) := by decide +kernel
theorem dX0_begin_73 : decode cX0_begin 73 = .ok (.iastore, 1) := by decide +kernel
theorem dX0_begin_74 : decode cX0_begin 74 = .ok (.iinc 4 1, 3) := by decide +kernel
theorem dX0_begin_77 : decode cX0_begin 77 = .ok (.goto (-47), 3) := by decide +kernel
theorem dX0_begin_80 : decode cX0_begin 80 = .ok (.iconst 0, 1) := by decide +kernel
theorem dX0_begin_81 : decode cX0_begin 81 = .ok (.istore 4, 2) := by decide +kernel
theorem dX0_begin_83 : decode cX0_begin 83 = .ok (.iload 4, 2) := by decide +kernel
theorem dX0_begin_85 : decode cX0_begin 85 = .ok (.iconst 2, 1) := by decide +kernel
theorem dX0_begin_86 : decode cX0_begin 86 = .ok (.if_icmp .ge 47, 3) := by decide +kernel
theorem dX0_begin_89 : decode cX0_begin 89 = .ok (.aload_n 0, 1) := by decide +kernel
theorem dX0_begin_90 : decode cX0_begin 90 = .ok (.getfield 24, 3) := by decide +kernel
theorem dX0_begin_93 : decode cX0_begin 93 = .ok (.iload 4, 2) := by decide +kernel
theorem dX0_begin_95 : decode cX0_begin 95 = .ok (.iload_n 3, 1) := by decide +kernel
theorem dX0_begin_96 : decode cX0_begin 96 = .ok (.bipush 10, 2) := by decide +kernel
theorem dX0_begin_98 : decode cX0_begin 98 = .ok (.if_icmp .gt 12, 3) := by decide +kernel
theorem dX0_begin_101 : decode cX0_begin 101 = .ok (.bipush 20, 2) := by decide +kernel
theorem dX0_begin_103 : decode cX0_begin 103 = .ok (.iconst 2, 1) := by decide +kernel
theorem dX0_begin_104 : decode cX0_begin 104 = .ok (.iload_n 3, 1) := by decide +kernel
theorem dX0_begin_105 : decode cX0_begin 105 = .ok (.imul, 1) := by decide +kernel
theorem dX0_begin_106 : decode cX0_begin 106 = .ok (.iadd, 1) := by decide +kernel
theorem dX0_begin_107 : decode cX0_begin 107 = .ok (.goto 11, 3) := by decide +kernel
theorem dX0_begin_110 : decode cX0_begin 110 = .ok (.bipush 50, 2) := by decide +kernel
theorem dX0_begin_112 : decode cX0_begin 112 = .ok (.iload_n 3, 1) := by decide +kernel
theorem dX0_begin_113 : decode cX0_begin 113 = .ok (.isub, 1) := by decide +kernel
theorem dX0_begin_114 : decode cX0_begin 114 = .ok (.iconst 0, 1) := by decide +kernel
theorem dX0_begin_115 : decode cX0_begin 115 = .ok (.invokestatic 47, 3) := by decide +kernel
theorem dX0_begin_118 : decode cX0_begin 118 = .ok (.iastore, 1) := by decide +kernel
theorem dX0_begin_119 : decode cX0_begin 119 = .ok (.aload_n 0, 1) := by decide +kernel
theorem dX0_begin_120 : decode cX0_begin 120 = .ok (.getfield 27, 3) := by decide +kernel
theorem dX0_begin_123 : decode cX0_begin 123 = .ok (.iload 4, 2) := by decide +kernel
theorem dX0_begin_125 : decode cX0_begin 125 = .ok (.iconst 0, 1) := by decide +kernel
theorem dX0_begin_126 : decode cX0_begin 126 = .ok (.iastore, 1) := by decide +kernel
theorem dX0_begin_127 : decode cX0_begin 127 = .ok (.iinc 4 1, 3) := by decide +kernel
theorem dX0_begin_130 : decode cX0_begin 130 = .ok (.goto (-47), 3) := by decide +kernel
theorem dX0_begin_133 : decode cX0_begin 133 = .ok (.aload_n 0, 1) := by decide +kernel
theorem dX0_begin_134 : decode cX0_begin 134 = .ok (.getfield 33, 3) := by decide +kernel
theorem dX0_begin_137 : decode cX0_begin 137 = .ok (.invokevirtual 62, 3) := by decide +kernel
theorem dX0_begin_140 : decode cX0_begin 140 = .ok (.aload_n 0, 1) := by decide +kernel
theorem dX0_begin_141 : decode cX0_begin 141 = .ok (.iconst 0, 1) := by decide +kernel
theorem dX0_begin_142 : decode cX0_begin 142 = .ok (.putfield 65, 3) := by decide +kernel
theorem dX0_begin_145 : decode cX0_begin 145 = .ok (.aload_n 0, 1) := by decide +kernel
theorem dX0_begin_146 : decode cX0_begin 146 = .ok (.iconst 0, 1) := by decide +kernel
theorem dX0_begin_147 : decode cX0_begin 147 = .ok (.putfield 68, 3) := by decide +kernel
theorem dX0_begin_150 : decode cX0_begin 150 = .ok (.aload_n 0, 1) := by decide +kernel
theorem dX0_begin_151 : decode cX0_begin 151 = .ok (.iconst 0, 1) := by decide +kernel
theorem dX0_begin_152 : decode cX0_begin 152 = .ok (.putfield 71, 3) := by decide +kernel
theorem dX0_begin_155 : decode cX0_begin 155 = .ok (.aload_n 0, 1) := by decide +kernel
theorem dX0_begin_156 : decode cX0_begin 156 = .ok (.iconst 0, 1) := by decide +kernel
theorem dX0_begin_157 : decode cX0_begin 157 = .ok (.putfield 74, 3) := by decide +kernel
theorem dX0_begin_160 : decode cX0_begin 160 = .ok (.aload_n 0, 1) := by decide +kernel
theorem dX0_begin_161 : decode cX0_begin 161 = .ok (.iconst 0, 1) := by decide +kernel
theorem dX0_begin_162 : decode cX0_begin 162 = .ok (.putfield 77, 3) := by decide +kernel
theorem dX0_begin_165 : decode cX0_begin 165 = .ok (.aload_n 0, 1) := by decide +kernel
theorem dX0_begin_166 : decode cX0_begin 166 = .ok (.iconst 0, 1) := by decide +kernel
theorem dX0_begin_167 : decode cX0_begin 167 = .ok (.putfield 80, 3) := by decide +kernel
theorem dX0_begin_170 : decode cX0_begin 170 = .ok (.return_, 1) := by decide +kernel
theorem dX0_spread_0 : decode cX0_spread 0 = .ok (.aload_n 0, 1) := by decide +kernel
theorem dX0_spread_1 : decode cX0_spread 1 = .ok (.getfield 37, 3) := by decide +kernel
theorem dX0_spread_4 : decode cX0_spread 4 = .ok (.iconst 1, 1) := by decide +kernel
theorem dX0_spread_5 : decode cX0_spread 5 = .ok (.isub, 1) := by decide +kernel
theorem dX0_spread_6 : decode cX0_spread 6 = .ok (.istore_n 3, 1) := by decide +kernel
theorem dX0_spread_7 : decode cX0_spread 7 = .ok (.iload_n 3, 1) := by decide +kernel
theorem dX0_spread_8 : decode cX0_spread 8 = .ok (.iconst 1, 1) := by decide +kernel
theorem dX0_spread_9 : decode cX0_spread 9 = .ok (.if_icmp .lt 9, 3) := by decide +kernel
theorem dX0_spread_12 : decode cX0_spread 12 = .ok (.iload_n 3, 1) := by decide +kernel
theorem dX0_spread_13 : decode cX0_spread 13 = .ok (.bipush 20, 2) := by decide +kernel
theorem dX0_spread_15 : decode cX0_spread 15 = .ok (.if_icmp .lt 4, 3) := by decide +kernel
theorem dX0_spread_18 : decode cX0_spread 18 = .ok (.return_, 1) := by decide +kernel
theorem dX0_spread_19 : decode cX0_spread 19 = .ok (.iconst 1, 1) := by decide +kernel
theorem dX0_spread_20 : decode cX0_spread 20 = .ok (.istore 4, 2) := by decide +kernel
theorem dX0_spread_22 : decode cX0_spread 22 = .ok (.iload 4, 2) := by decide +kernel
theorem dX0_spread_24 : decode cX0_spread 24 = .ok (.iload_n 3, 1) := by decide +kernel
theorem dX0_spread_25 : decode cX0_spread 25 = .ok (.if_icmp .ge 55, 3) := by decide +kernel
theorem dX0_spread_28 : decode cX0_spread 28 = .ok (.aload_n 0, 1) := by decide +kernel
theorem dX0_spread_29 : decode cX0_spread 29 = .ok (.getfield 15, 3) := by decide +kernel
theorem dX0_spread_32 : decode cX0_spread 32 = .ok (.iload 4, 2) := by decide +kernel
theorem dX0_spread_34 : decode cX0_spread 34 = .ok (.aload_n 0, 1) := by decide +kernel
theorem dX0_spread_35 : decode cX0_spread 35 = .ok (.getfield 9, 3) := by decide +kernel
theorem dX0_spread_38 : decode cX0_spread 38 = .ok (.iload 4, 2) := by decide +kernel
theorem dX0_spread_40 : decode cX0_spread 40 = .ok (.iaload, 1) := by decide +kernel
theorem dX0_spread_41 : decode cX0_spread 41 = .ok (.aload_n 0, 1) := by decide +kernel
theorem dX0_spread_42 : decode cX0_spread 42 = .ok (.getfield 9, 3) := by decide +kernel
theorem dX0_spread_45 : decode cX0_spread 45 = .ok (.iload 4, 2) := by decide +kernel
theorem dX0_spread_47 : decode cX0_spread 47 = .ok (.iconst 1, 1) := by decide +kernel
theorem dX0_spread_48 : decode cX0_spread 48 = .ok (.isub, 1) := by decide +kernel
theorem dX0_spread_49 : decode cX0_spread 49 = .ok (.iaload, 1) := by decide +kernel
theorem dX0_spread_50 : decode cX0_spread 50 = .ok (.aload_n 0, 1) := by decide +kernel
theorem dX0_spread_51 : decode cX0_spread 51 = .ok (.getfield 9, 3) := by decide +kernel
theorem dX0_spread_54 : decode cX0_spread 54 = .ok (.iload 4, 2) := by decide +kernel
theorem dX0_spread_56 : decode cX0_spread 56 = .ok (.iconst 1, 1) := by decide +kernel
theorem dX0_spread_57 : decode cX0_spread 57 = .ok (.iadd, 1) := by decide +kernel
theorem dX0_spread_58 : decode cX0_spread 58 = .ok (.iaload, 1) := by decide +kernel
theorem dX0_spread_59 : decode cX0_spread 59 = .ok (.iadd, 1) := by decide +kernel
theorem dX0_spread_60 : decode cX0_spread 60 = .ok (.iconst 2, 1) := by decide +kernel
theorem dX0_spread_61 : decode cX0_spread 61 = .ok (.aload_n 0, 1) := by decide +kernel
theorem dX0_spread_62 : decode cX0_spread 62 = .ok (.getfield 9, 3) := by decide +kernel
theorem dX0_spread_65 : decode cX0_spread 65 = .ok (.iload 4, 2) := by decide +kernel
theorem dX0_spread_67 : decode cX0_spread 67 = .ok (.iaload, 1) := by decide +kernel
theorem dX0_spread_68 : decode cX0_spread 68 = .ok (.imul, 1) := by decide +kernel
theorem dX0_spread_69 : decode cX0_spread 69 = .ok (.isub, 1) := by decide +kernel
theorem dX0_spread_70 : decode cX0_spread 70 = .ok (.iconst 4, 1) := by decide +kernel
theorem dX0_spread_71 : decode cX0_spread 71 = .ok (.idiv, 1) := by decide +kernel
theorem dX0_spread_72 : decode cX0_spread 72 = .ok (.iadd, 1) := by decide +kernel
theorem dX0_spread_73 : decode cX0_spread 73 = .ok (.iastore, 1) := by decide +kernel
theorem dX0_spread_74 : decode cX0_spread 74 = .ok (.iinc 4 1, 3) := by decide +kernel
theorem dX0_spread_77 : decode cX0_spread 77 = .ok (.goto (-55), 3) := by decide +kernel
theorem dX0_spread_80 : decode cX0_spread 80 = .ok (.aload_n 0, 1) := by decide +kernel
theorem dX0_spread_81 : decode cX0_spread 81 = .ok (.getfield 15, 3) := by decide +kernel
theorem dX0_spread_84 : decode cX0_spread 84 = .ok (.iconst 0, 1) := by decide +kernel
theorem dX0_spread_85 : decode cX0_spread 85 = .ok (.aload_n 0, 1) := by decide +kernel
theorem dX0_spread_86 : decode cX0_spread 86 = .ok (.getfield 9, 3) := by decide +kernel
theorem dX0_spread_89 : decode cX0_spread 89 = .ok (.iconst 0, 1) := by decide +kernel
theorem dX0_spread_90 : decode cX0_spread 90 = .ok (.iaload, 1) := by decide +kernel
theorem dX0_spread_91 : decode cX0_spread 91 = .ok (.aload_n 0, 1) := by decide +kernel
theorem dX0_spread_92 : decode cX0_spread 92 = .ok (.getfield 9, 3) := by decide +kernel
theorem dX0_spread_95 : decode cX0_spread 95 = .ok (.iconst 1, 1) := by decide +kernel
theorem dX0_spread_96 : decode cX0_spread 96 = .ok (.iaload, 1) := by decide +kernel
theorem dX0_spread_97 : decode cX0_spread 97 = .ok (.aload_n 0, 1) := by decide +kernel
theorem dX0_spread_98 : decode cX0_spread 98 = .ok (.getfield 9, 3) := by decide +kernel
theorem dX0_spread_101 : decode cX0_spread 101 = .ok (.iconst 0, 1) := by decide +kernel
theorem dX0_spread_102 : decode cX0_spread 102 = .ok (.iaload, 1) := by decide +kernel
theorem dX0_spread_103 : decode cX0_spread 103 = .ok (.isub, 1) := by decide +kernel
theorem dX0_spread_104 : decode cX0_spread 104 = .ok (.iconst 4, 1) := by decide +kernel
theorem dX0_spread_105 : decode cX0_spread 105 = .ok (.idiv, 1) := by decide +kernel
theorem dX0_spread_106 : decode cX0_spread 106 = .ok (.iadd, 1) := by decide +kernel
theorem dX0_spread_107 : decode cX0_spread 107 = .ok (.iload_n 1, 1) := by decide +kernel
theorem dX0_spread_108 : decode cX0_spread 108 = .ok (.iload_n 2, 1) := by decide +kernel
theorem dX0_spread_109 : decode cX0_spread 109 = .ok (.aload_n 0, 1) := by decide +kernel
theorem dX0_spread_110 : decode cX0_spread 110 = .ok (.getfield 65, 3) := by decide +kernel
theorem dX0_spread_113 : decode cX0_spread 113 = .ok (.ifCond .ne 7, 3) := by decide +kernel
theorem dX0_spread_116 : decode cX0_spread 116 = .ok (.iconst 1, 1) := by decide +kernel
theorem dX0_spread_117 : decode cX0_spread 117 = .ok (.goto 4, 3) := by decide +kernel
theorem dX0_spread_120 : decode cX0_spread 120 = .ok (.iconst 0, 1) := by decide +kernel
theorem dX0_spread_121 : decode cX0_spread 121 = .ok (.aload_n 0, 1) := by decide +kernel
theorem dX0_spread_122 : decode cX0_spread 122 = .ok (.getfield 9, 3) := by decide +kernel
theorem dX0_spread_125 : decode cX0_spread 125 = .ok (.iconst 0, 1) := by decide +kernel
theorem dX0_spread_126 : decode cX0_spread 126 = .ok (.iaload, 1) := by decide +kernel
theorem dX0_spread_127 : decode cX0_spread 127 = .ok (.invokestatic 143, 3) := by decide +kernel
theorem dX0_spread_130 : decode cX0_spread 130 = .ok (.iadd, 1) := by decide +kernel
theorem dX0_spread_131 : decode cX0_spread 131 = .ok (.iastore, 1) := by decide +kernel
theorem dX0_spread_132 : decode cX0_spread 132 = .ok (.aload_n 0, 1) := by decide +kernel
theorem dX0_spread_133 : decode cX0_spread 133 = .ok (.getfield 15, 3) := by decide +kernel
theorem dX0_spread_136 : decode cX0_spread 136 = .ok (.iload_n 3, 1) := by decide +kernel
theorem dX0_spread_137 : decode cX0_spread 137 = .ok (.aload_n 0, 1) := by decide +kernel
theorem dX0_spread_138 : decode cX0_spread 138 = .ok (.getfield 9, 3) := by decide +kernel
theorem dX0_spread_141 : decode cX0_spread 141 = .ok (.iload_n 3, 1) := by decide +kernel
theorem dX0_spread_142 : decode cX0_spread 142 = .ok (.iaload, 1) := by decide +kernel
theorem dX0_spread_143 : decode cX0_spread 143 = .ok (.aload_n 0, 1) := by decide +kernel
theorem dX0_spread_144 : decode cX0_spread 144 = .ok (.getfield 9, 3) := by decide +kernel
theorem dX0_spread_147 : decode cX0_spread 147 = .ok (.iload_n 3, 1) := by decide +kernel
theorem dX0_spread_148 : decode cX0_spread 148 = .ok (.iconst 1, 1) := by decide +kernel
theorem dX0_spread_149 : decode cX0_spread 149 = .ok (.isub, 1) := by decide +kernel
theorem dX0_spread_150 : decode cX0_spread 150 = .ok (.iaload, 1) := by decide +kernel
theorem dX0_spread_151 : decode cX0_spread 151 = .ok (.aload_n 0, 1) := by decide +kernel
theorem dX0_spread_152 : decode cX0_spread 152 = .ok (.getfield 9, 3) := by decide +kernel
theorem dX0_spread_155 : decode cX0_spread 155 = .ok (.iload_n 3, 1) := by decide +kernel
theorem dX0_spread_156 : decode cX0_spread 156 = .ok (.iaload, 1) := by decide +kernel
theorem dX0_spread_157 : decode cX0_spread 157 = .ok (.isub, 1) := by decide +kernel
theorem dX0_spread_158 : decode cX0_spread 158 = .ok (.iconst 4, 1) := by decide +kernel
theorem dX0_spread_159 : decode cX0_spread 159 = .ok (.idiv, 1) := by decide +kernel
theorem dX0_spread_160 : decode cX0_spread 160 = .ok (.iadd, 1) := by decide +kernel
theorem dX0_spread_161 : decode cX0_spread 161 = .ok (.iload_n 1, 1) := by decide +kernel
theorem dX0_spread_162 : decode cX0_spread 162 = .ok (.iload_n 2, 1) := by decide +kernel
theorem dX0_spread_163 : decode cX0_spread 163 = .ok (.aload_n 0, 1) := by decide +kernel
theorem dX0_spread_164 : decode cX0_spread 164 = .ok (.getfield 65, 3) := by decide +kernel
theorem dX0_spread_167 : decode cX0_spread 167 = .ok (.iconst 1, 1) := by decide +kernel
theorem dX0_spread_168 : decode cX0_spread 168 = .ok (.if_icmp .ne 7, 3) := by decide +kernel
theorem dX0_spread_171 : decode cX0_spread 171 = .ok (.iconst 1, 1) := by decide +kernel
theorem dX0_spread_172 : decode cX0_spread 172 = .ok (.goto 4, 3) := by decide +kernel
theorem dX0_spread_175 : decode cX0_spread 175 = .ok (.iconst 0, 1) := by decide +kernel
theorem dX0_spread_176 : decode cX0_spread 176 = .ok (.aload_n 0, 1) := by decide +kernel
theorem dX0_spread_177 : decode cX0_spread 177 = .ok (.getfield 9, 3) := by decide +kernel
theorem dX0_spread_180 : decode cX0_spread 180 = .ok (.iload_n 3, 1) := by decide +kernel
theorem dX0_spread_181 : decode cX0_spread 181 = .ok (.iaload, 1) := by decide +kernel
theorem dX0_spread_182 : decode cX0_spread 182 = .ok (.invokestatic 143, 3) := by decide +kernel
theorem dX0_spread_185 : decode cX0_spread 185 = .ok (.iadd, 1) := by decide +kernel
theorem dX0_spread_186 : decode cX0_spread 186 = .ok (.iastore, 1) := by decide +kernel
theorem dX0_spread_187 : decode cX0_spread 187 = .ok (.iconst 0, 1) := by decide +kernel
theorem dX0_spread_188 : decode cX0_spread 188 = .ok (.istore 4, 2) := by decide +kernel
theorem dX0_spread_190 : decode cX0_spread 190 = .ok (.iload 4, 2) := by decide +kernel
theorem dX0_spread_192 : decode cX0_spread 192 = .ok (.iload_n 3, 1) := by decide +kernel
theorem dX0_spread_193 : decode cX0_spread 193 = .ok (.if_icmp .gt 23, 3) := by decide +kernel
theorem dX0_spread_196 : decode cX0_spread 196 = .ok (.aload_n 0, 1) := by decide +kernel
theorem dX0_spread_197 : decode cX0_spread 197 = .ok (.getfield 9, 3) := by decide +kernel
theorem dX0_spread_200 : decode cX0_spread 200 = .ok (.iload 4, 2) := by decide +kernel
theorem dX0_spread_202 : decode cX0_spread 202 = .ok (.aload_n 0, 1) := by decide +kernel
theorem dX0_spread_203 : decode cX0_spread 203 = .ok (.getfield 15, 3) := by decide +kernel
theorem dX0_spread_206 : decode cX0_spread 206 = .ok (.iload 4, 2) := by decide +kernel
theorem dX0_spread_208 : decode cX0_spread 208 = .ok (.iaload, 1) := by decide +kernel
theorem dX0_spread_209 : decode cX0_spread 209 = .ok (.iastore, 1) := by decide +kernel
theorem dX0_spread_210 : decode cX0_spread 210 = .ok (.iinc 4 1, 3) := by decide +kernel
theorem dX0_spread_213 : decode cX0_spread 213 = .ok (.goto (-23), 3) := by decide +kernel
theorem dX0_spread_216 : decode cX0_spread 216 = .ok (.return_, 1) := by decide +kernel
theorem dX0_boil_0 : decode cX0_boil 0 = .ok (.iload_n 2, 1) := by decide +kernel
theorem dX0_boil_1 : decode cX0_boil 1 = .ok (.ifCond .lt 18, 3) := by decide +kernel
theorem dX0_boil_4 : decode cX0_boil 4 = .ok (.iload_n 2, 1) := by decide +kernel
theorem dX0_boil_5 : decode cX0_boil 5 = .ok (.bipush 20, 2) := by decide +kernel
theorem dX0_boil_7 : decode cX0_boil 7 = .ok (.if_icmp .ge 12, 3) := by decide +kernel
theorem dX0_boil_10 : decode cX0_boil 10 = .ok (.iload_n 1, 1) := by decide +kernel
theorem dX0_boil_11 : decode cX0_boil 11 = .ok (.ifCond .lt 8, 3) := by decide +kernel
theorem dX0_boil_14 : decode cX0_boil 14 = .ok (.iload_n 1, 1) := by decide +kernel
theorem dX0_boil_15 : decode cX0_boil 15 = .ok (.iconst 1, 1) := by decide +kernel
theorem dX0_boil_16 : decode cX0_boil 16 = .ok (.if_icmp .le 4, 3) := by decide +kernel
theorem dX0_boil_19 : decode cX0_boil 19 = .ok (.return_, 1) := by decide +kernel
theorem dX0_boil_20 : decode cX0_boil 20 = .ok (.aload_n 0, 1) := by decide +kernel
theorem dX0_boil_21 : decode cX0_boil 21 = .ok (.getfield 24, 3) := by decide +kernel
theorem dX0_boil_24 : decode cX0_boil 24 = .ok (.iload_n 1, 1) := by decide +kernel
theorem dX0_boil_25 : decode cX0_boil 25 = .ok (.iaload, 1) := by decide +kernel
theorem dX0_boil_26 : decode cX0_boil 26 = .ok (.ifCond .le 56, 3) := by decide +kernel
theorem dX0_boil_29 : decode cX0_boil 29 = .ok (.aload_n 0, 1) := by decide +kernel
theorem dX0_boil_30 : decode cX0_boil 30 = .ok (.getfield 9, 3) := by decide +kernel
theorem dX0_boil_33 : decode cX0_boil 33 = .ok (.iload_n 2, 1) := by decide +kernel
theorem dX0_boil_34 : decode cX0_boil 34 = .ok (.iaload, 1) := by decide +kernel
theorem dX0_boil_35 : decode cX0_boil 35 = .ok (.sipush 1000, 3) := by decide +kernel
theorem dX0_boil_38 : decode cX0_boil 38 = .ok (.if_icmp .le 44, 3) := by decide +kernel
theorem dX0_boil_41 : decode cX0_boil 41 = .ok (.aload_n 0, 1) := by decide +kernel
theorem dX0_boil_42 : decode cX0_boil 42 = .ok (.getfield 24, 3) := by decide +kernel
theorem dX0_boil_45 : decode cX0_boil 45 = .ok (.iload_n 1, 1) := by decide +kernel
theorem dX0_boil_46 : decode cX0_boil 46 = .ok (.aload_n 0, 1) := by decide +kernel
theorem dX0_boil_47 : decode cX0_boil 47 = .ok (.getfield 24, 3) := by decide +kernel
theorem dX0_boil_50 : decode cX0_boil 50 = .ok (.iload_n 1, 1) := by decide +kernel
theorem dX0_boil_51 : decode cX0_boil 51 = .ok (.iaload, 1) := by decide +kernel
theorem dX0_boil_52 : decode cX0_boil 52 = .ok (.aload_n 0, 1) := by decide +kernel
theorem dX0_boil_53 : decode cX0_boil 53 = .ok (.getfield 9, 3) := by decide +kernel
theorem dX0_boil_56 : decode cX0_boil 56 = .ok (.iload_n 2, 1) := by decide +kernel
theorem dX0_boil_57 : decode cX0_boil 57 = .ok (.iaload, 1) := by decide +kernel
theorem dX0_boil_58 : decode cX0_boil 58 = .ok (.sipush 1000, 3) := by decide +kernel
theorem dX0_boil_61 : decode cX0_boil 61 = .ok (.isub, 1) := by decide +kernel
theorem dX0_boil_62 : decode cX0_boil 62 = .ok (.bipush 50, 2) := by decide +kernel
theorem dX0_boil_64 : decode cX0_boil 64 = .ok (.idiv, 1) := by decide +kernel
theorem dX0_boil_65 : decode cX0_boil 65 = .ok (.isub, 1) := by decide +kernel
theorem dX0_boil_66 : decode cX0_boil 66 = .ok (.iconst 1, 1) := by decide +kernel
theorem dX0_boil_67 : decode cX0_boil 67 = .ok (.isub, 1) := by decide +kernel
theorem dX0_boil_68 : decode cX0_boil 68 = .ok (.iconst 0, 1) := by decide +kernel
theorem dX0_boil_69 : decode cX0_boil 69 = .ok (.invokestatic 47, 3) := by decide +kernel
theorem dX0_boil_72 : decode cX0_boil 72 = .ok (.iastore, 1) := by decide +kernel
theorem dX0_boil_73 : decode cX0_boil 73 = .ok (.aload_n 0, 1) := by decide +kernel
theorem dX0_boil_74 : decode cX0_boil 74 = .ok (.getfield 9, 3) := by decide +kernel
theorem dX0_boil_77 : decode cX0_boil 77 = .ok (.iload_n 2, 1) := by decide +kernel
theorem dX0_boil_78 : decode cX0_boil 78 = .ok (.sipush 1000, 3) := by decide +kernel
theorem dX0_boil_81 : decode cX0_boil 81 = .ok (.iastore, 1) := by decide +kernel
theorem dX0_boil_82 : decode cX0_boil 82 = .ok (.return_, 1) := by decide +kernel
theorem dX0_warmthAt_0 : decode cX0_warmthAt 0 = .ok (.aload_n 0, 1) := by decide +kernel
theorem dX0_warmthAt_1 : decode cX0_warmthAt 1 = .ok (.iload_n 1, 1) := by decide +kernel
theorem dX0_warmthAt_2 : decode cX0_warmthAt 2 = .ok (.invokevirtual 147, 3) := by decide +kernel
theorem dX0_warmthAt_5 : decode cX0_warmthAt 5 = .ok (.ifCond .eq 12, 3) := by decide +kernel
theorem dX0_warmthAt_8 : decode cX0_warmthAt 8 = .ok (.aload_n 0, 1) := by decide +kernel
theorem dX0_warmthAt_9 : decode cX0_warmthAt 9 = .ok (.getfield 9, 3) := by decide +kernel
theorem dX0_warmthAt_12 : decode cX0_warmthAt 12 = .ok (.iload_n 1, 1) := by decide +kernel
theorem dX0_warmthAt_13 : decode cX0_warmthAt 13 = .ok (.iaload, 1) := by decide +kernel
theorem dX0_warmthAt_14 : decode cX0_warmthAt 14 = .ok (.goto 4, 3) := by decide +kernel
theorem dX0_warmthAt_17 : decode cX0_warmthAt 17 = .ok (.iconst 0, 1) := by decide +kernel
theorem dX0_warmthAt_18 : decode cX0_warmthAt 18 = .ok (.ireturn, 1) := by decide +kernel
theorem dX0_mostAt_0 : decode cX0_mostAt 0 = .ok (.aload_n 0, 1) := by decide +kernel
theorem dX0_mostAt_1 : decode cX0_mostAt 1 = .ok (.iload_n 1, 1) := by decide +kernel
theorem dX0_mostAt_2 : decode cX0_mostAt 2 = .ok (.invokevirtual 147, 3) := by decide +kernel
theorem dX0_mostAt_5 : decode cX0_mostAt 5 = .ok (.ifCond .eq 12, 3) := by decide +kernel
theorem dX0_mostAt_8 : decode cX0_mostAt 8 = .ok (.aload_n 0, 1) := by decide +kernel
theorem dX0_mostAt_9 : decode cX0_mostAt 9 = .ok (.getfield 18, 3) := by decide +kernel
theorem dX0_mostAt_12 : decode cX0_mostAt 12 = .ok (.iload_n 1, 1) := by decide +kernel
theorem dX0_mostAt_13 : decode cX0_mostAt 13 = .ok (.iaload, 1) := by decide +kernel
theorem dX0_mostAt_14 : decode cX0_mostAt 14 = .ok (.goto 4, 3) := by decide +kernel
theorem dX0_mostAt_17 : decode cX0_mostAt 17 = .ok (.iconst 0, 1) := by decide +kernel
theorem dX0_mostAt_18 : decode cX0_mostAt 18 = .ok (.ireturn, 1) := by decide +kernel
theorem dX0_juiceAt_0 : decode cX0_juiceAt 0 = .ok (.aload_n 0, 1) := by decide +kernel
theorem dX0_juiceAt_1 : decode cX0_juiceAt 1 = .ok (.iload_n 1, 1) := by decide +kernel
theorem dX0_juiceAt_2 : decode cX0_juiceAt 2 = .ok (.invokevirtual 147, 3) := by decide +kernel
theorem dX0_juiceAt_5 : decode cX0_juiceAt 5 = .ok (.ifCond .eq 12, 3) := by decide +kernel
theorem dX0_juiceAt_8 : decode cX0_juiceAt 8 = .ok (.aload_n 0, 1) := by decide +kernel
theorem dX0_juiceAt_9 : decode cX0_juiceAt 9 = .ok (.getfield 21, 3) := by decide +kernel
theorem dX0_juiceAt_12 : decode cX0_juiceAt 12 = .ok (.iload_n 1, 1) := by decide +kernel
theorem dX0_juiceAt_13 : decode cX0_juiceAt 13 = .ok (.iaload, 1) := by decide +kernel
theorem dX0_juiceAt_14 : decode cX0_juiceAt 14 = .ok (.goto 4, 3) := by decide +kernel
theorem dX0_juiceAt_17 : decode cX0_juiceAt 17 = .ok (.iconst 0, 1) := by decide +kernel
theorem dX0_juiceAt_18 : decode cX0_juiceAt 18 = .ok (.ireturn, 1) := by decide +kernel
theorem dX0_kindOf_0 : decode cX0_kindOf 0 = .ok (.aload_n 0, 1) := by decide +kernel
theorem dX0_kindOf_1 : decode cX0_kindOf 1 = .ok (.iload_n 1, 1) := by decide +kernel
theorem dX0_kindOf_2 : decode cX0_kindOf 2 = .ok (.invokevirtual 166, 3) := by decide +kernel
theorem dX0_kindOf_5 : decode cX0_kindOf 5 = .ok (.bipush 20, 2) := by decide +kernel
theorem dX0_kindOf_7 : decode cX0_kindOf 7 = .ok (.if_icmp .lt 20, 3) := by decide +kernel
theorem dX0_kindOf_10 : decode cX0_kindOf 10 = .ok (.aload_n 0, 1) := by decide +kernel
theorem dX0_kindOf_11 : decode cX0_kindOf 11 = .ok (.iload_n 1, 1) := by decide +kernel
theorem dX0_kindOf_12 : decode cX0_kindOf 12 = .ok (.invokevirtual 166, 3) := by decide +kernel
theorem dX0_kindOf_15 : decode cX0_kindOf 15 = .ok (.bipush 100, 2) := by decide +kernel
theorem dX0_kindOf_17 : decode cX0_kindOf 17 = .ok (.if_icmp .le 8, 3) := by decide +kernel
theorem dX0_kindOf_20 : decode cX0_kindOf 20 = .ok (.bipush 6, 2) := by decide +kernel
theorem dX0_kindOf_22 : decode cX0_kindOf 22 = .ok (.goto 4, 3) := by decide +kernel
theorem dX0_kindOf_25 : decode cX0_kindOf 25 = .ok (.iconst 3, 1) := by decide +kernel
theorem dX0_kindOf_26 : decode cX0_kindOf 26 = .ok (.ireturn, 1) := by decide +kernel
theorem dX0_kindOf_27 : decode cX0_kindOf 27 = .ok (.aload_n 0, 1) := by decide +kernel
theorem dX0_kindOf_28 : decode cX0_kindOf 28 = .ok (.iload_n 1, 1) := by decide +kernel
theorem dX0_kindOf_29 : decode cX0_kindOf 29 = .ok (.invokevirtual 163, 3) := by decide +kernel
theorem dX0_kindOf_32 : decode cX0_kindOf 32 = .ok (.ifCond .le 16, 3) := by decide +kernel
theorem dX0_kindOf_35 : decode cX0_kindOf 35 = .ok (.aload_n 0, 1) := by decide +kernel
theorem dX0_kindOf_36 : decode cX0_kindOf 36 = .ok (.getfield 50, 3) := by decide +kernel
theorem dX0_kindOf_39 : decode cX0_kindOf 39 = .ok (.ifCond .le 7, 3) := by decide +kernel
theorem dX0_kindOf_42 : decode cX0_kindOf 42 = .ok (.iconst 5, 1) := by decide +kernel
theorem dX0_kindOf_43 : decode cX0_kindOf 43 = .ok (.goto 4, 3) := by decide +kernel
theorem dX0_kindOf_46 : decode cX0_kindOf 46 = .ok (.iconst 1, 1) := by decide +kernel
theorem dX0_kindOf_47 : decode cX0_kindOf 47 = .ok (.ireturn, 1) := by decide +kernel
theorem dX0_kindOf_48 : decode cX0_kindOf 48 = .ok (.aload_n 0, 1) := by decide +kernel
theorem dX0_kindOf_49 : decode cX0_kindOf 49 = .ok (.getfield 77, 3) := by decide +kernel
theorem dX0_kindOf_52 : decode cX0_kindOf 52 = .ok (.iconst 4, 1) := by decide +kernel
theorem dX0_kindOf_53 : decode cX0_kindOf 53 = .ok (.if_icmp .ne 5, 3) := by decide +kernel
theorem dX0_kindOf_56 : decode cX0_kindOf 56 = .ok (.iconst 4, 1) := by decide +kernel
theorem dX0_kindOf_57 : decode cX0_kindOf 57 = .ok (.ireturn, 1) := by decide +kernel
theorem dX0_kindOf_58 : decode cX0_kindOf 58 = .ok (.aload_n 0, 1) := by decide +kernel
theorem dX0_kindOf_59 : decode cX0_kindOf 59 = .ok (.getfield 77, 3) := by decide +kernel
theorem dX0_kindOf_62 : decode cX0_kindOf 62 = .ok (.iconst 1, 1) := by decide +kernel
theorem dX0_kindOf_63 : decode cX0_kindOf 63 = .ok (.if_icmp .ne 15, 3) := by decide +kernel
theorem dX0_kindOf_66 : decode cX0_kindOf 66 = .ok (.aload_n 0, 1) := by decide +kernel
theorem dX0_kindOf_67 : decode cX0_kindOf 67 = .ok (.getfield 65, 3) := by decide +kernel
theorem dX0_kindOf_70 : decode cX0_kindOf 70 = .ok (.iload_n 1, 1) := by decide +kernel
theorem dX0_kindOf_71 : decode cX0_kindOf 71 = .ok (.if_icmp .eq 7, 3) := by decide +kernel
theorem dX0_kindOf_74 : decode cX0_kindOf 74 = .ok (.iconst 2, 1) := by decide +kernel
theorem dX0_kindOf_75 : decode cX0_kindOf 75 = .ok (.goto 4, 3) := by decide +kernel
theorem dX0_kindOf_78 : decode cX0_kindOf 78 = .ok (.iconst 0, 1) := by decide +kernel
theorem dX0_kindOf_79 : decode cX0_kindOf 79 = .ok (.ireturn, 1) := by decide +kernel
theorem dX0_crust_0 : decode cX0_crust 0 = .ok (.aload_n 0, 1) := by decide +kernel
theorem dX0_crust_1 : decode cX0_crust 1 = .ok (.getfield 27, 3) := by decide +kernel
theorem dX0_crust_4 : decode cX0_crust 4 = .ok (.iconst 0, 1) := by decide +kernel
theorem dX0_crust_5 : decode cX0_crust 5 = .ok (.iaload, 1) := by decide +kernel
theorem dX0_crust_6 : decode cX0_crust 6 = .ok (.aload_n 0, 1) := by decide +kernel
theorem dX0_crust_7 : decode cX0_crust 7 = .ok (.getfield 27, 3) := by decide +kernel
theorem dX0_crust_10 : decode cX0_crust 10 = .ok (.iconst 1, 1) := by decide +kernel
theorem dX0_crust_11 : decode cX0_crust 11 = .ok (.iaload, 1) := by decide +kernel
theorem dX0_crust_12 : decode cX0_crust 12 = .ok (.invokestatic 41, 3) := by decide +kernel
theorem dX0_crust_15 : decode cX0_crust 15 = .ok (.ireturn, 1) := by decide +kernel
theorem dX0_turnAndDry_0 : decode cX0_turnAndDry 0 = .ok (.iconst 0, 1) := by decide +kernel
theorem dX0_turnAndDry_1 : decode cX0_turnAndDry 1 = .ok (.istore_n 1, 1) := by decide +kernel
theorem dX0_turnAndDry_2 : decode cX0_turnAndDry 2 = .ok (.iload_n 1, 1) := by decide +kernel
theorem dX0_turnAndDry_3 : decode cX0_turnAndDry 3 = .ok (.bipush 12, 2) := by decide +kernel
theorem dX0_turnAndDry_5 : decode cX0_turnAndDry 5 = .ok (.if_icmp .ge 76, 3) := by decide +kernel
theorem dX0_turnAndDry_8 : decode cX0_turnAndDry 8 = .ok (.aload_n 0, 1) := by decide +kernel
theorem dX0_turnAndDry_9 : decode cX0_turnAndDry 9 = .ok (.getfield 33, 3) := by decide +kernel
theorem dX0_turnAndDry_12 : decode cX0_turnAndDry 12 = .ok (.aload_n 0, 1) := by decide +kernel
theorem dX0_turnAndDry_13 : decode cX0_turnAndDry 13 = .ok (.getfield 71, 3) := by decide +kernel
theorem dX0_turnAndDry_16 : decode cX0_turnAndDry 16 = .ok (.invokevirtual 121, 3) := by decide +kernel
theorem dX0_turnAndDry_19 : decode cX0_turnAndDry 19 = .ok (.iconst 4, 1) := by decide +kernel
theorem dX0_turnAndDry_20 : decode cX0_turnAndDry 20 = .ok (.if_icmp .le 61, 3) := by decide +kernel
theorem dX0_turnAndDry_23 : decode cX0_turnAndDry 23 = .ok (.aload_n 0, 1) := by decide +kernel
theorem dX0_turnAndDry_24 : decode cX0_turnAndDry 24 = .ok (.getfield 33, 3) := by decide +kernel
theorem dX0_turnAndDry_27 : decode cX0_turnAndDry 27 = .ok (.aload_n 0, 1) := by decide +kernel
theorem dX0_turnAndDry_28 : decode cX0_turnAndDry 28 = .ok (.getfield 71, 3) := by decide +kernel
theorem dX0_turnAndDry_31 : decode cX0_turnAndDry 31 = .ok (.invokevirtual 121, 3) := by decide +kernel
theorem dX0_turnAndDry_34 : decode cX0_turnAndDry 34 = .ok (.iconst 5, 1) := by decide +kernel
theorem dX0_turnAndDry_35 : decode cX0_turnAndDry 35 = .ok (.if_icmp .ne 16, 3) := by decide +kernel
theorem dX0_turnAndDry_38 : decode cX0_turnAndDry 38 = .ok (.aload_n 0, 1) := by decide +kernel
theorem dX0_turnAndDry_39 : decode cX0_turnAndDry 39 = .ok (.iconst 1, 1) := by decide +kernel
theorem dX0_turnAndDry_40 : decode cX0_turnAndDry 40 = .ok (.aload_n 0, 1) := by decide +kernel
theorem dX0_turnAndDry_41 : decode cX0_turnAndDry 41 = .ok (.getfield 65, 3) := by decide +kernel
theorem dX0_turnAndDry_44 : decode cX0_turnAndDry 44 = .ok (.isub, 1) := by decide +kernel
theorem dX0_turnAndDry_45 : decode cX0_turnAndDry 45 = .ok (.putfield 65, 3) := by decide +kernel
theorem dX0_turnAndDry_48 : decode cX0_turnAndDry 48 = .ok (.goto 17, 3) := by decide +kernel
theorem dX0_turnAndDry_51 : decode cX0_turnAndDry 51 = .ok (.aload_n 0, 1) := by decide +kernel
theorem dX0_turnAndDry_52 : decode cX0_turnAndDry 52 = .ok (.getfield 24, 3) := by decide +kernel
theorem dX0_turnAndDry_55 : decode cX0_turnAndDry 55 = .ok (.iconst 0, 1) := by decide +kernel
theorem dX0_turnAndDry_56 : decode cX0_turnAndDry 56 = .ok (.iconst 0, 1) := by decide +kernel
theorem dX0_turnAndDry_57 : decode cX0_turnAndDry 57 = .ok (.iastore, 1) := by decide +kernel
theorem dX0_turnAndDry_58 : decode cX0_turnAndDry 58 = .ok (.aload_n 0, 1) := by decide +kernel
theorem dX0_turnAndDry_59 : decode cX0_turnAndDry 59 = .ok (.getfield 24, 3) := by decide +kernel
theorem dX0_turnAndDry_62 : decode cX0_turnAndDry 62 = .ok (.iconst 1, 1) := by decide +kernel
theorem dX0_turnAndDry_63 : decode cX0_turnAndDry 63 = .ok (.iconst 0, 1) := by decide +kernel
theorem dX0_turnAndDry_64 : decode cX0_turnAndDry 64 = .ok (.iastore, 1) := by decide +kernel
theorem dX0_turnAndDry_65 : decode cX0_turnAndDry 65 = .ok (.aload_n 0, 1) := by decide +kernel
theorem dX0_turnAndDry_66 : decode cX0_turnAndDry 66 = .ok (.dup, 1) := by decide +kernel
theorem dX0_turnAndDry_67 : decode cX0_turnAndDry 67 = .ok (.getfield 71, 3) := by decide +kernel
theorem dX0_turnAndDry_70 : decode cX0_turnAndDry 70 = .ok (.iconst 1, 1) := by decide +kernel
theorem dX0_turnAndDry_71 : decode cX0_turnAndDry 71 = .ok (.iadd, 1) := by decide +kernel
theorem dX0_turnAndDry_72 : decode cX0_turnAndDry 72 = .ok (.putfield 71, 3) := by decide +kernel
theorem dX0_turnAndDry_75 : decode cX0_turnAndDry 75 = .ok (.iinc 1 1, 3) := by decide +kernel
theorem dX0_turnAndDry_78 : decode cX0_turnAndDry 78 = .ok (.goto (-76), 3) := by decide +kernel
theorem dX0_turnAndDry_81 : decode cX0_turnAndDry 81 = .ok (.return_, 1) := by decide +kernel
theorem dX0_heat_0 : decode cX0_heat 0 = .ok (.aload_n 0, 1) := by decide +kernel
theorem dX0_heat_1 : decode cX0_heat 1 = .ok (.iload_n 1, 1) := by decide +kernel
theorem dX0_heat_2 : decode cX0_heat 2 = .ok (.iload_n 2, 1) := by decide +kernel
theorem dX0_heat_3 : decode cX0_heat 3 = .ok (.invokevirtual 134, 3) := by decide +kernel
theorem dX0_heat_6 : decode cX0_heat 6 = .ok (.aload_n 0, 1) := by decide +kernel
theorem dX0_heat_7 : decode cX0_heat 7 = .ok (.iconst 0, 1) := by decide +kernel
theorem dX0_heat_8 : decode cX0_heat 8 = .ok (.iconst 0, 1) := by decide +kernel
theorem dX0_heat_9 : decode cX0_heat 9 = .ok (.invokevirtual 137, 3) := by decide +kernel
theorem dX0_heat_12 : decode cX0_heat 12 = .ok (.aload_n 0, 1) := by decide +kernel
theorem dX0_heat_13 : decode cX0_heat 13 = .ok (.iconst 1, 1) := by decide +kernel
theorem dX0_heat_14 : decode cX0_heat 14 = .ok (.aload_n 0, 1) := by decide +kernel
theorem dX0_heat_15 : decode cX0_heat 15 = .ok (.getfield 37, 3) := by decide +kernel
theorem dX0_heat_18 : decode cX0_heat 18 = .ok (.iconst 1, 1) := by decide +kernel
theorem dX0_heat_19 : decode cX0_heat 19 = .ok (.isub, 1) := by decide +kernel
theorem dX0_heat_20 : decode cX0_heat 20 = .ok (.invokevirtual 137, 3) := by decide +kernel
theorem dX0_heat_23 : decode cX0_heat 23 = .ok (.iload_n 1, 1) := by decide +kernel
theorem dX0_heat_24 : decode cX0_heat 24 = .ok (.iconst 3, 1) := by decide +kernel
theorem dX0_heat_25 : decode cX0_heat 25 = .ok (.if_icmp .ne 19, 3) := by decide +kernel
theorem dX0_heat_28 : decode cX0_heat 28 = .ok (.aload_n 0, 1) := by decide +kernel
theorem dX0_heat_29 : decode cX0_heat 29 = .ok (.getfield 24, 3) := by decide +kernel
theorem dX0_heat_32 : decode cX0_heat 32 = .ok (.iconst 0, 1) := by decide +kernel
theorem dX0_heat_33 : decode cX0_heat 33 = .ok (.bipush 30, 2) := by decide +kernel
theorem dX0_heat_35 : decode cX0_heat 35 = .ok (.iastore, 1) := by decide +kernel
theorem dX0_heat_36 : decode cX0_heat 36 = .ok (.aload_n 0, 1) := by decide +kernel
theorem dX0_heat_37 : decode cX0_heat 37 = .ok (.getfield 24, 3) := by decide +kernel
theorem dX0_heat_40 : decode cX0_heat 40 = .ok (.iconst 1, 1) := by decide +kernel
theorem dX0_heat_41 : decode cX0_heat 41 = .ok (.bipush 30, 2) := by decide +kernel
theorem dX0_heat_43 : decode cX0_heat 43 = .ok (.iastore, 1) := by decide +kernel
theorem dX0_heat_44 : decode cX0_heat 44 = .ok (.iconst 0, 1) := by decide +kernel
theorem dX0_heat_45 : decode cX0_heat 45 = .ok (.istore_n 3, 1) := by decide +kernel
theorem dX0_heat_46 : decode cX0_heat 46 = .ok (.iload_n 3, 1) := by decide +kernel
theorem dX0_heat_47 : decode cX0_heat 47 = .ok (.aload_n 0, 1) := by decide +kernel
theorem dX0_heat_48 : decode cX0_heat 48 = .ok (.getfield 37, 3) := by decide +kernel
theorem dX0_heat_51 : decode cX0_heat 51 = .ok (.if_icmp .ge 70, 3) := by decide +kernel
theorem dX0_heat_54 : decode cX0_heat 54 = .ok (.iload_n 3, 1) := by decide +kernel
theorem dX0_heat_55 : decode cX0_heat 55 = .ok (.bipush 20, 2) := by decide +kernel
theorem dX0_heat_57 : decode cX0_heat 57 = .ok (.if_icmp .ge 64, 3) := by decide +kernel
theorem dX0_heat_60 : decode cX0_heat 60 = .ok (.aload_n 0, 1) := by decide +kernel
theorem dX0_heat_61 : decode cX0_heat 61 = .ok (.getfield 9, 3) := by decide +kernel
theorem dX0_heat_64 : decode cX0_heat 64 = .ok (.iload_n 3, 1) := by decide +kernel
theorem dX0_heat_65 : decode cX0_heat 65 = .ok (.iaload, 1) := by decide +kernel
theorem dX0_heat_66 : decode cX0_heat 66 = .ok (.istore 4, 2) := by decide +kernel
theorem dX0_heat_68 : decode cX0_heat 68 = .ok (.aload_n 0, 1) := by decide +kernel
theorem dX0_heat_69 : decode cX0_heat 69 = .ok (.getfield 18, 3) := by decide +kernel
theorem dX0_heat_72 : decode cX0_heat 72 = .ok (.iload_n 3, 1) := by decide +kernel
theorem dX0_heat_73 : decode cX0_heat 73 = .ok (.aload_n 0, 1) := by decide +kernel
theorem dX0_heat_74 : decode cX0_heat 74 = .ok (.getfield 18, 3) := by decide +kernel
theorem dX0_heat_77 : decode cX0_heat 77 = .ok (.iload_n 3, 1) := by decide +kernel
theorem dX0_heat_78 : decode cX0_heat 78 = .ok (.iaload, 1) := by decide +kernel
theorem dX0_heat_79 : decode cX0_heat 79 = .ok (.iload 4, 2) := by decide +kernel
theorem dX0_heat_81 : decode cX0_heat 81 = .ok (.invokestatic 47, 3) := by decide +kernel
theorem dX0_heat_84 : decode cX0_heat 84 = .ok (.iastore, 1) := by decide +kernel
theorem dX0_heat_85 : decode cX0_heat 85 = .ok (.aload_n 0, 1) := by decide +kernel
theorem dX0_heat_86 : decode cX0_heat 86 = .ok (.getfield 21, 3) := by decide +kernel
theorem dX0_heat_89 : decode cX0_heat 89 = .ok (.iload_n 3, 1) := by decide +kernel
theorem dX0_heat_90 : decode cX0_heat 90 = .ok (.aload_n 0, 1) := by decide +kernel
theorem dX0_heat_91 : decode cX0_heat 91 = .ok (.getfield 21, 3) := by decide +kernel
theorem dX0_heat_94 : decode cX0_heat 94 = .ok (.iload_n 3, 1) := by decide +kernel
theorem dX0_heat_95 : decode cX0_heat 95 = .ok (.iaload, 1) := by decide +kernel
theorem dX0_heat_96 : decode cX0_heat 96 = .ok (.iload 4, 2) := by decide +kernel
theorem dX0_heat_98 : decode cX0_heat 98 = .ok (.sipush 550, 3) := by decide +kernel
theorem dX0_heat_101 : decode cX0_heat 101 = .ok (.isub, 1) := by decide +kernel
theorem dX0_heat_102 : decode cX0_heat 102 = .ok (.iconst 0, 1) := by decide +kernel
theorem dX0_heat_103 : decode cX0_heat 103 = .ok (.invokestatic 47, 3) := by decide +kernel
theorem dX0_heat_106 : decode cX0_heat 106 = .ok (.bipush 100, 2) := by decide +kernel
theorem dX0_heat_108 : decode cX0_heat 108 = .ok (.idiv, 1) := by decide +kernel
theorem dX0_heat_109 : decode cX0_heat 109 = .ok (.isub, 1) := by decide +kernel
theorem dX0_heat_110 : decode cX0_heat 110 = .ok (.iconst 0, 1) := by decide +kernel
theorem dX0_heat_111 : decode cX0_heat 111 = .ok (.invokestatic 47, 3) := by decide +kernel
theorem dX0_heat_114 : decode cX0_heat 114 = .ok (.iastore, 1) := by decide +kernel
theorem dX0_heat_115 : decode cX0_heat 115 = .ok (.iinc 3 1, 3) := by decide +kernel
theorem dX0_heat_118 : decode cX0_heat 118 = .ok (.goto (-72), 3) := by decide +kernel
theorem dX0_heat_121 : decode cX0_heat 121 = .ok (.aload_n 0, 1) := by decide +kernel
theorem dX0_heat_122 : decode cX0_heat 122 = .ok (.iconst 0, 1) := by decide +kernel
theorem dX0_heat_123 : decode cX0_heat 123 = .ok (.iconst 0, 1) := by decide +kernel
theorem dX0_heat_124 : decode cX0_heat 124 = .ok (.invokevirtual 140, 3) := by decide +kernel
theorem dX0_heat_127 : decode cX0_heat 127 = .ok (.aload_n 0, 1) := by decide +kernel
theorem dX0_heat_128 : decode cX0_heat 128 = .ok (.iconst 1, 1) := by decide +kernel
theorem dX0_heat_129 : decode cX0_heat 129 = .ok (.aload_n 0, 1) := by decide +kernel
theorem dX0_heat_130 : decode cX0_heat 130 = .ok (.getfield 37, 3) := by decide +kernel
theorem dX0_heat_133 : decode cX0_heat 133 = .ok (.iconst 1, 1) := by decide +kernel
theorem dX0_heat_134 : decode cX0_heat 134 = .ok (.isub, 1) := by decide +kernel
theorem dX0_heat_135 : decode cX0_heat 135 = .ok (.invokevirtual 140, 3) := by decide +kernel
theorem dX0_heat_138 : decode cX0_heat 138 = .ok (.aload_n 0, 1) := by decide +kernel
theorem dX0_heat_139 : decode cX0_heat 139 = .ok (.iload_n 1, 1) := by decide +kernel
theorem dX0_heat_140 : decode cX0_heat 140 = .ok (.putfield 77, 3) := by decide +kernel
theorem dX0_heat_143 : decode cX0_heat 143 = .ok (.aload_n 0, 1) := by decide +kernel
theorem dX0_heat_144 : decode cX0_heat 144 = .ok (.iload_n 1, 1) := by decide +kernel
theorem dX0_heat_145 : decode cX0_heat 145 = .ok (.iconst 4, 1) := by decide +kernel
theorem dX0_heat_146 : decode cX0_heat 146 = .ok (.if_icmp .ne 12, 3) := by decide +kernel
theorem dX0_heat_149 : decode cX0_heat 149 = .ok (.aload_n 0, 1) := by decide +kernel
theorem dX0_heat_150 : decode cX0_heat 150 = .ok (.getfield 80, 3) := by decide +kernel
theorem dX0_heat_153 : decode cX0_heat 153 = .ok (.iconst 1, 1) := by decide +kernel
theorem dX0_heat_154 : decode cX0_heat 154 = .ok (.iadd, 1) := by decide +kernel
theorem dX0_heat_155 : decode cX0_heat 155 = .ok (.goto 4, 3) := by decide +kernel
theorem dX0_heat_158 : decode cX0_heat 158 = .ok (.iconst 0, 1) := by decide +kernel
theorem dX0_heat_159 : decode cX0_heat 159 = .ok (.putfield 80, 3) := by decide +kernel
theorem dX0_heat_162 : decode cX0_heat 162 = .ok (.aload_n 0, 1) := by decide +kernel
theorem dX0_heat_163 : decode cX0_heat 163 = .ok (.dup, 1) := by decide +kernel
theorem dX0_heat_164 : decode cX0_heat 164 = .ok (.getfield 68, 3) := by decide +kernel
theorem dX0_heat_167 : decode cX0_heat 167 = .ok (.iconst 1, 1) := by decide +kernel
theorem dX0_heat_168 : decode cX0_heat 168 = .ok (.iadd, 1) := by decide +kernel
theorem dX0_heat_169 : decode cX0_heat 169 = .ok (.putfield 68, 3) := by decide +kernel
theorem dX0_heat_172 : decode cX0_heat 172 = .ok (.return_, 1) := by decide +kernel
theorem dX0_middleWarmth_0 : decode cX0_middleWarmth 0 = .ok (.aload_n 0, 1) := by decide +kernel
theorem dX0_middleWarmth_1 : decode cX0_middleWarmth 1 = .ok (.aload_n 0, 1) := by decide +kernel
theorem dX0_middleWarmth_2 : decode cX0_middleWarmth 2 = .ok (.invokevirtual 148, 3) := by decide +kernel
theorem dX0_middleWarmth_5 : decode cX0_middleWarmth 5 = .ok (.invokevirtual 151, 3) := by decide +kernel
theorem dX0_middleWarmth_8 : decode cX0_middleWarmth 8 = .ok (.ireturn, 1) := by decide +kernel
theorem dX0_middleMost_0 : decode cX0_middleMost 0 = .ok (.aload_n 0, 1) := by decide +kernel
theorem dX0_middleMost_1 : decode cX0_middleMost 1 = .ok (.aload_n 0, 1) := by decide +kernel
theorem dX0_middleMost_2 : decode cX0_middleMost 2 = .ok (.invokevirtual 148, 3) := by decide +kernel
theorem dX0_middleMost_5 : decode cX0_middleMost 5 = .ok (.invokevirtual 154, 3) := by decide +kernel
theorem dX0_middleMost_8 : decode cX0_middleMost 8 = .ok (.ireturn, 1) := by decide +kernel
theorem dX0_depthTells_0 : decode cX0_depthTells 0 = .ok (.iload_n 2, 1) := by decide +kernel
theorem dX0_depthTells_1 : decode cX0_depthTells 1 = .ok (.lookupswitch 39 #[(0, 27), (1, 33)], 27) := by decide +kernel
theorem dX0_depthTells_28 : decode cX0_depthTells 28 = .ok (.aload_n 0, 1) := by decide +kernel
theorem dX0_depthTells_29 : decode cX0_depthTells 29 = .ok (.iload_n 1, 1) := by decide +kernel
theorem dX0_depthTells_30 : decode cX0_depthTells 30 = .ok (.invokevirtual 151, 3) := by decide +kernel
theorem dX0_depthTells_33 : decode cX0_depthTells 33 = .ok (.ireturn, 1) := by decide +kernel
theorem dX0_depthTells_34 : decode cX0_depthTells 34 = .ok (.aload_n 0, 1) := by decide +kernel
theorem dX0_depthTells_35 : decode cX0_depthTells 35 = .ok (.iload_n 1, 1) := by decide +kernel
theorem dX0_depthTells_36 : decode cX0_depthTells 36 = .ok (.invokevirtual 154, 3) := by decide +kernel
theorem dX0_depthTells_39 : decode cX0_depthTells 39 = .ok (.ireturn, 1) := by decide +kernel
theorem dX0_depthTells_40 : decode cX0_depthTells 40 = .ok (.aload_n 0, 1) := by decide +kernel
theorem dX0_depthTells_41 : decode cX0_depthTells 41 = .ok (.iload_n 1, 1) := by decide +kernel
theorem dX0_depthTells_42 : decode cX0_depthTells 42 = .ok (.invokevirtual 157, 3) := by decide +kernel
theorem dX0_depthTells_45 : decode cX0_depthTells 45 = .ok (.ireturn, 1) := by decide +kernel
theorem dX0_skinTells_0 : decode cX0_skinTells 0 = .ok (.iload_n 2, 1) := by decide +kernel
theorem dX0_skinTells_1 : decode cX0_skinTells 1 = .ok (.tableswitch 45 0 2 #[27, 33, 39], 27) := by decide +kernel
theorem dX0_skinTells_28 : decode cX0_skinTells 28 = .ok (.aload_n 0, 1) := by decide +kernel
theorem dX0_skinTells_29 : decode cX0_skinTells 29 = .ok (.iload_n 1, 1) := by decide +kernel
theorem dX0_skinTells_30 : decode cX0_skinTells 30 = .ok (.invokevirtual 160, 3) := by decide +kernel
theorem dX0_skinTells_33 : decode cX0_skinTells 33 = .ok (.ireturn, 1) := by decide +kernel
theorem dX0_skinTells_34 : decode cX0_skinTells 34 = .ok (.aload_n 0, 1) := by decide +kernel
theorem dX0_skinTells_35 : decode cX0_skinTells 35 = .ok (.iload_n 1, 1) := by decide +kernel
theorem dX0_skinTells_36 : decode cX0_skinTells 36 = .ok (.invokevirtual 163, 3) := by decide +kernel
theorem dX0_skinTells_39 : decode cX0_skinTells 39 = .ok (.ireturn, 1) := by decide +kernel
theorem dX0_skinTells_40 : decode cX0_skinTells 40 = .ok (.aload_n 0, 1) := by decide +kernel
theorem dX0_skinTells_41 : decode cX0_skinTells 41 = .ok (.iload_n 1, 1) := by decide +kernel
theorem dX0_skinTells_42 : decode cX0_skinTells 42 = .ok (.invokevirtual 166, 3) := by decide +kernel
theorem dX0_skinTells_45 : decode cX0_skinTells 45 = .ok (.ireturn, 1) := by decide +kernel
theorem dX0_skinTells_46 : decode cX0_skinTells 46 = .ok (.aload_n 0, 1) := by decide +kernel
theorem dX0_skinTells_47 : decode cX0_skinTells 47 = .ok (.getfield 65, 3) := by decide +kernel
theorem dX0_skinTells_50 : decode cX0_skinTells 50 = .ok (.iload_n 1, 1) := by decide +kernel
theorem dX0_skinTells_51 : decode cX0_skinTells 51 = .ok (.if_icmp .ne 7, 3) := by decide +kernel
theorem dX0_skinTells_54 : decode cX0_skinTells 54 = .ok (.iconst 1, 1) := by decide +kernel
theorem dX0_skinTells_55 : decode cX0_skinTells 55 = .ok (.goto 4, 3) := by decide +kernel
theorem dX0_skinTells_58 : decode cX0_skinTells 58 = .ok (.iconst 0, 1) := by decide +kernel
theorem dX0_skinTells_59 : decode cX0_skinTells 59 = .ok (.ireturn, 1) := by decide +kernel
theorem dX0_justSo_0 : decode cX0_justSo 0 = .ok (.iconst 0, 1) := by decide +kernel
theorem dX0_justSo_1 : decode cX0_justSo 1 = .ok (.istore_n 3, 1) := by decide +kernel
theorem dX0_justSo_2 : decode cX0_justSo 2 = .ok (.iconst 0, 1) := by decide +kernel
theorem dX0_justSo_3 : decode cX0_justSo 3 = .ok (.istore 4, 2) := by decide +kernel
theorem dX0_justSo_5 : decode cX0_justSo 5 = .ok (.iload 4, 2) := by decide +kernel
theorem dX0_justSo_7 : decode cX0_justSo 7 = .ok (.aload_n 0, 1) := by decide +kernel
theorem dX0_justSo_8 : decode cX0_justSo 8 = .ok (.getfield 37, 3) := by decide +kernel
theorem dX0_justSo_11 : decode cX0_justSo 11 = .ok (.if_icmp .ge 31, 3) := by decide +kernel
theorem dX0_justSo_14 : decode cX0_justSo 14 = .ok (.iload_n 3, 1) := by decide +kernel
theorem dX0_justSo_15 : decode cX0_justSo 15 = .ok (.aload_n 0, 1) := by decide +kernel
theorem dX0_justSo_16 : decode cX0_justSo 16 = .ok (.iload 4, 2) := by decide +kernel
theorem dX0_justSo_18 : decode cX0_justSo 18 = .ok (.invokevirtual 154, 3) := by decide +kernel
theorem dX0_justSo_21 : decode cX0_justSo 21 = .ok (.iload_n 1, 1) := by decide +kernel
theorem dX0_justSo_22 : decode cX0_justSo 22 = .ok (.iload_n 2, 1) := by decide +kernel
theorem dX0_justSo_23 : decode cX0_justSo 23 = .ok (.invokestatic 169, 3) := by decide +kernel
theorem dX0_justSo_26 : decode cX0_justSo 26 = .ok (.ifCond .eq 7, 3) := by decide +kernel
theorem dX0_justSo_29 : decode cX0_justSo 29 = .ok (.iconst 1, 1) := by decide +kernel
theorem dX0_justSo_30 : decode cX0_justSo 30 = .ok (.goto 4, 3) := by decide +kernel
theorem dX0_justSo_33 : decode cX0_justSo 33 = .ok (.iconst 0, 1) := by decide +kernel
theorem dX0_justSo_34 : decode cX0_justSo 34 = .ok (.iadd, 1) := by decide +kernel
theorem dX0_justSo_35 : decode cX0_justSo 35 = .ok (.istore_n 3, 1) := by decide +kernel
theorem dX0_justSo_36 : decode cX0_justSo 36 = .ok (.iinc 4 1, 3) := by decide +kernel
theorem dX0_justSo_39 : decode cX0_justSo 39 = .ok (.goto (-34), 3) := by decide +kernel
theorem dX0_justSo_42 : decode cX0_justSo 42 = .ok (.iload_n 3, 1) := by decide +kernel
theorem dX0_justSo_43 : decode cX0_justSo 43 = .ok (.ireturn, 1) := by decide +kernel
theorem dX0_colour_0 : decode cX0_colour 0 = .ok (.aload_n 0, 1) := by decide +kernel
theorem dX0_colour_1 : decode cX0_colour 1 = .ok (.iload_n 1, 1) := by decide +kernel
theorem dX0_colour_2 : decode cX0_colour 2 = .ok (.invokevirtual 154, 3) := by decide +kernel
theorem dX0_colour_5 : decode cX0_colour 5 = .ok (.sipush 650, 3) := by decide +kernel
theorem dX0_colour_8 : decode cX0_colour 8 = .ok (.if_icmp .lt 5, 3) := by decide +kernel
theorem dX0_colour_11 : decode cX0_colour 11 = .ok (.iconst 2, 1) := by decide +kernel
theorem dX0_colour_12 : decode cX0_colour 12 = .ok (.ireturn, 1) := by decide +kernel
theorem dX0_colour_13 : decode cX0_colour 13 = .ok (.aload_n 0, 1) := by decide +kernel
theorem dX0_colour_14 : decode cX0_colour 14 = .ok (.iload_n 1, 1) := by decide +kernel
theorem dX0_colour_15 : decode cX0_colour 15 = .ok (.invokevirtual 154, 3) := by decide +kernel
theorem dX0_colour_18 : decode cX0_colour 18 = .ok (.sipush 500, 3) := by decide +kernel
theorem dX0_colour_21 : decode cX0_colour 21 = .ok (.if_icmp .lt 7, 3) := by decide +kernel
theorem dX0_colour_24 : decode cX0_colour 24 = .ok (.iconst 1, 1) := by decide +kernel
theorem dX0_colour_25 : decode cX0_colour 25 = .ok (.goto 4, 3) := by decide +kernel
theorem dX0_colour_28 : decode cX0_colour 28 = .ok (.iconst 0, 1) := by decide +kernel
theorem dX0_colour_29 : decode cX0_colour 29 = .ok (.ireturn, 1) := by decide +kernel
theorem dX0_allJuice_0 : decode cX0_allJuice 0 = .ok (.iconst 0, 1) := by decide +kernel
theorem dX0_allJuice_1 : decode cX0_allJuice 1 = .ok (.istore_n 1, 1) := by decide +kernel
theorem dX0_allJuice_2 : decode cX0_allJuice 2 = .ok (.iconst 0, 1) := by decide +kernel
theorem dX0_allJuice_3 : decode cX0_allJuice 3 = .ok (.istore_n 2, 1) := by decide +kernel
theorem dX0_allJuice_4 : decode cX0_allJuice 4 = .ok (.iload_n 2, 1) := by decide +kernel
theorem dX0_allJuice_5 : decode cX0_allJuice 5 = .ok (.aload_n 0, 1) := by decide +kernel
theorem dX0_allJuice_6 : decode cX0_allJuice 6 = .ok (.getfield 37, 3) := by decide +kernel
theorem dX0_allJuice_9 : decode cX0_allJuice 9 = .ok (.if_icmp .ge 17, 3) := by decide +kernel
theorem dX0_allJuice_12 : decode cX0_allJuice 12 = .ok (.iload_n 1, 1) := by decide +kernel
theorem dX0_allJuice_13 : decode cX0_allJuice 13 = .ok (.aload_n 0, 1) := by decide +kernel
theorem dX0_allJuice_14 : decode cX0_allJuice 14 = .ok (.iload_n 2, 1) := by decide +kernel
theorem dX0_allJuice_15 : decode cX0_allJuice 15 = .ok (.invokevirtual 157, 3) := by decide +kernel
theorem dX0_allJuice_18 : decode cX0_allJuice 18 = .ok (.iadd, 1) := by decide +kernel
theorem dX0_allJuice_19 : decode cX0_allJuice 19 = .ok (.istore_n 1, 1) := by decide +kernel
theorem dX0_allJuice_20 : decode cX0_allJuice 20 = .ok (.iinc 2 1, 3) := by decide +kernel
theorem dX0_allJuice_23 : decode cX0_allJuice 23 = .ok (.goto (-19), 3) := by decide +kernel
theorem dX0_allJuice_26 : decode cX0_allJuice 26 = .ok (.iload_n 1, 1) := by decide +kernel
theorem dX0_allJuice_27 : decode cX0_allJuice 27 = .ok (.ireturn, 1) := by decide +kernel
theorem dX0_lossNow_0 : decode cX0_lossNow 0 = .ok (.iconst 0, 1) := by decide +kernel
theorem dX0_lossNow_1 : decode cX0_lossNow 1 = .ok (.istore_n 1, 1) := by decide +kernel
theorem dX0_lossNow_2 : decode cX0_lossNow 2 = .ok (.iconst 0, 1) := by decide +kernel
theorem dX0_lossNow_3 : decode cX0_lossNow 3 = .ok (.istore_n 2, 1) := by decide +kernel
theorem dX0_lossNow_4 : decode cX0_lossNow 4 = .ok (.iload_n 2, 1) := by decide +kernel
theorem dX0_lossNow_5 : decode cX0_lossNow 5 = .ok (.aload_n 0, 1) := by decide +kernel
theorem dX0_lossNow_6 : decode cX0_lossNow 6 = .ok (.getfield 37, 3) := by decide +kernel
theorem dX0_lossNow_9 : decode cX0_lossNow 9 = .ok (.if_icmp .ge 47, 3) := by decide +kernel
theorem dX0_lossNow_12 : decode cX0_lossNow 12 = .ok (.aload_n 0, 1) := by decide +kernel
theorem dX0_lossNow_13 : decode cX0_lossNow 13 = .ok (.iload_n 2, 1) := by decide +kernel
theorem dX0_lossNow_14 : decode cX0_lossNow 14 = .ok (.invokevirtual 151, 3) := by decide +kernel
theorem dX0_lossNow_17 : decode cX0_lossNow 17 = .ok (.sipush 400, 3) := by decide +kernel
theorem dX0_lossNow_20 : decode cX0_lossNow 20 = .ok (.isub, 1) := by decide +kernel
theorem dX0_lossNow_21 : decode cX0_lossNow 21 = .ok (.iconst 0, 1) := by decide +kernel
theorem dX0_lossNow_22 : decode cX0_lossNow 22 = .ok (.invokestatic 47, 3) := by decide +kernel
theorem dX0_lossNow_25 : decode cX0_lossNow 25 = .ok (.bipush 100, 2) := by decide +kernel
theorem dX0_lossNow_27 : decode cX0_lossNow 27 = .ok (.idiv, 1) := by decide +kernel
theorem dX0_lossNow_28 : decode cX0_lossNow 28 = .ok (.istore_n 3, 1) := by decide +kernel
theorem dX0_lossNow_29 : decode cX0_lossNow 29 = .ok (.iload_n 1, 1) := by decide +kernel
theorem dX0_lossNow_30 : decode cX0_lossNow 30 = .ok (.aload_n 0, 1) := by decide +kernel
theorem dX0_lossNow_31 : decode cX0_lossNow 31 = .ok (.iload_n 2, 1) := by decide +kernel
theorem dX0_lossNow_32 : decode cX0_lossNow 32 = .ok (.invokevirtual 157, 3) := by decide +kernel
theorem dX0_lossNow_35 : decode cX0_lossNow 35 = .ok (.aload_n 0, 1) := by decide +kernel
theorem dX0_lossNow_36 : decode cX0_lossNow 36 = .ok (.iload_n 2, 1) := by decide +kernel
theorem dX0_lossNow_37 : decode cX0_lossNow 37 = .ok (.invokevirtual 157, 3) := by decide +kernel
theorem dX0_lossNow_40 : decode cX0_lossNow 40 = .ok (.iload_n 3, 1) := by decide +kernel
theorem dX0_lossNow_41 : decode cX0_lossNow 41 = .ok (.imul, 1) := by decide +kernel
theorem dX0_lossNow_42 : decode cX0_lossNow 42 = .ok (.bipush 20, 2) := by decide +kernel
theorem dX0_lossNow_44 : decode cX0_lossNow 44 = .ok (.idiv, 1) := by decide +kernel
theorem dX0_lossNow_45 : decode cX0_lossNow 45 = .ok (.invokestatic 41, 3) := by decide +kernel
theorem dX0_lossNow_48 : decode cX0_lossNow 48 = .ok (.iadd, 1) := by decide +kernel
theorem dX0_lossNow_49 : decode cX0_lossNow 49 = .ok (.istore_n 1, 1) := by decide +kernel
theorem dX0_lossNow_50 : decode cX0_lossNow 50 = .ok (.iinc 2 1, 3) := by decide +kernel
theorem dX0_lossNow_53 : decode cX0_lossNow 53 = .ok (.goto (-49), 3) := by decide +kernel
theorem dX0_lossNow_56 : decode cX0_lossNow 56 = .ok (.iload_n 1, 1) := by decide +kernel
theorem dX0_lossNow_57 : decode cX0_lossNow 57 = .ok (.ireturn, 1) := by decide +kernel
theorem dX0_become_0 : decode cX0_become 0 = .ok (.iconst 0, 1) := by decide +kernel
theorem dX0_become_1 : decode cX0_become 1 = .ok (.istore_n 2, 1) := by decide +kernel
theorem dX0_become_2 : decode cX0_become 2 = .ok (.iload_n 2, 1) := by decide +kernel
theorem dX0_become_3 : decode cX0_become 3 = .ok (.bipush 20, 2) := by decide +kernel
theorem dX0_become_5 : decode cX0_become 5 = .ok (.if_icmp .ge 45, 3) := by decide +kernel
theorem dX0_become_8 : decode cX0_become 8 = .ok (.aload_n 0, 1) := by decide +kernel
theorem dX0_become_9 : decode cX0_become 9 = .ok (.getfield 9, 3) := by decide +kernel
theorem dX0_become_12 : decode cX0_become 12 = .ok (.iload_n 2, 1) := by decide +kernel
theorem dX0_become_13 : decode cX0_become 13 = .ok (.aload_n 1, 1) := by decide +kernel
theorem dX0_become_14 : decode cX0_become 14 = .ok (.getfield 9, 3) := by decide +kernel
theorem dX0_become_17 : decode cX0_become 17 = .ok (.iload_n 2, 1) := by decide +kernel
theorem dX0_become_18 : decode cX0_become 18 = .ok (.iaload, 1) := by decide +kernel
theorem dX0_become_19 : decode cX0_become 19 = .ok (.iastore, 1) := by decide +kernel
theorem dX0_become_20 : decode cX0_become 20 = .ok (.aload_n 0, 1) := by decide +kernel
theorem dX0_become_21 : decode cX0_become 21 = .ok (.getfield 18, 3) := by decide +kernel
theorem dX0_become_24 : decode cX0_become 24 = .ok (.iload_n 2, 1) := by decide +kernel
theorem dX0_become_25 : decode cX0_become 25 = .ok (.aload_n 1, 1) := by decide +kernel
theorem dX0_become_26 : decode cX0_become 26 = .ok (.getfield 18, 3) := by decide +kernel
theorem dX0_become_29 : decode cX0_become 29 = .ok (.iload_n 2, 1) := by decide +kernel
theorem dX0_become_30 : decode cX0_become 30 = .ok (.iaload, 1) := by decide +kernel
theorem dX0_become_31 : decode cX0_become 31 = .ok (.iastore, 1) := by decide +kernel
theorem dX0_become_32 : decode cX0_become 32 = .ok (.aload_n 0, 1) := by decide +kernel
theorem dX0_become_33 : decode cX0_become 33 = .ok (.getfield 21, 3) := by decide +kernel
theorem dX0_become_36 : decode cX0_become 36 = .ok (.iload_n 2, 1) := by decide +kernel
theorem dX0_become_37 : decode cX0_become 37 = .ok (.aload_n 1, 1) := by decide +kernel
theorem dX0_become_38 : decode cX0_become 38 = .ok (.getfield 21, 3) := by decide +kernel
theorem dX0_become_41 : decode cX0_become 41 = .ok (.iload_n 2, 1) := by decide +kernel
theorem dX0_become_42 : decode cX0_become 42 = .ok (.iaload, 1) := by decide +kernel
theorem dX0_become_43 : decode cX0_become 43 = .ok (.iastore, 1) := by decide +kernel
theorem dX0_become_44 : decode cX0_become 44 = .ok (.iinc 2 1, 3) := by decide +kernel
theorem dX0_become_47 : decode cX0_become 47 = .ok (.goto (-45), 3) := by decide +kernel
theorem dX0_become_50 : decode cX0_become 50 = .ok (.iconst 0, 1) := by decide +kernel
theorem dX0_become_51 : decode cX0_become 51 = .ok (.istore_n 2, 1) := by decide +kernel
theorem dX0_become_52 : decode cX0_become 52 = .ok (.iload_n 2, 1) := by decide +kernel
theorem dX0_become_53 : decode cX0_become 53 = .ok (.iconst 2, 1) := by decide +kernel
theorem dX0_become_54 : decode cX0_become 54 = .ok (.if_icmp .ge 33, 3) := by decide +kernel
theorem dX0_become_57 : decode cX0_become 57 = .ok (.aload_n 0, 1) := by decide +kernel
theorem dX0_become_58 : decode cX0_become 58 = .ok (.getfield 24, 3) := by decide +kernel
theorem dX0_become_61 : decode cX0_become 61 = .ok (.iload_n 2, 1) := by decide +kernel
theorem dX0_become_62 : decode cX0_become 62 = .ok (.aload_n 1, 1) := by decide +kernel
theorem dX0_become_63 : decode cX0_become 63 = .ok (.getfield 24, 3) := by decide +kernel
theorem dX0_become_66 : decode cX0_become 66 = .ok (.iload_n 2, 1) := by decide +kernel
theorem dX0_become_67 : decode cX0_become 67 = .ok (.iaload, 1) := by decide +kernel
theorem dX0_become_68 : decode cX0_become 68 = .ok (.iastore, 1) := by decide +kernel
theorem dX0_become_69 : decode cX0_become 69 = .ok (.aload_n 0, 1) := by decide +kernel
theorem dX0_become_70 : decode cX0_become 70 = .ok (.getfield 27, 3) := by decide +kernel
theorem dX0_become_73 : decode cX0_become 73 = .ok (.iload_n 2, 1) := by decide +kernel
theorem dX0_become_74 : decode cX0_become 74 = .ok (.aload_n 1, 1) := by decide +kernel
theorem dX0_become_75 : decode cX0_become 75 = .ok (.getfield 27, 3) := by decide +kernel
theorem dX0_become_78 : decode cX0_become 78 = .ok (.iload_n 2, 1) := by decide +kernel
theorem dX0_become_79 : decode cX0_become 79 = .ok (.iaload, 1) := by decide +kernel
theorem dX0_become_80 : decode cX0_become 80 = .ok (.iastore, 1) := by decide +kernel
theorem dX0_become_81 : decode cX0_become 81 = .ok (.iinc 2 1, 3) := by decide +kernel
theorem dX0_become_84 : decode cX0_become 84 = .ok (.goto (-32), 3) := by decide +kernel
theorem dX0_become_87 : decode cX0_become 87 = .ok (.aload_n 0, 1) := by decide +kernel
theorem dX0_become_88 : decode cX0_become 88 = .ok (.getfield 33, 3) := by decide +kernel
theorem dX0_become_91 : decode cX0_become 91 = .ok (.aload_n 1, 1) := by decide +kernel
theorem dX0_become_92 : decode cX0_become 92 = .ok (.getfield 33, 3) := by decide +kernel
theorem dX0_become_95 : decode cX0_become 95 = .ok (.invokevirtual 83, 3) := by decide +kernel
theorem dX0_become_98 : decode cX0_become 98 = .ok (.aload_n 0, 1) := by decide +kernel
theorem dX0_become_99 : decode cX0_become 99 = .ok (.aload_n 1, 1) := by decide +kernel
theorem dX0_become_100 : decode cX0_become 100 = .ok (.getfield 87, 3) := by decide +kernel
theorem dX0_become_103 : decode cX0_become 103 = .ok (.putfield 87, 3) := by decide +kernel
theorem dX0_become_106 : decode cX0_become 106 = .ok (.aload_n 0, 1) := by decide +kernel
theorem dX0_become_107 : decode cX0_become 107 = .ok (.aload_n 1, 1) := by decide +kernel
theorem dX0_become_108 : decode cX0_become 108 = .ok (.getfield 37, 3) := by decide +kernel
theorem dX0_become_111 : decode cX0_become 111 = .ok (.putfield 37, 3) := by decide +kernel
theorem dX0_become_114 : decode cX0_become 114 = .ok (.aload_n 0, 1) := by decide +kernel
theorem dX0_become_115 : decode cX0_become 115 = .ok (.aload_n 1, 1) := by decide +kernel
theorem dX0_become_116 : decode cX0_become 116 = .ok (.getfield 50, 3) := by decide +kernel
theorem dX0_become_119 : decode cX0_become 119 = .ok (.putfield 50, 3) := by decide +kernel
theorem dX0_become_122 : decode cX0_become 122 = .ok (.aload_n 0, 1) := by decide +kernel
theorem dX0_become_123 : decode cX0_become 123 = .ok (.aload_n 1, 1) := by decide +kernel
theorem dX0_become_124 : decode cX0_become 124 = .ok (.getfield 58, 3) := by decide +kernel
theorem dX0_become_127 : decode cX0_become 127 = .ok (.putfield 58, 3) := by decide +kernel
theorem dX0_become_130 : decode cX0_become 130 = .ok (.aload_n 0, 1) := by decide +kernel
theorem dX0_become_131 : decode cX0_become 131 = .ok (.aload_n 1, 1) := by decide +kernel
theorem dX0_become_132 : decode cX0_become 132 = .ok (.getfield 65, 3) := by decide +kernel
theorem dX0_become_135 : decode cX0_become 135 = .ok (.putfield 65, 3) := by decide +kernel
theorem dX0_become_138 : decode cX0_become 138 = .ok (.aload_n 0, 1) := by decide +kernel
theorem dX0_become_139 : decode cX0_become 139 = .ok (.aload_n 1, 1) := by decide +kernel
theorem dX0_become_140 : decode cX0_become 140 = .ok (.getfield 68, 3) := by decide +kernel
theorem dX0_become_143 : decode cX0_become 143 = .ok (.putfield 68, 3) := by decide +kernel
theorem dX0_become_146 : decode cX0_become 146 = .ok (.aload_n 0, 1) := by decide +kernel
theorem dX0_become_147 : decode cX0_become 147 = .ok (.aload_n 1, 1) := by decide +kernel
theorem dX0_become_148 : decode cX0_become 148 = .ok (.getfield 71, 3) := by decide +kernel
theorem dX0_become_151 : decode cX0_become 151 = .ok (.putfield 71, 3) := by decide +kernel
theorem dX0_become_154 : decode cX0_become 154 = .ok (.aload_n 0, 1) := by decide +kernel
theorem dX0_become_155 : decode cX0_become 155 = .ok (.aload_n 1, 1) := by decide +kernel
theorem dX0_become_156 : decode cX0_become 156 = .ok (.getfield 74, 3) := by decide +kernel
theorem dX0_become_159 : decode cX0_become 159 = .ok (.putfield 74, 3) := by decide +kernel
theorem dX0_become_162 : decode cX0_become 162 = .ok (.aload_n 0, 1) := by decide +kernel
theorem dX0_become_163 : decode cX0_become 163 = .ok (.aload_n 1, 1) := by decide +kernel
theorem dX0_become_164 : decode cX0_become 164 = .ok (.getfield 77, 3) := by decide +kernel
theorem dX0_become_167 : decode cX0_become 167 = .ok (.putfield 77, 3) := by decide +kernel
theorem dX0_become_170 : decode cX0_become 170 = .ok (.aload_n 0, 1) := by decide +kernel
theorem dX0_become_171 : decode cX0_become 171 = .ok (.aload_n 1, 1) := by decide +kernel
theorem dX0_become_172 : decode cX0_become 172 = .ok (.getfield 80, 3) := by decide +kernel
theorem dX0_become_175 : decode cX0_become 175 = .ok (.putfield 80, 3) := by decide +kernel
theorem dX0_become_178 : decode cX0_become 178 = .ok (.return_, 1) := by decide +kernel
theorem dX0_goByWay_0 : decode cX0_goByWay 0 = .ok (.iload_n 2, 1) := by decide +kernel
theorem dX0_goByWay_1 : decode cX0_goByWay 1 = .ok (.ifCond .le 29, 3) := by decide +kernel
theorem dX0_goByWay_4 : decode cX0_goByWay 4 = .ok (.aload_n 0, 1) := by decide +kernel
theorem dX0_goByWay_5 : decode cX0_goByWay 5 = .ok (.getfield 68, 3) := by decide +kernel
theorem dX0_goByWay_8 : decode cX0_goByWay 8 = .ok (.ifCond .le 22, 3) := by decide +kernel
theorem dX0_goByWay_11 : decode cX0_goByWay 11 = .ok (.aload_n 0, 1) := by decide +kernel
theorem dX0_goByWay_12 : decode cX0_goByWay 12 = .ok (.getfield 68, 3) := by decide +kernel
theorem dX0_goByWay_15 : decode cX0_goByWay 15 = .ok (.iload_n 2, 1) := by decide +kernel
theorem dX0_goByWay_16 : decode cX0_goByWay 16 = .ok (.irem, 1) := by decide +kernel
theorem dX0_goByWay_17 : decode cX0_goByWay 17 = .ok (.ifCond .ne 13, 3) := by decide +kernel
theorem dX0_goByWay_20 : decode cX0_goByWay 20 = .ok (.aload_n 0, 1) := by decide +kernel
theorem dX0_goByWay_21 : decode cX0_goByWay 21 = .ok (.iconst 1, 1) := by decide +kernel
theorem dX0_goByWay_22 : decode cX0_goByWay 22 = .ok (.aload_n 0, 1) := by decide +kernel
theorem dX0_goByWay_23 : decode cX0_goByWay 23 = .ok (.getfield 65, 3) := by decide +kernel
theorem dX0_goByWay_26 : decode cX0_goByWay 26 = .ok (.isub, 1) := by decide +kernel
theorem dX0_goByWay_27 : decode cX0_goByWay 27 = .ok (.putfield 65, 3) := by decide +kernel
theorem dX0_goByWay_30 : decode cX0_goByWay 30 = .ok (.aload_n 0, 1) := by decide +kernel
theorem dX0_goByWay_31 : decode cX0_goByWay 31 = .ok (.iconst 1, 1) := by decide +kernel
theorem dX0_goByWay_32 : decode cX0_goByWay 32 = .ok (.iload_n 1, 1) := by decide +kernel
theorem dX0_goByWay_33 : decode cX0_goByWay 33 = .ok (.invokevirtual 110, 3) := by decide +kernel
theorem dX0_goByWay_36 : decode cX0_goByWay 36 = .ok (.return_, 1) := by decide +kernel
theorem dX0_goOn_0 : decode cX0_goOn 0 = .ok (.iconst 0, 1) := by decide +kernel
theorem dX0_goOn_1 : decode cX0_goOn 1 = .ok (.istore_n 2, 1) := by decide +kernel
theorem dX0_goOn_2 : decode cX0_goOn 2 = .ok (.iload_n 2, 1) := by decide +kernel
theorem dX0_goOn_3 : decode cX0_goOn 3 = .ok (.iload_n 1, 1) := by decide +kernel
theorem dX0_goOn_4 : decode cX0_goOn 4 = .ok (.if_icmp .ge 105, 3) := by decide +kernel
theorem dX0_goOn_7 : decode cX0_goOn 7 = .ok (.aload_n 0, 1) := by decide +kernel
theorem dX0_goOn_8 : decode cX0_goOn 8 = .ok (.invokevirtual 101, 3) := by decide +kernel
theorem dX0_goOn_11 : decode cX0_goOn 11 = .ok (.aload_n 0, 1) := by decide +kernel
theorem dX0_goOn_12 : decode cX0_goOn 12 = .ok (.getfield 33, 3) := by decide +kernel
theorem dX0_goOn_15 : decode cX0_goOn 15 = .ok (.aload_n 0, 1) := by decide +kernel
theorem dX0_goOn_16 : decode cX0_goOn 16 = .ok (.getfield 71, 3) := by decide +kernel
theorem dX0_goOn_19 : decode cX0_goOn 19 = .ok (.invokevirtual 117, 3) := by decide +kernel
theorem dX0_goOn_22 : decode cX0_goOn 22 = .ok (.ifCond .eq 75, 3) := by decide +kernel
theorem dX0_goOn_25 : decode cX0_goOn 25 = .ok (.aload_n 0, 1) := by decide +kernel
theorem dX0_goOn_26 : decode cX0_goOn 26 = .ok (.aload_n 0, 1) := by decide +kernel
theorem dX0_goOn_27 : decode cX0_goOn 27 = .ok (.getfield 33, 3) := by decide +kernel
theorem dX0_goOn_30 : decode cX0_goOn 30 = .ok (.aload_n 0, 1) := by decide +kernel
theorem dX0_goOn_31 : decode cX0_goOn 31 = .ok (.getfield 71, 3) := by decide +kernel
theorem dX0_goOn_34 : decode cX0_goOn 34 = .ok (.invokevirtual 121, 3) := by decide +kernel
theorem dX0_goOn_37 : decode cX0_goOn 37 = .ok (.aload_n 0, 1) := by decide +kernel
theorem dX0_goOn_38 : decode cX0_goOn 38 = .ok (.getfield 33, 3) := by decide +kernel
theorem dX0_goOn_41 : decode cX0_goOn 41 = .ok (.aload_n 0, 1) := by decide +kernel
theorem dX0_goOn_42 : decode cX0_goOn 42 = .ok (.getfield 71, 3) := by decide +kernel
theorem dX0_goOn_45 : decode cX0_goOn 45 = .ok (.invokevirtual 125, 3) := by decide +kernel
theorem dX0_goOn_48 : decode cX0_goOn 48 = .ok (.invokevirtual 110, 3) := by decide +kernel
theorem dX0_goOn_51 : decode cX0_goOn 51 = .ok (.aload_n 0, 1) := by decide +kernel
theorem dX0_goOn_52 : decode cX0_goOn 52 = .ok (.dup, 1) := by decide +kernel
theorem dX0_goOn_53 : decode cX0_goOn 53 = .ok (.getfield 74, 3) := by decide +kernel
theorem dX0_goOn_56 : decode cX0_goOn 56 = .ok (.iconst 1, 1) := by decide +kernel
theorem dX0_goOn_57 : decode cX0_goOn 57 = .ok (.iadd, 1) := by decide +kernel
theorem dX0_goOn_58 : decode cX0_goOn 58 = .ok (.putfield 74, 3) := by decide +kernel
theorem dX0_goOn_61 : decode cX0_goOn 61 = .ok (.aload_n 0, 1) := by decide +kernel
theorem dX0_goOn_62 : decode cX0_goOn 62 = .ok (.getfield 74, 3) := by decide +kernel
theorem dX0_goOn_65 : decode cX0_goOn 65 = .ok (.aload_n 0, 1) := by decide +kernel
theorem dX0_goOn_66 : decode cX0_goOn 66 = .ok (.getfield 33, 3) := by decide +kernel
theorem dX0_goOn_69 : decode cX0_goOn 69 = .ok (.aload_n 0, 1) := by decide +kernel
theorem dX0_goOn_70 : decode cX0_goOn 70 = .ok (.getfield 71, 3) := by decide +kernel
theorem dX0_goOn_73 : decode cX0_goOn 73 = .ok (.invokevirtual 128, 3) := by decide +kernel
theorem dX0_goOn_76 : decode cX0_goOn 76 = .ok (.if_icmp .lt 27, 3) := by decide +kernel
theorem dX0_goOn_79 : decode cX0_goOn 79 = .ok (.aload_n 0, 1) := by decide +kernel
theorem dX0_goOn_80 : decode cX0_goOn 80 = .ok (.dup, 1) := by decide +kernel
theorem dX0_goOn_81 : decode cX0_goOn 81 = .ok (.getfield 71, 3) := by decide +kernel
theorem dX0_goOn_84 : decode cX0_goOn 84 = .ok (.iconst 1, 1) := by decide +kernel
theorem dX0_goOn_85 : decode cX0_goOn 85 = .ok (.iadd, 1) := by decide +kernel
theorem dX0_goOn_86 : decode cX0_goOn 86 = .ok (.putfield 71, 3) := by decide +kernel
theorem dX0_goOn_89 : decode cX0_goOn 89 = .ok (.aload_n 0, 1) := by decide +kernel
theorem dX0_goOn_90 : decode cX0_goOn 90 = .ok (.iconst 0, 1) := by decide +kernel
theorem dX0_goOn_91 : decode cX0_goOn 91 = .ok (.putfield 74, 3) := by decide +kernel
theorem dX0_goOn_94 : decode cX0_goOn 94 = .ok (.goto 9, 3) := by decide +kernel
theorem dX0_goOn_97 : decode cX0_goOn 97 = .ok (.aload_n 0, 1) := by decide +kernel
theorem dX0_goOn_98 : decode cX0_goOn 98 = .ok (.iconst 4, 1) := by decide +kernel
theorem dX0_goOn_99 : decode cX0_goOn 99 = .ok (.iconst 0, 1) := by decide +kernel
theorem dX0_goOn_100 : decode cX0_goOn 100 = .ok (.invokevirtual 110, 3) := by decide +kernel
theorem dX0_goOn_103 : decode cX0_goOn 103 = .ok (.iinc 2 1, 3) := by decide +kernel
theorem dX0_goOn_106 : decode cX0_goOn 106 = .ok (.goto (-104), 3) := by decide +kernel
theorem dX0_goOn_109 : decode cX0_goOn 109 = .ok (.return_, 1) := by decide +kernel
theorem dX0_restFor_0 : decode cX0_restFor 0 = .ok (.iconst 0, 1) := by decide +kernel
theorem dX0_restFor_1 : decode cX0_restFor 1 = .ok (.istore_n 2, 1) := by decide +kernel
theorem dX0_restFor_2 : decode cX0_restFor 2 = .ok (.iload_n 2, 1) := by decide +kernel
theorem dX0_restFor_3 : decode cX0_restFor 3 = .ok (.iload_n 1, 1) := by decide +kernel
theorem dX0_restFor_4 : decode cX0_restFor 4 = .ok (.if_icmp .ge 15, 3) := by decide +kernel
theorem dX0_restFor_7 : decode cX0_restFor 7 = .ok (.aload_n 0, 1) := by decide +kernel
theorem dX0_restFor_8 : decode cX0_restFor 8 = .ok (.iconst 4, 1) := by decide +kernel
theorem dX0_restFor_9 : decode cX0_restFor 9 = .ok (.iconst 0, 1) := by decide +kernel
theorem dX0_restFor_10 : decode cX0_restFor 10 = .ok (.invokevirtual 110, 3) := by decide +kernel
theorem dX0_restFor_13 : decode cX0_restFor 13 = .ok (.iinc 2 1, 3) := by decide +kernel
theorem dX0_restFor_16 : decode cX0_restFor 16 = .ok (.goto (-14), 3) := by decide +kernel
theorem dX0_restFor_19 : decode cX0_restFor 19 = .ok (.return_, 1) := by decide +kernel
theorem dX0_greatestAtRest_0 : decode cX0_greatestAtRest 0 = .ok (.aload_n 0, 1) := by decide +kernel
theorem dX0_greatestAtRest_1 : decode cX0_greatestAtRest 1 = .ok (.invokevirtual 131, 3) := by decide +kernel
theorem dX0_greatestAtRest_4 : decode cX0_greatestAtRest 4 = .ok (.istore_n 2, 1) := by decide +kernel
theorem dX0_greatestAtRest_5 : decode cX0_greatestAtRest 5 = .ok (.iconst 0, 1) := by decide +kernel
theorem dX0_greatestAtRest_6 : decode cX0_greatestAtRest 6 = .ok (.istore_n 3, 1) := by decide +kernel
theorem dX0_greatestAtRest_7 : decode cX0_greatestAtRest 7 = .ok (.iload_n 3, 1) := by decide +kernel
theorem dX0_greatestAtRest_8 : decode cX0_greatestAtRest 8 = .ok (.iload_n 1, 1) := by decide +kernel
theorem dX0_greatestAtRest_9 : decode cX0_greatestAtRest 9 = .ok (.if_icmp .ge 24, 3) := by decide +kernel
theorem dX0_greatestAtRest_12 : decode cX0_greatestAtRest 12 = .ok (.aload_n 0, 1) := by decide +kernel
theorem dX0_greatestAtRest_13 : decode cX0_greatestAtRest 13 = .ok (.iconst 4, 1) := by decide +kernel
theorem dX0_greatestAtRest_14 : decode cX0_greatestAtRest 14 = .ok (.iconst 0, 1) := by decide +kernel
theorem dX0_greatestAtRest_15 : decode cX0_greatestAtRest 15 = .ok (.invokevirtual 110, 3) := by decide +kernel
theorem dX0_greatestAtRest_18 : decode cX0_greatestAtRest 18 = .ok (.iload_n 2, 1) := by decide +kernel
theorem dX0_greatestAtRest_19 : decode cX0_greatestAtRest 19 = .ok (.aload_n 0, 1) := by decide +kernel
theorem dX0_greatestAtRest_20 : decode cX0_greatestAtRest 20 = .ok (.invokevirtual 131, 3) := by decide +kernel
theorem dX0_greatestAtRest_23 : decode cX0_greatestAtRest 23 = .ok (.invokestatic 47, 3) := by decide +kernel
theorem dX0_greatestAtRest_26 : decode cX0_greatestAtRest 26 = .ok (.istore_n 2, 1) := by decide +kernel
theorem dX0_greatestAtRest_27 : decode cX0_greatestAtRest 27 = .ok (.iinc 3 1, 3) := by decide +kernel
theorem dX0_greatestAtRest_30 : decode cX0_greatestAtRest 30 = .ok (.goto (-23), 3) := by decide +kernel
theorem dX0_greatestAtRest_33 : decode cX0_greatestAtRest 33 = .ok (.iload_n 2, 1) := by decide +kernel
theorem dX0_greatestAtRest_34 : decode cX0_greatestAtRest 34 = .ok (.ireturn, 1) := by decide +kernel
theorem dX0_pink_0 : decode cX0_pink 0 = .ok (.aload_n 0, 1) := by decide +kernel
theorem dX0_pink_1 : decode cX0_pink 1 = .ok (.sipush 500, 3) := by decide +kernel
theorem dX0_pink_4 : decode cX0_pink 4 = .ok (.sipush 649, 3) := by decide +kernel
theorem dX0_pink_7 : decode cX0_pink 7 = .ok (.invokevirtual 173, 3) := by decide +kernel
theorem dX0_pink_10 : decode cX0_pink 10 = .ok (.ireturn, 1) := by decide +kernel
theorem dX0_unlikeRow_0 : decode cX0_unlikeRow 0 = .ok (.iconst 0, 1) := by decide +kernel
theorem dX0_unlikeRow_1 : decode cX0_unlikeRow 1 = .ok (.istore_n 2, 1) := by decide +kernel
theorem dX0_unlikeRow_2 : decode cX0_unlikeRow 2 = .ok (.iconst 0, 1) := by decide +kernel
theorem dX0_unlikeRow_3 : decode cX0_unlikeRow 3 = .ok (.istore_n 3, 1) := by decide +kernel
theorem dX0_unlikeRow_4 : decode cX0_unlikeRow 4 = .ok (.iload_n 3, 1) := by decide +kernel
theorem dX0_unlikeRow_5 : decode cX0_unlikeRow 5 = .ok (.aload_n 0, 1) := by decide +kernel
theorem dX0_unlikeRow_6 : decode cX0_unlikeRow 6 = .ok (.getfield 37, 3) := by decide +kernel
theorem dX0_unlikeRow_9 : decode cX0_unlikeRow 9 = .ok (.if_icmp .ge 30, 3) := by decide +kernel
theorem dX0_unlikeRow_12 : decode cX0_unlikeRow 12 = .ok (.iload_n 2, 1) := by decide +kernel
theorem dX0_unlikeRow_13 : decode cX0_unlikeRow 13 = .ok (.aload_n 1, 1) := by decide +kernel
theorem dX0_unlikeRow_14 : decode cX0_unlikeRow 14 = .ok (.iload_n 3, 1) := by decide +kernel
theorem dX0_unlikeRow_15 : decode cX0_unlikeRow 15 = .ok (.invokevirtual 176, 3) := by decide +kernel
theorem dX0_unlikeRow_18 : decode cX0_unlikeRow 18 = .ok (.aload_n 0, 1) := by decide +kernel
theorem dX0_unlikeRow_19 : decode cX0_unlikeRow 19 = .ok (.iload_n 3, 1) := by decide +kernel
theorem dX0_unlikeRow_20 : decode cX0_unlikeRow 20 = .ok (.invokevirtual 181, 3) := by decide +kernel
theorem dX0_unlikeRow_23 : decode cX0_unlikeRow 23 = .ok (.if_icmp .eq 7, 3) := by decide +kernel
theorem dX0_unlikeRow_26 : decode cX0_unlikeRow 26 = .ok (.iconst 1, 1) := by decide +kernel
theorem dX0_unlikeRow_27 : decode cX0_unlikeRow 27 = .ok (.goto 4, 3) := by decide +kernel
theorem dX0_unlikeRow_30 : decode cX0_unlikeRow 30 = .ok (.iconst 0, 1) := by decide +kernel
theorem dX0_unlikeRow_31 : decode cX0_unlikeRow 31 = .ok (.iadd, 1) := by decide +kernel
theorem dX0_unlikeRow_32 : decode cX0_unlikeRow 32 = .ok (.istore_n 2, 1) := by decide +kernel
theorem dX0_unlikeRow_33 : decode cX0_unlikeRow 33 = .ok (.iinc 3 1, 3) := by decide +kernel
theorem dX0_unlikeRow_36 : decode cX0_unlikeRow 36 = .ok (.goto (-32), 3) := by decide +kernel
theorem dX0_unlikeRow_39 : decode cX0_unlikeRow 39 = .ok (.iload_n 2, 1) := by decide +kernel
theorem dX0_unlikeRow_40 : decode cX0_unlikeRow 40 = .ok (.ireturn, 1) := by decide +kernel
theorem dX0_digestOn_0 : decode cX0_digestOn 0 = .ok (.aload_n 0, 1) := by decide +kernel
theorem dX0_digestOn_1 : decode cX0_digestOn 1 = .ok (.getfield 87, 3) := by decide +kernel
theorem dX0_digestOn_4 : decode cX0_digestOn 4 = .ok (.ifCond .ne 11, 3) := by decide +kernel
theorem dX0_digestOn_7 : decode cX0_digestOn 7 = .ok (.ldc2_w 184, 3) := by decide +kernel
theorem dX0_digestOn_10 : decode cX0_digestOn 10 = .ok (.lload_n 1, 1) := by decide +kernel
theorem dX0_digestOn_11 : decode cX0_digestOn 11 = .ok (.lmul, 1) := by decide +kernel
theorem dX0_digestOn_12 : decode cX0_digestOn 12 = .ok (.lconst 1, 1) := by decide +kernel
theorem dX0_digestOn_13 : decode cX0_digestOn 13 = .ok (.lsub, 1) := by decide +kernel
theorem dX0_digestOn_14 : decode cX0_digestOn 14 = .ok (.lreturn, 1) := by decide +kernel
theorem dX0_digestOn_15 : decode cX0_digestOn 15 = .ok (.lload_n 1, 1) := by decide +kernel
theorem dX0_digestOn_16 : decode cX0_digestOn 16 = .ok (.lstore_n 3, 1) := by decide +kernel
theorem dX0_digestOn_17 : decode cX0_digestOn 17 = .ok (.iconst 0, 1) := by decide +kernel
theorem dX0_digestOn_18 : decode cX0_digestOn 18 = .ok (.istore 5, 2) := by decide +kernel
theorem dX0_digestOn_20 : decode cX0_digestOn 20 = .ok (.iload 5, 2) := by decide +kernel
theorem dX0_digestOn_22 : decode cX0_digestOn 22 = .ok (.aload_n 0, 1) := by decide +kernel
theorem dX0_digestOn_23 : decode cX0_digestOn 23 = .ok (.getfield 37, 3) := by decide +kernel
theorem dX0_digestOn_26 : decode cX0_digestOn 26 = .ok (.if_icmp .ge 40, 3) := by decide +kernel
theorem dX0_digestOn_29 : decode cX0_digestOn 29 = .ok (.iconst 0, 1) := by decide +kernel
theorem dX0_digestOn_30 : decode cX0_digestOn 30 = .ok (.istore 6, 2) := by decide +kernel
theorem dX0_digestOn_32 : decode cX0_digestOn 32 = .ok (.iload 6, 2) := by decide +kernel
theorem dX0_digestOn_34 : decode cX0_digestOn 34 = .ok (.iconst 2, 1) := by decide +kernel
theorem dX0_digestOn_35 : decode cX0_digestOn 35 = .ok (.if_icmp .gt 25, 3) := by decide +kernel
theorem dX0_digestOn_38 : decode cX0_digestOn 38 = .ok (.ldc2_w 184, 3) := by decide +kernel
theorem dX0_digestOn_41 : decode cX0_digestOn 41 = .ok (.lload_n 3, 1) := by decide +kernel
theorem dX0_digestOn_42 : decode cX0_digestOn 42 = .ok (.lmul, 1) := by decide +kernel
theorem dX0_digestOn_43 : decode cX0_digestOn 43 = .ok (.aload_n 0, 1) := by decide +kernel
theorem dX0_digestOn_44 : decode cX0_digestOn 44 = .ok (.iload 5, 2) := by decide +kernel
theorem dX0_digestOn_46 : decode cX0_digestOn 46 = .ok (.iload 6, 2) := by decide +kernel
theorem dX0_digestOn_48 : decode cX0_digestOn 48 = .ok (.invokevirtual 186, 3) := by decide +kernel
theorem dX0_digestOn_51 : decode cX0_digestOn 51 = .ok (.i2l, 1) := by decide +kernel
theorem dX0_digestOn_52 : decode cX0_digestOn 52 = .ok (.ladd, 1) := by decide +kernel
theorem dX0_digestOn_53 : decode cX0_digestOn 53 = .ok (.lstore_n 3, 1) := by decide +kernel
theorem dX0_digestOn_54 : decode cX0_digestOn 54 = .ok (.iinc 6 1, 3) := by decide +kernel
theorem dX0_digestOn_57 : decode cX0_digestOn 57 = .ok (.goto (-25), 3) := by decide +kernel
theorem dX0_digestOn_60 : decode cX0_digestOn 60 = .ok (.iinc 5 1, 3) := by decide +kernel
theorem dX0_digestOn_63 : decode cX0_digestOn 63 = .ok (.goto (-43), 3) := by decide +kernel
theorem dX0_digestOn_66 : decode cX0_digestOn 66 = .ok (.iconst 0, 1) := by decide +kernel
theorem dX0_digestOn_67 : decode cX0_digestOn 67 = .ok (.istore 5, 2) := by decide +kernel
theorem dX0_digestOn_69 : decode cX0_digestOn 69 = .ok (.iload 5, 2) := by decide +kernel
theorem dX0_digestOn_71 : decode cX0_digestOn 71 = .ok (.iconst 2, 1) := by decide +kernel
theorem dX0_digestOn_72 : decode cX0_digestOn 72 = .ok (.if_icmp .ge 40, 3) := by decide +kernel
theorem dX0_digestOn_75 : decode cX0_digestOn 75 = .ok (.iconst 0, 1) := by decide +kernel
theorem dX0_digestOn_76 : decode cX0_digestOn 76 = .ok (.istore 6, 2) := by decide +kernel
theorem dX0_digestOn_78 : decode cX0_digestOn 78 = .ok (.iload 6, 2) := by decide +kernel
theorem dX0_digestOn_80 : decode cX0_digestOn 80 = .ok (.iconst 3, 1) := by decide +kernel
theorem dX0_digestOn_81 : decode cX0_digestOn 81 = .ok (.if_icmp .gt 25, 3) := by decide +kernel
theorem dX0_digestOn_84 : decode cX0_digestOn 84 = .ok (.ldc2_w 184, 3) := by decide +kernel
theorem dX0_digestOn_87 : decode cX0_digestOn 87 = .ok (.lload_n 3, 1) := by decide +kernel
theorem dX0_digestOn_88 : decode cX0_digestOn 88 = .ok (.lmul, 1) := by decide +kernel
theorem dX0_digestOn_89 : decode cX0_digestOn 89 = .ok (.aload_n 0, 1) := by decide +kernel
theorem dX0_digestOn_90 : decode cX0_digestOn 90 = .ok (.iload 5, 2) := by decide +kernel
theorem dX0_digestOn_92 : decode cX0_digestOn 92 = .ok (.iload 6, 2) := by decide +kernel
theorem dX0_digestOn_94 : decode cX0_digestOn 94 = .ok (.invokevirtual 189, 3) := by decide +kernel
theorem dX0_digestOn_97 : decode cX0_digestOn 97 = .ok (.i2l, 1) := by decide +kernel
theorem dX0_digestOn_98 : decode cX0_digestOn 98 = .ok (.ladd, 1) := by decide +kernel
theorem dX0_digestOn_99 : decode cX0_digestOn 99 = .ok (.lstore_n 3, 1) := by decide +kernel
theorem dX0_digestOn_100 : decode cX0_digestOn 100 = .ok (.iinc 6 1, 3) := by decide +kernel
theorem dX0_digestOn_103 : decode cX0_digestOn 103 = .ok (.goto (-25), 3) := by decide +kernel
theorem dX0_digestOn_106 : decode cX0_digestOn 106 = .ok (.iinc 5 1, 3) := by decide +kernel
theorem dX0_digestOn_109 : decode cX0_digestOn 109 = .ok (.goto (-40), 3) := by decide +kernel
theorem dX0_digestOn_112 : decode cX0_digestOn 112 = .ok (.lload_n 3, 1) := by decide +kernel
theorem dX0_digestOn_113 : decode cX0_digestOn 113 = .ok (.lreturn, 1) := by decide +kernel
theorem dX0_makeByPlan_0 : decode cX0_makeByPlan 0 = .ok (.aload_n 0, 1) := by decide +kernel
theorem dX0_makeByPlan_1 : decode cX0_makeByPlan 1 = .ok (.aload_n 1, 1) := by decide +kernel
theorem dX0_makeByPlan_2 : decode cX0_makeByPlan 2 = .ok (.iload_n 2, 1) := by decide +kernel
theorem dX0_makeByPlan_3 : decode cX0_makeByPlan 3 = .ok (.iload_n 3, 1) := by decide +kernel
theorem dX0_makeByPlan_4 : decode cX0_makeByPlan 4 = .ok (.invokevirtual 91, 3) := by decide +kernel
theorem dX0_makeByPlan_7 : decode cX0_makeByPlan 7 = .ok (.aload_n 0, 1) := by decide +kernel
theorem dX0_makeByPlan_8 : decode cX0_makeByPlan 8 = .ok (.getfield 33, 3) := by decide +kernel
theorem dX0_makeByPlan_11 : decode cX0_makeByPlan 11 = .ok (.aload 4, 2) := by decide +kernel
theorem dX0_makeByPlan_13 : decode cX0_makeByPlan 13 = .ok (.invokevirtual 83, 3) := by decide +kernel
theorem dX0_makeByPlan_16 : decode cX0_makeByPlan 16 = .ok (.aload_n 0, 1) := by decide +kernel
theorem dX0_makeByPlan_17 : decode cX0_makeByPlan 17 = .ok (.aload 4, 2) := by decide +kernel
theorem dX0_makeByPlan_19 : decode cX0_makeByPlan 19 = .ok (.getfield 94, 3) := by decide +kernel
theorem dX0_makeByPlan_22 : decode cX0_makeByPlan 22 = .ok (.invokevirtual 97, 3) := by decide +kernel
theorem dX0_makeByPlan_25 : decode cX0_makeByPlan 25 = .ok (.aload_n 0, 1) := by decide +kernel
theorem dX0_makeByPlan_26 : decode cX0_makeByPlan 26 = .ok (.invokevirtual 101, 3) := by decide +kernel
theorem dX0_makeByPlan_29 : decode cX0_makeByPlan 29 = .ok (.return_, 1) := by decide +kernel
theorem dX0_makeByWay_0 : decode cX0_makeByWay 0 = .ok (.aload_n 0, 1) := by decide +kernel
theorem dX0_makeByWay_1 : decode cX0_makeByWay 1 = .ok (.aload_n 1, 1) := by decide +kernel
theorem dX0_makeByWay_2 : decode cX0_makeByWay 2 = .ok (.aload_n 1, 1) := by decide +kernel
theorem dX0_makeByWay_3 : decode cX0_makeByWay 3 = .ok (.getfield 104, 3) := by decide +kernel
theorem dX0_makeByWay_6 : decode cX0_makeByWay 6 = .ok (.aload_n 1, 1) := by decide +kernel
theorem dX0_makeByWay_7 : decode cX0_makeByWay 7 = .ok (.getfield 105, 3) := by decide +kernel
theorem dX0_makeByWay_10 : decode cX0_makeByWay 10 = .ok (.invokevirtual 91, 3) := by decide +kernel
theorem dX0_makeByWay_13 : decode cX0_makeByWay 13 = .ok (.iconst 0, 1) := by decide +kernel
theorem dX0_makeByWay_14 : decode cX0_makeByWay 14 = .ok (.istore 5, 2) := by decide +kernel
theorem dX0_makeByWay_16 : decode cX0_makeByWay 16 = .ok (.iload 5, 2) := by decide +kernel
theorem dX0_makeByWay_18 : decode cX0_makeByWay 18 = .ok (.iload_n 3, 1) := by decide +kernel
theorem dX0_makeByWay_19 : decode cX0_makeByWay 19 = .ok (.if_icmp .ge 16, 3) := by decide +kernel
theorem dX0_makeByWay_22 : decode cX0_makeByWay 22 = .ok (.aload_n 0, 1) := by decide +kernel
theorem dX0_makeByWay_23 : decode cX0_makeByWay 23 = .ok (.iload_n 2, 1) := by decide +kernel
theorem dX0_makeByWay_24 : decode cX0_makeByWay 24 = .ok (.iload 4, 2) := by decide +kernel
theorem dX0_makeByWay_26 : decode cX0_makeByWay 26 = .ok (.invokevirtual 106, 3) := by decide +kernel
theorem dX0_makeByWay_29 : decode cX0_makeByWay 29 = .ok (.iinc 5 1, 3) := by decide +kernel
theorem dX0_makeByWay_32 : decode cX0_makeByWay 32 = .ok (.goto (-16), 3) := by decide +kernel
theorem dX0_makeByWay_35 : decode cX0_makeByWay 35 = .ok (.return_, 1) := by decide +kernel
theorem dX0_ticksTill_0 : decode cX0_ticksTill 0 = .ok (.aload_n 0, 1) := by decide +kernel
theorem dX0_ticksTill_1 : decode cX0_ticksTill 1 = .ok (.aload_n 1, 1) := by decide +kernel
theorem dX0_ticksTill_2 : decode cX0_ticksTill 2 = .ok (.iload_n 2, 1) := by decide +kernel
theorem dX0_ticksTill_3 : decode cX0_ticksTill 3 = .ok (.aload_n 1, 1) := by decide +kernel
theorem dX0_ticksTill_4 : decode cX0_ticksTill 4 = .ok (.getfield 105, 3) := by decide +kernel
theorem dX0_ticksTill_7 : decode cX0_ticksTill 7 = .ok (.invokevirtual 91, 3) := by decide +kernel
theorem dX0_ticksTill_10 : decode cX0_ticksTill 10 = .ok (.iconst 1, 1) := by decide +kernel
theorem dX0_ticksTill_11 : decode cX0_ticksTill 11 = .ok (.istore 6, 2) := by decide +kernel
theorem dX0_ticksTill_13 : decode cX0_ticksTill 13 = .ok (.iload 6, 2) := by decide +kernel
theorem dX0_ticksTill_15 : decode cX0_ticksTill 15 = .ok (.sipush 200, 3) := by decide +kernel
theorem dX0_ticksTill_18 : decode cX0_ticksTill 18 = .ok (.if_icmp .gt 28, 3) := by decide +kernel
theorem dX0_ticksTill_21 : decode cX0_ticksTill 21 = .ok (.aload_n 0, 1) := by decide +kernel
theorem dX0_ticksTill_22 : decode cX0_ticksTill 22 = .ok (.iload_n 3, 1) := by decide +kernel
theorem dX0_ticksTill_23 : decode cX0_ticksTill 23 = .ok (.iload 4, 2) := by decide +kernel
theorem dX0_ticksTill_25 : decode cX0_ticksTill 25 = .ok (.invokevirtual 106, 3) := by decide +kernel
theorem dX0_ticksTill_28 : decode cX0_ticksTill 28 = .ok (.aload_n 0, 1) := by decide +kernel
theorem dX0_ticksTill_29 : decode cX0_ticksTill 29 = .ok (.invokevirtual 113, 3) := by decide +kernel
theorem dX0_ticksTill_32 : decode cX0_ticksTill 32 = .ok (.iload 5, 2) := by decide +kernel
theorem dX0_ticksTill_34 : decode cX0_ticksTill 34 = .ok (.if_icmp .lt 6, 3) := by decide +kernel
theorem dX0_ticksTill_37 : decode cX0_ticksTill 37 = .ok (.iload 6, 2) := by decide +kernel
theorem dX0_ticksTill_39 : decode cX0_ticksTill 39 = .ok (.ireturn, 1) := by decide +kernel
theorem dX0_ticksTill_40 : decode cX0_ticksTill 40 = .ok (.iinc 6 1, 3) := by decide +kernel
theorem dX0_ticksTill_43 : decode cX0_ticksTill 43 = .ok (.goto (-30), 3) := by decide +kernel
theorem dX0_ticksTill_46 : decode cX0_ticksTill 46 = .ok (.bipush (-9), 2) := by decide +kernel
theorem dX0_ticksTill_48 : decode cX0_ticksTill 48 = .ok (.ireturn, 1) := by decide +kernel
def f_X7_within (a0 : Int32) (a1 : Int32) (a2 : Int32) : Option Int32 :=
  if a0 < a1 then (
    some 0)
  else (
    if a2 < a0 then (
      some 0)
    else (
      some 1))
set_option maxHeartbeats 4000000 in
set_option maxRecDepth 100000 in
theorem c_X7_within (l : Launch) (V : VT) (a0 : Int32) (a1 : Int32) (a2 : Int32) (G : G_) (r : Int32) (hf : f_X7_within a0 a1 a2 = some r) : MC l V yX7_within cX7_within 3 (some .boolean) 0 0 [.int a0, .int a1, .int a2] G (some (.int r)) G := by
  refine mc_of (by decide) (Nat.le_of_ble_eq_true rfl) (fun K hV ho hc hkl => ?_)
  subst hV
  replace hc : Ok K cX7_within RX7 (Cond.code yX7_within cX7_within 3 (some .boolean) :: TB) (some .boolean) 0 0 3 := hc
  replace ho : Rets K (some (.int r)) G := ho
  show X K 0 [(0, .int a0), (1, .int a1), (2, .int a2)] [] G
  unfold f_X7_within at hf
  refine x_iload_n hc 0 dX7_within_0 rfl rfl ?_
  refine x_iload_n hc 1 dX7_within_1 rfl rfl ?_
  refine x_icmp_lt (tgt := 14) hc dX7_within_2 rfl (fun c_2 => ?_) (fun c_2 => ?_)
  · replace hf := if_p hf c_2
    refine x_iconst (v := 0) hc rfl dX7_within_14 ?_
    cases hf
    exact x_zret hc rfl rfl ho dX7_within_15
  · replace hf := if_n hf c_2
    refine x_iload_n hc 0 dX7_within_5 rfl rfl ?_
    refine x_iload_n hc 2 dX7_within_6 rfl rfl ?_
    refine x_icmp_gt (tgt := 14) hc dX7_within_7 rfl (fun c_7 => ?_) (fun c_7 => ?_)
    · replace hf := if_p hf c_7
      refine x_iconst (v := 0) hc rfl dX7_within_14 ?_
      cases hf
      exact x_zret hc rfl rfl ho dX7_within_15
    · replace hf := if_n hf c_7
      refine x_iconst (v := 1) hc rfl dX7_within_10 ?_
      refine x_goto (tgt := 15) hc dX7_within_11 rfl ?_
      cases hf
      exact x_zret hc rfl rfl ho dX7_within_15
def f_X7_isIn (a0 : Int32) (a1 : Int32) : Option Int32 :=
  if (a1 >>> (a0 &&& 31)) &&& 1 = 1 then (
    some 1)
  else (
    some 0)
set_option maxHeartbeats 4000000 in
set_option maxRecDepth 100000 in
theorem c_X7_isIn (l : Launch) (V : VT) (a0 : Int32) (a1 : Int32) (G : G_) (r : Int32) (hf : f_X7_isIn a0 a1 = some r) : MC l V yX7_isIn cX7_isIn 2 (some .boolean) 0 0 [.int a0, .int a1] G (some (.int r)) G := by
  refine mc_of (by decide) (Nat.le_of_ble_eq_true rfl) (fun K hV ho hc hkl => ?_)
  subst hV
  replace hc : Ok K cX7_isIn RX7 (Cond.code yX7_isIn cX7_isIn 2 (some .boolean) :: TB) (some .boolean) 0 0 2 := hc
  replace ho : Rets K (some (.int r)) G := ho
  show X K 0 [(0, .int a0), (1, .int a1)] [] G
  unfold f_X7_isIn at hf
  refine x_iload_n hc 1 dX7_isIn_0 rfl rfl ?_
  refine x_iload_n hc 0 dX7_isIn_1 rfl rfl ?_
  refine x_ishr hc dX7_isIn_2 ?_
  refine x_iconst (v := 1) hc rfl dX7_isIn_3 ?_
  refine x_iand hc dX7_isIn_4 ?_
  refine x_iconst (v := 1) hc rfl dX7_isIn_5 ?_
  refine x_icmp_ne (tgt := 13) hc dX7_isIn_6 rfl (fun c_6 => ?_) (fun c_6 => ?_)
  · replace hf := if_n hf c_6
    refine x_iconst (v := 0) hc rfl dX7_isIn_13 ?_
    cases hf
    exact x_zret hc rfl rfl ho dX7_isIn_14
  · replace hf := if_p hf c_6
    refine x_iconst (v := 1) hc rfl dX7_isIn_9 ?_
    refine x_goto (tgt := 14) hc dX7_isIn_10 rfl ?_
    cases hf
    exact x_zret hc rfl rfl ho dX7_isIn_14
def f_X1_figureOf (a0 : Int32) (a1 : Int32) (a2 : Int32) : Option Int32 :=
  some ((a0 >>> ((2 * ((a2 - 1) - a1)) &&& 31)) &&& 3)
set_option maxHeartbeats 4000000 in
set_option maxRecDepth 100000 in
theorem c_X1_figureOf (l : Launch) (V : VT) (a0 : Int32) (a1 : Int32) (a2 : Int32) (G : G_) (r : Int32) (hf : f_X1_figureOf a0 a1 a2 = some r) : MC l V yX1_figureOf cX1_figureOf 3 (some .int) 0 0 [.int a0, .int a1, .int a2] G (some (.int r)) G := by
  refine mc_of (by decide) (Nat.le_of_ble_eq_true rfl) (fun K hV ho hc hkl => ?_)
  subst hV
  replace hc : Ok K cX1_figureOf RX1 (Cond.code yX1_figureOf cX1_figureOf 3 (some .int) :: TB) (some .int) 0 0 3 := hc
  replace ho : Rets K (some (.int r)) G := ho
  show X K 0 [(0, .int a0), (1, .int a1), (2, .int a2)] [] G
  unfold f_X1_figureOf at hf
  refine x_iload_n hc 0 dX1_figureOf_0 rfl rfl ?_
  refine x_iconst (v := 2) hc rfl dX1_figureOf_1 ?_
  refine x_iload_n hc 2 dX1_figureOf_2 rfl rfl ?_
  refine x_iconst (v := 1) hc rfl dX1_figureOf_3 ?_
  refine x_isub hc dX1_figureOf_4 ?_
  refine x_iload_n hc 1 dX1_figureOf_5 rfl rfl ?_
  refine x_isub hc dX1_figureOf_6 ?_
  refine x_imul hc dX1_figureOf_7 ?_
  refine x_ishr hc dX1_figureOf_8 ?_
  refine x_iconst (v := 3) hc rfl dX1_figureOf_9 ?_
  refine x_iand hc dX1_figureOf_10 ?_
  cases hf
  exact x_iret hc rfl ho dX1_figureOf_11
def f_X3_stepKind (a0 : Int32) : Option Int32 :=
  if a0 = 98 then (
    some 3)
  else if a0 = 100 then (
    some 6)
  else if a0 = 105 then (
    some 1)
  else if a0 = 111 then (
    some 2)
  else if a0 = 114 then (
    some 4)
  else if a0 = 117 then (
    some 5)
  else (
    some 0)
set_option maxHeartbeats 4000000 in
set_option maxRecDepth 100000 in
theorem c_X3_stepKind (l : Launch) (V : VT) (a0 : Int32) (G : G_) (r : Int32) (hf : f_X3_stepKind a0 = some r) : MC l V yX3_stepKind cX3_stepKind 1 (some .int) 0 0 [.int a0] G (some (.int r)) G := by
  refine mc_of (by decide) (Nat.le_of_ble_eq_true rfl) (fun K hV ho hc hkl => ?_)
  subst hV
  replace hc : Ok K cX3_stepKind RX3 (Cond.code yX3_stepKind cX3_stepKind 1 (some .int) :: TB) (some .int) 0 0 1 := hc
  replace ho : Rets K (some (.int r)) G := ho
  show X K 0 [(0, .int a0)] [] G
  unfold f_X3_stepKind at hf
  refine x_iload_n hc 0 dX3_stepKind_0 rfl rfl ?_
  by_cases s_1_0 : a0 = 98
  · replace hf := if_p hf s_1_0
    refine x_tsIn (tgt := 100) hc dX3_stepKind_1 98 s_1_0 (by decide) (by decide) rfl rfl ?_
    refine x_iconst (v := 3) hc rfl dX3_stepKind_100 ?_
    cases hf
    exact x_iret hc rfl ho dX3_stepKind_101
  replace hf := if_n hf s_1_0
  by_cases s_1_1 : a0 = 100
  · replace hf := if_p hf s_1_1
    refine x_tsIn (tgt := 106) hc dX3_stepKind_1 100 s_1_1 (by decide) (by decide) rfl rfl ?_
    refine x_bipush (v := 6) hc rfl dX3_stepKind_106 ?_
    cases hf
    exact x_iret hc rfl ho dX3_stepKind_108
  replace hf := if_n hf s_1_1
  by_cases s_1_2 : a0 = 105
  · replace hf := if_p hf s_1_2
    refine x_tsIn (tgt := 96) hc dX3_stepKind_1 105 s_1_2 (by decide) (by decide) rfl rfl ?_
    refine x_iconst (v := 1) hc rfl dX3_stepKind_96 ?_
    cases hf
    exact x_iret hc rfl ho dX3_stepKind_97
  replace hf := if_n hf s_1_2
  by_cases s_1_3 : a0 = 111
  · replace hf := if_p hf s_1_3
    refine x_tsIn (tgt := 98) hc dX3_stepKind_1 111 s_1_3 (by decide) (by decide) rfl rfl ?_
    refine x_iconst (v := 2) hc rfl dX3_stepKind_98 ?_
    cases hf
    exact x_iret hc rfl ho dX3_stepKind_99
  replace hf := if_n hf s_1_3
  by_cases s_1_4 : a0 = 114
  · replace hf := if_p hf s_1_4
    refine x_tsIn (tgt := 102) hc dX3_stepKind_1 114 s_1_4 (by decide) (by decide) rfl rfl ?_
    refine x_iconst (v := 4) hc rfl dX3_stepKind_102 ?_
    cases hf
    exact x_iret hc rfl ho dX3_stepKind_103
  replace hf := if_n hf s_1_4
  by_cases s_1_5 : a0 = 117
  · replace hf := if_p hf s_1_5
    refine x_tsIn (tgt := 104) hc dX3_stepKind_1 117 s_1_5 (by decide) (by decide) rfl rfl ?_
    refine x_iconst (v := 5) hc rfl dX3_stepKind_104 ?_
    cases hf
    exact x_iret hc rfl ho dX3_stepKind_105
  replace hf := if_n hf s_1_5
  refine x_tsDef (tgt := 109) hc dX3_stepKind_1 [98, 100, 105, 111, 114, 117] 20 rfl (by decide +kernel) (List.forall_mem_cons.mpr ⟨s_1_0, List.forall_mem_cons.mpr ⟨s_1_1, List.forall_mem_cons.mpr ⟨s_1_2, List.forall_mem_cons.mpr ⟨s_1_3, List.forall_mem_cons.mpr ⟨s_1_4, List.forall_mem_cons.mpr ⟨s_1_5, fun _ h => absurd h List.not_mem_nil⟩⟩⟩⟩⟩⟩) rfl ?_
  refine x_iconst (v := 0) hc rfl dX3_stepKind_109 ?_
  cases hf
  exact x_iret hc rfl ho dX3_stepKind_110
def f_X1_setLoss (a1 : Int32) (a2 : Int32) (a3 : Int32) (G : G_) : Option G_ :=
  bj1 (f_X7_within a1 0 3) fun x1 =>
  if x1 = 0 then (
    some G)
  else (
    bj1 (f_X7_within a2 0 15) fun x3 =>
    if x3 = 0 then (
      some G)
    else (
      chk (inb ((16 * a1) + a2) 64) <|
      nm (sI G 46 (ix ((16 * a1) + a2)) a3) fun G6 =>
      some G6))
set_option maxHeartbeats 4000000 in
set_option maxRecDepth 100000 in
theorem c_X1_setLoss (l : Launch) (V : VT) (a1 : Int32) (a2 : Int32) (a3 : Int32) (G : G_) (G' : G_) (hf : f_X1_setLoss a1 a2 a3 G = some G') : MC l V yX1_setLoss cX1_setLoss 4 none 1 22 [.ref (V.2.2.1 45), .int a1, .int a2, .int a3] G none G' := by
  refine mc_of (by decide) (Nat.le_of_ble_eq_true rfl) (fun K hV ho hc hkl => ?_)
  subst hV
  replace hc : Ok K cX1_setLoss RX1 (Cond.code yX1_setLoss cX1_setLoss 4 none :: TB) none 1 22 4 := hc
  replace ho : Rets K none G' := ho
  show X K 0 [(0, .ref (kad K 45)), (1, .int a1), (2, .int a2), (3, .int a3)] [] G
  unfold f_X1_setLoss at hf
  refine x_iload_n hc 1 dX1_setLoss_0 rfl rfl ?_
  refine x_iconst (v := 0) hc rfl dX1_setLoss_1 ?_
  refine x_iconst (v := 3) hc rfl dX1_setLoss_2 ?_
  obtain ⟨x1, r2, hf⟩ := bj1_ok hf
  refine x_callSNr (As := [.int a1, .int 0, .int 3]) (v := (.int x1)) (host := "SlabTurn") hc (c_X7_within (kl K) (kV K) a1 0 3 G x1 r2) mw_X7_within (List.mem_of_getElem? (i := 10) rfl) rfl (Nat.le_of_ble_eq_true rfl) ⟨Nat.le_of_ble_eq_true rfl, Nat.le_of_ble_eq_true rfl⟩ dX1_setLoss_3 rfl ?_
  refine x_if_eq (tgt := 31) hc dX1_setLoss_6 rfl (fun c_6 => ?_) (fun c_6 => ?_)
  · replace hf := if_p hf c_6
    cases hf
    exact x_vret hc rfl ho dX1_setLoss_31
  · replace hf := if_n hf c_6
    refine x_iload_n hc 2 dX1_setLoss_9 rfl rfl ?_
    refine x_iconst (v := 0) hc rfl dX1_setLoss_10 ?_
    refine x_bipush (v := 15) hc rfl dX1_setLoss_11 ?_
    obtain ⟨x3, r4, hf⟩ := bj1_ok hf
    refine x_callSNr (As := [.int a2, .int 0, .int 15]) (v := (.int x3)) (host := "SlabTurn") hc (c_X7_within (kl K) (kV K) a2 0 15 G x3 r4) mw_X7_within (List.mem_of_getElem? (i := 10) rfl) rfl (Nat.le_of_ble_eq_true rfl) ⟨Nat.le_of_ble_eq_true rfl, Nat.le_of_ble_eq_true rfl⟩ dX1_setLoss_13 rfl ?_
    refine x_if_eq (tgt := 31) hc dX1_setLoss_16 rfl (fun c_16 => ?_) (fun c_16 => ?_)
    · replace hf := if_p hf c_16
      cases hf
      exact x_vret hc rfl ho dX1_setLoss_31
    · replace hf := if_n hf c_16
      refine x_aload_n hc 0 dX1_setLoss_19 rfl rfl ?_
      refine x_getR (T := TX1) (p0 := 45) hc in_X1 rfl (by decide) (rfl : kd 45 = 1) 0 (by decide) tw_202 rfl rfl dX1_setLoss_20 ?_
      refine x_bipush (v := 16) hc rfl dX1_setLoss_23 ?_
      refine x_iload_n hc 1 dX1_setLoss_25 rfl rfl ?_
      refine x_imul hc dX1_setLoss_26 ?_
      refine x_iload_n hc 2 dX1_setLoss_27 rfl rfl ?_
      refine x_iadd hc dX1_setLoss_28 ?_
      refine x_iload_n hc 3 dX1_setLoss_29 rfl rfl ?_
      obtain ⟨h5, hf⟩ := chk_ok hf
      refine x_iastore (p0 := 46) hc (sh_X1_loss (rfl : kd 45 = 1)).1 (sh_X1_loss (rfl : kd 45 = 1)).2 h5 dX1_setLoss_30 ?_
      refine x_nmg (fun G6 e_G6 => ?_)
      replace hf := nm_ok hf G6 e_G6
      cases hf
      exact x_vret hc rfl ho dX1_setLoss_31
def f_X1_lossOf (a1 : Int32) (a2 : Int32) (G : G_) : Option Int32 :=
  bj1 (f_X7_within a1 0 3) fun x1 =>
  if x1 = 0 then (
    some 0)
  else (
    bj1 (f_X7_within a2 0 15) fun x3 =>
    if x3 = 0 then (
      some 0)
    else (
      chk (inb ((16 * a1) + a2) 64) <|
      some (G.1 46 (ix ((16 * a1) + a2)))))
set_option maxHeartbeats 4000000 in
set_option maxRecDepth 100000 in
theorem c_X1_lossOf (l : Launch) (V : VT) (a1 : Int32) (a2 : Int32) (G : G_) (r : Int32) (hf : f_X1_lossOf a1 a2 G = some r) : MC l V yX1_lossOf cX1_lossOf 3 (some .int) 1 22 [.ref (V.2.2.1 45), .int a1, .int a2] G (some (.int r)) G := by
  refine mc_of (by decide) (Nat.le_of_ble_eq_true rfl) (fun K hV ho hc hkl => ?_)
  subst hV
  replace hc : Ok K cX1_lossOf RX1 (Cond.code yX1_lossOf cX1_lossOf 3 (some .int) :: TB) (some .int) 1 22 3 := hc
  replace ho : Rets K (some (.int r)) G := ho
  show X K 0 [(0, .ref (kad K 45)), (1, .int a1), (2, .int a2)] [] G
  unfold f_X1_lossOf at hf
  refine x_iload_n hc 1 dX1_lossOf_0 rfl rfl ?_
  refine x_iconst (v := 0) hc rfl dX1_lossOf_1 ?_
  refine x_iconst (v := 3) hc rfl dX1_lossOf_2 ?_
  obtain ⟨x1, r2, hf⟩ := bj1_ok hf
  refine x_callSNr (As := [.int a1, .int 0, .int 3]) (v := (.int x1)) (host := "SlabTurn") hc (c_X7_within (kl K) (kV K) a1 0 3 G x1 r2) mw_X7_within (List.mem_of_getElem? (i := 10) rfl) rfl (Nat.le_of_ble_eq_true rfl) ⟨Nat.le_of_ble_eq_true rfl, Nat.le_of_ble_eq_true rfl⟩ dX1_lossOf_3 rfl ?_
  refine x_if_eq (tgt := 33) hc dX1_lossOf_6 rfl (fun c_6 => ?_) (fun c_6 => ?_)
  · replace hf := if_p hf c_6
    refine x_iconst (v := 0) hc rfl dX1_lossOf_33 ?_
    cases hf
    exact x_iret hc rfl ho dX1_lossOf_34
  · replace hf := if_n hf c_6
    refine x_iload_n hc 2 dX1_lossOf_9 rfl rfl ?_
    refine x_iconst (v := 0) hc rfl dX1_lossOf_10 ?_
    refine x_bipush (v := 15) hc rfl dX1_lossOf_11 ?_
    obtain ⟨x3, r4, hf⟩ := bj1_ok hf
    refine x_callSNr (As := [.int a2, .int 0, .int 15]) (v := (.int x3)) (host := "SlabTurn") hc (c_X7_within (kl K) (kV K) a2 0 15 G x3 r4) mw_X7_within (List.mem_of_getElem? (i := 10) rfl) rfl (Nat.le_of_ble_eq_true rfl) ⟨Nat.le_of_ble_eq_true rfl, Nat.le_of_ble_eq_true rfl⟩ dX1_lossOf_13 rfl ?_
    refine x_if_eq (tgt := 33) hc dX1_lossOf_16 rfl (fun c_16 => ?_) (fun c_16 => ?_)
    · replace hf := if_p hf c_16
      refine x_iconst (v := 0) hc rfl dX1_lossOf_33 ?_
      cases hf
      exact x_iret hc rfl ho dX1_lossOf_34
    · replace hf := if_n hf c_16
      refine x_aload_n hc 0 dX1_lossOf_19 rfl rfl ?_
      refine x_getR (T := TX1) (p0 := 45) hc in_X1 rfl (by decide) (rfl : kd 45 = 1) 0 (by decide) tw_202 rfl rfl dX1_lossOf_20 ?_
      refine x_bipush (v := 16) hc rfl dX1_lossOf_23 ?_
      refine x_iload_n hc 1 dX1_lossOf_25 rfl rfl ?_
      refine x_imul hc dX1_lossOf_26 ?_
      refine x_iload_n hc 2 dX1_lossOf_27 rfl rfl ?_
      refine x_iadd hc dX1_lossOf_28 ?_
      obtain ⟨h5, hf⟩ := chk_ok hf
      refine x_iaload (p0 := 46) hc (sh_X1_loss (rfl : kd 45 = 1)).1 (sh_X1_loss (rfl : kd 45 = 1)).2 h5 dX1_lossOf_29 ?_
      refine x_goto (tgt := 34) hc dX1_lossOf_30 rfl ?_
      cases hf
      exact x_iret hc rfl ho dX1_lossOf_34
def f_X1_bestAt (a1 : Int32) (G : G_) : Option Int32 :=
  bj1 (f_X7_within a1 0 3) fun x1 =>
  if x1 = 0 then (
    some 0)
  else (
    chk (inb a1 4) <|
    some (G.1 47 (ix a1)))
set_option maxHeartbeats 4000000 in
set_option maxRecDepth 100000 in
theorem c_X1_bestAt (l : Launch) (V : VT) (a1 : Int32) (G : G_) (r : Int32) (hf : f_X1_bestAt a1 G = some r) : MC l V yX1_bestAt cX1_bestAt 2 (some .int) 1 22 [.ref (V.2.2.1 45), .int a1] G (some (.int r)) G := by
  refine mc_of (by decide) (Nat.le_of_ble_eq_true rfl) (fun K hV ho hc hkl => ?_)
  subst hV
  replace hc : Ok K cX1_bestAt RX1 (Cond.code yX1_bestAt cX1_bestAt 2 (some .int) :: TB) (some .int) 1 22 2 := hc
  replace ho : Rets K (some (.int r)) G := ho
  show X K 0 [(0, .ref (kad K 45)), (1, .int a1)] [] G
  unfold f_X1_bestAt at hf
  refine x_iload_n hc 1 dX1_bestAt_0 rfl rfl ?_
  refine x_iconst (v := 0) hc rfl dX1_bestAt_1 ?_
  refine x_iconst (v := 3) hc rfl dX1_bestAt_2 ?_
  obtain ⟨x1, r2, hf⟩ := bj1_ok hf
  refine x_callSNr (As := [.int a1, .int 0, .int 3]) (v := (.int x1)) (host := "SlabTurn") hc (c_X7_within (kl K) (kV K) a1 0 3 G x1 r2) mw_X7_within (List.mem_of_getElem? (i := 10) rfl) rfl (Nat.le_of_ble_eq_true rfl) ⟨Nat.le_of_ble_eq_true rfl, Nat.le_of_ble_eq_true rfl⟩ dX1_bestAt_3 rfl ?_
  refine x_if_eq (tgt := 18) hc dX1_bestAt_6 rfl (fun c_6 => ?_) (fun c_6 => ?_)
  · replace hf := if_p hf c_6
    refine x_iconst (v := 0) hc rfl dX1_bestAt_18 ?_
    cases hf
    exact x_iret hc rfl ho dX1_bestAt_19
  · replace hf := if_n hf c_6
    refine x_aload_n hc 0 dX1_bestAt_9 rfl rfl ?_
    refine x_getR (T := TX1) (p0 := 45) hc in_X1 rfl (by decide) (rfl : kd 45 = 1) 1 (by decide) tw_203 rfl rfl dX1_bestAt_10 ?_
    refine x_iload_n hc 1 dX1_bestAt_13 rfl rfl ?_
    obtain ⟨h3, hf⟩ := chk_ok hf
    refine x_iaload (p0 := 47) hc (sh_X1_best (rfl : kd 45 = 1)).1 (sh_X1_best (rfl : kd 45 = 1)).2 h3 dX1_bestAt_14 ?_
    refine x_goto (tgt := 19) hc dX1_bestAt_15 rfl ?_
    cases hf
    exact x_iret hc rfl ho dX1_bestAt_19
def f_X1_lossOfOrder_l9_4 (a2 : Int32) (a3 : Int32) (G : G_) : Nat → Int32 → Int32 → Int32 → Option Int32
  | 0, _, _, _ => none
  | n4 + 1, v1, v2, v3 =>
    if a3 ≤ v3 then (
      some v2)
    else (
      bj1 (f_X1_figureOf a2 v3 a3) fun x5 =>
      bj1 (f_X7_isIn x5 v1) fun x7 =>
      if x7 = 0 then (
        some (-1))
      else (
        nm (v1 &&& ((1 <<< (x5 &&& 31)) ^^^ (-1))) fun x9 =>
        bj1 (f_X1_lossOf x5 x9 G) fun x10 =>
        f_X1_lossOfOrder_l9_4 a2 a3 G n4 x9 (v2 + x10) (v3 + 1)))
def f_X1_lossOfOrder (a1 : Int32) (a2 : Int32) (a3 : Int32) (G : G_) : Option Int32 :=
  f_X1_lossOfOrder_l9_4 a2 a3 G FU a1 0 0
set_option maxHeartbeats 4000000 in
set_option maxRecDepth 100000 in
theorem c_X1_lossOfOrder_l9_4 {K : CT} (a2 : Int32) (a3 : Int32) (G : G_) (r : Int32) (hc : Ok K cX1_lossOfOrder RX1 (Cond.code yX1_lossOfOrder cX1_lossOfOrder 8 (some .int) :: TB) (some .int) 2 44 8)  : ∀ (n4 : Nat) (v1 : Int32) (v2 : Int32) (v3 : Int32), f_X1_lossOfOrder_l9_4 a2 a3 G n4 v1 v2 v3 = some r → Rets K (some (.int r)) G → X K 9 [(0, .ref (kad K 45)), (2, .int a2), (3, .int a3), (4, .int v1), (5, .int v2), (6, .int v3)] [] G := by
  intro n4
  induction n4 with
  | zero =>
    intro v1 v2 v3 hf ho
    cases hf
  | succ n4 ih =>
    intro v1 v2 v3 hf ho
    unfold f_X1_lossOfOrder_l9_4 at hf
    refine x_iload hc 5 dX1_lossOfOrder_9 rfl ?_
    refine x_iload_n hc 2 dX1_lossOfOrder_11 rfl rfl ?_
    refine x_icmp_ge (tgt := 66) hc dX1_lossOfOrder_12 rfl (fun c_12 => ?_) (fun c_12 => ?_)
    · replace hf := if_p hf c_12
      refine x_iload hc 4 dX1_lossOfOrder_66 rfl ?_
      cases hf
      exact x_iret hc rfl ho dX1_lossOfOrder_68
    · replace hf := if_n hf c_12
      refine x_iload_n hc 1 dX1_lossOfOrder_15 rfl rfl ?_
      refine x_iload hc 5 dX1_lossOfOrder_16 rfl ?_
      refine x_iload_n hc 2 dX1_lossOfOrder_18 rfl rfl ?_
      obtain ⟨x5, r6, hf⟩ := bj1_ok hf
      refine x_callSr (As := [.int a2, .int v3, .int a3]) (v := (.int x5)) hc (c_X1_figureOf (kl K) (kV K) a2 v3 a3 G x5 r6) mw_X1_figureOf tw_885 rfl (Nat.le_of_ble_eq_true rfl) ⟨Nat.le_of_ble_eq_true rfl, Nat.le_of_ble_eq_true rfl⟩ dX1_lossOfOrder_19 rfl ?_
      refine x_istore (L' := [(0, .ref (kad K 45)), (2, .int a2), (3, .int a3), (4, .int v1), (5, .int v2), (6, .int v3), (7, .int x5)]) hc [1, 2, 3, 4, 5, 6, 0] dX1_lossOfOrder_22 (by decide) rfl ?_
      refine x_iload hc 6 dX1_lossOfOrder_24 rfl ?_
      refine x_iload hc 3 dX1_lossOfOrder_26 rfl ?_
      obtain ⟨x7, r8, hf⟩ := bj1_ok hf
      refine x_callSNr (As := [.int x5, .int v1]) (v := (.int x7)) (host := "SlabTurn") hc (c_X7_isIn (kl K) (kV K) x5 v1 G x7 r8) mw_X7_isIn (List.mem_of_getElem? (i := 11) rfl) rfl (Nat.le_of_ble_eq_true rfl) ⟨Nat.le_of_ble_eq_true rfl, Nat.le_of_ble_eq_true rfl⟩ dX1_lossOfOrder_28 rfl ?_
      refine x_if_ne (tgt := 36) hc dX1_lossOfOrder_31 rfl (fun c_31 => ?_) (fun c_31 => ?_)
      · replace hf := if_n hf c_31
        refine x_iload hc 3 dX1_lossOfOrder_36 rfl ?_
        refine x_iconst (v := 1) hc rfl dX1_lossOfOrder_38 ?_
        refine x_iload hc 6 dX1_lossOfOrder_39 rfl ?_
        refine x_ishl hc dX1_lossOfOrder_41 ?_
        refine x_iconst (v := (-1)) hc rfl dX1_lossOfOrder_42 ?_
        refine x_ixor hc dX1_lossOfOrder_43 ?_
        refine x_iand hc dX1_lossOfOrder_44 ?_
        refine x_nmi (fun x9 e_x9 => ?_)
        replace hf := nm_ok hf x9 e_x9
        refine x_istore (L' := [(0, .ref (kad K 45)), (2, .int a2), (3, .int a3), (4, .int x9), (5, .int v2), (6, .int v3), (7, .int x5)]) hc [1, 2, 3, 0, 4, 5, 6] dX1_lossOfOrder_45 (by decide) rfl ?_
        refine x_iload hc 4 dX1_lossOfOrder_47 rfl ?_
        refine x_aload_n hc 0 dX1_lossOfOrder_49 rfl rfl ?_
        refine x_iload hc 6 dX1_lossOfOrder_50 rfl ?_
        refine x_iload hc 3 dX1_lossOfOrder_52 rfl ?_
        obtain ⟨x10, r11, hf⟩ := bj1_ok hf
        refine x_callVr (As := [.int x5, .int x9]) (p0 := 45) (v := (.int x10)) (T := TX1) hc (c_X1_lossOf (kl K) (kV K) x5 x9 G x10 r11) mw_X1_lossOf tw_889 (rfl : kd 45 = 1) (by decide) rfl rfl (Nat.le_of_ble_eq_true rfl) ⟨Nat.le_of_ble_eq_true rfl, Nat.le_of_ble_eq_true rfl⟩ dX1_lossOfOrder_54 rfl ?_
        refine x_iadd hc dX1_lossOfOrder_57 ?_
        refine x_istore (L' := [(0, .ref (kad K 45)), (2, .int a2), (3, .int a3), (4, .int x9), (5, .int (v2 + x10)), (6, .int v3)]) hc [1, 2, 3, 4, 0, 5] dX1_lossOfOrder_58 (by decide) rfl ?_
        refine x_iinc (v := v3 + 1) (L' := [(0, .ref (kad K 45)), (2, .int a2), (3, .int a3), (4, .int x9), (5, .int (v2 + x10)), (6, .int (v3 + 1))]) hc 5 [1, 2, 3, 4, 5, 0] dX1_lossOfOrder_60 rfl rfl (by decide) rfl ?_
        refine x_goto (tgt := 9) hc dX1_lossOfOrder_63 rfl ?_
        exact x_sub [0, 1, 2, 3, 4, 5] (ih _ _ _ hf ho) rfl
      · replace hf := if_p hf c_31
        refine x_iconst (v := (-1)) hc rfl dX1_lossOfOrder_34 ?_
        cases hf
        exact x_iret hc rfl ho dX1_lossOfOrder_35
set_option maxHeartbeats 4000000 in
set_option maxRecDepth 100000 in
theorem c_X1_lossOfOrder (l : Launch) (V : VT) (a1 : Int32) (a2 : Int32) (a3 : Int32) (G : G_) (r : Int32) (hf : f_X1_lossOfOrder a1 a2 a3 G = some r) : MC l V yX1_lossOfOrder cX1_lossOfOrder 8 (some .int) 2 44 [.ref (V.2.2.1 45), .int a1, .int a2, .int a3] G (some (.int r)) G := by
  refine mc_of (by decide) (Nat.le_of_ble_eq_true rfl) (fun K hV ho hc hkl => ?_)
  subst hV
  replace hc : Ok K cX1_lossOfOrder RX1 (Cond.code yX1_lossOfOrder cX1_lossOfOrder 8 (some .int) :: TB) (some .int) 2 44 8 := hc
  replace ho : Rets K (some (.int r)) G := ho
  show X K 0 [(0, .ref (kad K 45)), (1, .int a1), (2, .int a2), (3, .int a3)] [] G
  unfold f_X1_lossOfOrder at hf
  refine x_iload_n hc 1 dX1_lossOfOrder_0 rfl rfl ?_
  refine x_istore (L' := [(0, .ref (kad K 45)), (2, .int a2), (3, .int a3), (4, .int a1)]) hc [1, 3, 4, 0] dX1_lossOfOrder_1 (by decide) rfl ?_
  refine x_iconst (v := 0) hc rfl dX1_lossOfOrder_3 ?_
  refine x_istore (L' := [(0, .ref (kad K 45)), (2, .int a2), (3, .int a3), (4, .int a1), (5, .int 0)]) hc [1, 2, 3, 4, 0] dX1_lossOfOrder_4 (by decide) rfl ?_
  refine x_iconst (v := 0) hc rfl dX1_lossOfOrder_6 ?_
  refine x_istore (L' := [(0, .ref (kad K 45)), (2, .int a2), (3, .int a3), (4, .int a1), (5, .int 0), (6, .int 0)]) hc [1, 2, 3, 4, 5, 0] dX1_lossOfOrder_7 (by decide) rfl ?_
  exact x_sub [0, 1, 2, 3, 4, 5] (c_X1_lossOfOrder_l9_4 a2 a3 G r hc  FU a1 0 0 hf ho) rfl
def f_X3_skipBlanks_l2_3 (a1 : Nat) : Nat → Int32 → G_ → Option (G_)
  | 0, _, _ => none
  | n3 + 1, v1, G2 =>
    if 80 ≤ v1 then (
      some (G2))
    else (
      bj1 (f_X6_value a1 (G2.1 39 0) G2) fun x4 =>
      if x4 = 32 then (
        nm (sI G2 39 0 ((G2.1 39 0) + 1)) fun G6 =>
        f_X3_skipBlanks_l2_3 a1 n3 (v1 + 1) G6)
      else (
        some (G2)))
def f_X3_skipBlanks (a1 : Nat) (G : G_) : Option G_ :=
  chk (kd a1 == 6) <|
  bj1 (f_X3_skipBlanks_l2_3 a1 FU 0 G) fun G7 =>
  some G7
set_option maxHeartbeats 4000000 in
set_option maxRecDepth 100000 in
theorem c_X3_skipBlanks_l2_3 {K : CT} (a1 : Nat) (hc : Ok K cX3_skipBlanks RX3 (Cond.code yX3_skipBlanks cX3_skipBlanks 3 none :: TB) none 2 42 3) (k_a1 : (kd a1 == 6) = true) : ∀ (n3 : Nat) (v1 : Int32) (G2 : G_) (G7 : G_), f_X3_skipBlanks_l2_3 a1 n3 v1 G2 = some (G7) → X K 37 [] [] G7 → X K 2 [(0, .ref (kad K 39)), (1, .ref (kad K a1)), (2, .int v1)] [] G2 := by
  intro n3
  induction n3 with
  | zero =>
    intro v1 G2 G7 hf hk
    cases hf
  | succ n3 ih =>
    intro v1 G2 G7 hf hk
    unfold f_X3_skipBlanks_l2_3 at hf
    refine x_iload_n hc 2 dX3_skipBlanks_2 rfl rfl ?_
    refine x_bipush (v := 80) hc rfl dX3_skipBlanks_3 ?_
    refine x_icmp_ge (tgt := 37) hc dX3_skipBlanks_5 rfl (fun c_5 => ?_) (fun c_5 => ?_)
    · replace hf := if_p hf c_5
      cases hf
      exact x_sub [] hk rfl
    · replace hf := if_n hf c_5
      refine x_aload_n hc 1 dX3_skipBlanks_8 rfl rfl ?_
      refine x_aload_n hc 0 dX3_skipBlanks_9 rfl rfl ?_
      refine x_getI (T := TX3) (p0 := 39) hc in_X3 rfl (by decide) (rfl : kd 39 = 3) 0 (by decide) tw_155 rfl rfl dX3_skipBlanks_10 ?_
      obtain ⟨x4, r5, hf⟩ := bj1_ok hf
      refine x_callVr (As := [.int (G2.1 39 0)]) (p0 := a1) (v := (.int x4)) (T := TX6) hc (c_X6_value (kl K) (kV K) a1 (G2.1 39 0) G2 x4 r5) mw_X6_value tw_330 (kdb k_a1) (by decide) rfl rfl (Nat.le_of_ble_eq_true rfl) ⟨Nat.le_of_ble_eq_true rfl, Nat.le_of_ble_eq_true rfl⟩ dX3_skipBlanks_13 rfl ?_
      refine x_bipush (v := 32) hc rfl dX3_skipBlanks_16 ?_
      refine x_icmp_ne (tgt := 37) hc dX3_skipBlanks_18 rfl (fun c_18 => ?_) (fun c_18 => ?_)
      · replace hf := if_n hf c_18
        cases hf
        exact x_sub [] hk rfl
      · replace hf := if_p hf c_18
        refine x_aload_n hc 0 dX3_skipBlanks_21 rfl rfl ?_
        refine x_dup hc rfl dX3_skipBlanks_22 ?_
        refine x_getI (T := TX3) (p0 := 39) hc in_X3 rfl (by decide) (rfl : kd 39 = 3) 0 (by decide) tw_155 rfl rfl dX3_skipBlanks_23 ?_
        refine x_iconst (v := 1) hc rfl dX3_skipBlanks_26 ?_
        refine x_iadd hc dX3_skipBlanks_27 ?_
        refine x_putI (T := TX3) (p0 := 39) hc tyX3 tyX3_ok nmX3 in_X3 rfl (by decide) (rfl : kd 39 = 3) 0 (by decide) tw_155 rfl rfl rfl (by decide +kernel) dX3_skipBlanks_28 ?_
        refine x_nmg (fun G6 e_G6 => ?_)
        replace hf := nm_ok hf G6 e_G6
        refine x_iinc (v := v1 + 1) (L' := [(0, .ref (kad K 39)), (1, .ref (kad K a1)), (2, .int (v1 + 1))]) hc 2 [1, 2, 0] dX3_skipBlanks_31 rfl rfl (by decide) rfl ?_
        refine x_goto (tgt := 2) hc dX3_skipBlanks_34 rfl ?_
        exact x_sub [0, 1, 2] (ih _ _ _ hf hk) rfl
set_option maxHeartbeats 4000000 in
set_option maxRecDepth 100000 in
theorem c_X3_skipBlanks (l : Launch) (V : VT) (a1 : Nat) (G : G_) (G' : G_) (hf : f_X3_skipBlanks a1 G = some G') : MC l V yX3_skipBlanks cX3_skipBlanks 3 none 2 42 [.ref (V.2.2.1 39), .ref (V.2.2.1 a1)] G none G' := by
  refine mc_of (by decide) (Nat.le_of_ble_eq_true rfl) (fun K hV ho hc hkl => ?_)
  subst hV
  replace hc : Ok K cX3_skipBlanks RX3 (Cond.code yX3_skipBlanks cX3_skipBlanks 3 none :: TB) none 2 42 3 := hc
  replace ho : Rets K none G' := ho
  show X K 0 [(0, .ref (kad K 39)), (1, .ref (kad K a1))] [] G
  unfold f_X3_skipBlanks at hf
  obtain ⟨k_a1, hf⟩ := chk_ok hf
  refine x_iconst (v := 0) hc rfl dX3_skipBlanks_0 ?_
  refine x_istore_n (L' := [(0, .ref (kad K 39)), (1, .ref (kad K a1)), (2, .int 0)]) hc [1, 2, 0] dX3_skipBlanks_1 rfl (by decide) rfl ?_
  obtain ⟨G7, hl_2, hf⟩ := bj1_ok hf
  have he_37_n3 : X K 37 [] [] G7 := by
    clear hl_2
    cases hf
    exact x_vret hc rfl ho dX3_skipBlanks_37
  exact x_sub [0, 1, 2] (c_X3_skipBlanks_l2_3 a1 hc k_a1 FU 0 G G7 hl_2 he_37_n3) rfl
def f_X3_readNumber_l16_5 (a1 : Nat) (a2 : Int32) (a3 : Int32) : Nat → Int32 → Int32 → G_ → Option (Int32 × Int32 × G_)
  | 0, _, _, _ => none
  | n5 + 1, v2, v3, G4 =>
    if 2 ≤ v2 then (
      some (v2, v3, G4))
    else (
      bj1 (f_X6_value a1 (G4.1 39 0) G4) fun x6 =>
      bj1 (f_X7_within x6 48 57) fun x8 =>
      if x8 = 0 then (
        some (v2, v3, G4))
      else (
        bj1 (f_X6_value a1 (G4.1 39 0) G4) fun x10 =>
        nm (sI G4 39 0 ((G4.1 39 0) + 1)) fun G12 =>
        f_X3_readNumber_l16_5 a1 a2 a3 n5 (v2 + 1) (((10 * v3) + x10) - 48) G12))
def f_X3_readNumber (a1 : Nat) (a2 : Int32) (a3 : Int32) (G : G_) : Option (Int32 × G_) :=
  chk (kd a1 == 6) <|
  nm (sI G 39 0 ((G.1 39 0) + 1)) fun G1 =>
  bj3 (f_X3_readNumber_l16_5 a1 a2 a3 FU 0 0 G1) fun x13 x14 G15 =>
  if x13 = 0 then (
    nm (sI G15 39 1 (G15.1 39 0)) fun G16 =>
    some (x14, G16))
  else (
    bj1 (f_X7_within x14 a2 a3) fun x17 =>
    if x17 = 0 then (
      nm (sI G15 39 1 (G15.1 39 0)) fun G19 =>
      some (x14, G19))
    else (
      some (x14, G15)))
set_option maxHeartbeats 4000000 in
set_option maxRecDepth 100000 in
theorem c_X3_readNumber_l16_5 {K : CT} (a1 : Nat) (a2 : Int32) (a3 : Int32) (hc : Ok K cX3_readNumber RX3 (Cond.code yX3_readNumber cX3_readNumber 6 (some .int) :: TB) (some .int) 2 42 6) (k_a1 : (kd a1 == 6) = true) : ∀ (n5 : Nat) (v2 : Int32) (v3 : Int32) (G4 : G_) (x13 : Int32) (x14 : Int32) (G15 : G_), f_X3_readNumber_l16_5 a1 a2 a3 n5 v2 v3 G4 = some (x13, x14, G15) → X K 75 [(0, .ref (kad K 39)), (2, .int a2), (3, .int a3), (4, .int x13), (5, .int x14)] [] G15 → X K 16 [(0, .ref (kad K 39)), (1, .ref (kad K a1)), (2, .int a2), (3, .int a3), (4, .int v2), (5, .int v3)] [] G4 := by
  intro n5
  induction n5 with
  | zero =>
    intro v2 v3 G4 x13 x14 G15 hf hk
    cases hf
  | succ n5 ih =>
    intro v2 v3 G4 x13 x14 G15 hf hk
    unfold f_X3_readNumber_l16_5 at hf
    refine x_iload hc 4 dX3_readNumber_16 rfl ?_
    refine x_iconst (v := 2) hc rfl dX3_readNumber_18 ?_
    refine x_icmp_ge (tgt := 75) hc dX3_readNumber_19 rfl (fun c_19 => ?_) (fun c_19 => ?_)
    · replace hf := if_p hf c_19
      cases hf
      exact x_sub [0, 2, 3, 4, 5] hk rfl
    · replace hf := if_n hf c_19
      refine x_aload_n hc 1 dX3_readNumber_22 rfl rfl ?_
      refine x_aload_n hc 0 dX3_readNumber_23 rfl rfl ?_
      refine x_getI (T := TX3) (p0 := 39) hc in_X3 rfl (by decide) (rfl : kd 39 = 3) 0 (by decide) tw_155 rfl rfl dX3_readNumber_24 ?_
      obtain ⟨x6, r7, hf⟩ := bj1_ok hf
      refine x_callVr (As := [.int (G4.1 39 0)]) (p0 := a1) (v := (.int x6)) (T := TX6) hc (c_X6_value (kl K) (kV K) a1 (G4.1 39 0) G4 x6 r7) mw_X6_value tw_330 (kdb k_a1) (by decide) rfl rfl (Nat.le_of_ble_eq_true rfl) ⟨Nat.le_of_ble_eq_true rfl, Nat.le_of_ble_eq_true rfl⟩ dX3_readNumber_27 rfl ?_
      refine x_bipush (v := 48) hc rfl dX3_readNumber_30 ?_
      refine x_bipush (v := 57) hc rfl dX3_readNumber_32 ?_
      obtain ⟨x8, r9, hf⟩ := bj1_ok hf
      refine x_callSNr (As := [.int x6, .int 48, .int 57]) (v := (.int x8)) (host := "SlabTurn") hc (c_X7_within (kl K) (kV K) x6 48 57 G4 x8 r9) mw_X7_within (List.mem_of_getElem? (i := 8) rfl) rfl (Nat.le_of_ble_eq_true rfl) ⟨Nat.le_of_ble_eq_true rfl, Nat.le_of_ble_eq_true rfl⟩ dX3_readNumber_34 rfl ?_
      refine x_if_eq (tgt := 75) hc dX3_readNumber_37 rfl (fun c_37 => ?_) (fun c_37 => ?_)
      · replace hf := if_p hf c_37
        cases hf
        exact x_sub [0, 2, 3, 4, 5] hk rfl
      · replace hf := if_n hf c_37
        refine x_bipush (v := 10) hc rfl dX3_readNumber_40 ?_
        refine x_iload hc 5 dX3_readNumber_42 rfl ?_
        refine x_imul hc dX3_readNumber_44 ?_
        refine x_aload_n hc 1 dX3_readNumber_45 rfl rfl ?_
        refine x_aload_n hc 0 dX3_readNumber_46 rfl rfl ?_
        refine x_getI (T := TX3) (p0 := 39) hc in_X3 rfl (by decide) (rfl : kd 39 = 3) 0 (by decide) tw_155 rfl rfl dX3_readNumber_47 ?_
        obtain ⟨x10, r11, hf⟩ := bj1_ok hf
        refine x_callVr (As := [.int (G4.1 39 0)]) (p0 := a1) (v := (.int x10)) (T := TX6) hc (c_X6_value (kl K) (kV K) a1 (G4.1 39 0) G4 x10 r11) mw_X6_value tw_330 (kdb k_a1) (by decide) rfl rfl (Nat.le_of_ble_eq_true rfl) ⟨Nat.le_of_ble_eq_true rfl, Nat.le_of_ble_eq_true rfl⟩ dX3_readNumber_50 rfl ?_
        refine x_iadd hc dX3_readNumber_53 ?_
        refine x_bipush (v := 48) hc rfl dX3_readNumber_54 ?_
        refine x_isub hc dX3_readNumber_56 ?_
        refine x_istore (L' := [(0, .ref (kad K 39)), (1, .ref (kad K a1)), (2, .int a2), (3, .int a3), (4, .int v2), (5, .int (((10 * v3) + x10) - 48))]) hc [1, 2, 3, 4, 5, 0] dX3_readNumber_57 (by decide) rfl ?_
        refine x_iinc (v := v2 + 1) (L' := [(0, .ref (kad K 39)), (1, .ref (kad K a1)), (2, .int a2), (3, .int a3), (4, .int (v2 + 1)), (5, .int (((10 * v3) + x10) - 48))]) hc 4 [1, 2, 3, 4, 0, 5] dX3_readNumber_59 rfl rfl (by decide) rfl ?_
        refine x_aload_n hc 0 dX3_readNumber_62 rfl rfl ?_
        refine x_dup hc rfl dX3_readNumber_63 ?_
        refine x_getI (T := TX3) (p0 := 39) hc in_X3 rfl (by decide) (rfl : kd 39 = 3) 0 (by decide) tw_155 rfl rfl dX3_readNumber_64 ?_
        refine x_iconst (v := 1) hc rfl dX3_readNumber_67 ?_
        refine x_iadd hc dX3_readNumber_68 ?_
        refine x_putI (T := TX3) (p0 := 39) hc tyX3 tyX3_ok nmX3 in_X3 rfl (by decide) (rfl : kd 39 = 3) 0 (by decide) tw_155 rfl rfl rfl (by decide +kernel) dX3_readNumber_69 ?_
        refine x_nmg (fun G12 e_G12 => ?_)
        replace hf := nm_ok hf G12 e_G12
        refine x_goto (tgt := 16) hc dX3_readNumber_72 rfl ?_
        exact x_sub [0, 1, 2, 3, 4, 5] (ih _ _ _ _ _ _ hf hk) rfl
set_option maxHeartbeats 4000000 in
set_option maxRecDepth 100000 in
theorem c_X3_readNumber (l : Launch) (V : VT) (a1 : Nat) (a2 : Int32) (a3 : Int32) (G : G_) (r : Int32) (G' : G_) (hf : f_X3_readNumber a1 a2 a3 G = some (r, G')) : MC l V yX3_readNumber cX3_readNumber 6 (some .int) 2 42 [.ref (V.2.2.1 39), .ref (V.2.2.1 a1), .int a2, .int a3] G (some (.int r)) G' := by
  refine mc_of (by decide) (Nat.le_of_ble_eq_true rfl) (fun K hV ho hc hkl => ?_)
  subst hV
  replace hc : Ok K cX3_readNumber RX3 (Cond.code yX3_readNumber cX3_readNumber 6 (some .int) :: TB) (some .int) 2 42 6 := hc
  replace ho : Rets K (some (.int r)) G' := ho
  show X K 0 [(0, .ref (kad K 39)), (1, .ref (kad K a1)), (2, .int a2), (3, .int a3)] [] G
  unfold f_X3_readNumber at hf
  obtain ⟨k_a1, hf⟩ := chk_ok hf
  refine x_aload_n hc 0 dX3_readNumber_0 rfl rfl ?_
  refine x_dup hc rfl dX3_readNumber_1 ?_
  refine x_getI (T := TX3) (p0 := 39) hc in_X3 rfl (by decide) (rfl : kd 39 = 3) 0 (by decide) tw_155 rfl rfl dX3_readNumber_2 ?_
  refine x_iconst (v := 1) hc rfl dX3_readNumber_5 ?_
  refine x_iadd hc dX3_readNumber_6 ?_
  refine x_putI (T := TX3) (p0 := 39) hc tyX3 tyX3_ok nmX3 in_X3 rfl (by decide) (rfl : kd 39 = 3) 0 (by decide) tw_155 rfl rfl rfl (by decide +kernel) dX3_readNumber_7 ?_
  refine x_nmg (fun G1 e_G1 => ?_)
  replace hf := nm_ok hf G1 e_G1
  refine x_iconst (v := 0) hc rfl dX3_readNumber_10 ?_
  refine x_istore (L' := [(0, .ref (kad K 39)), (1, .ref (kad K a1)), (2, .int a2), (3, .int a3), (4, .int 0)]) hc [1, 2, 3, 4, 0] dX3_readNumber_11 (by decide) rfl ?_
  refine x_iconst (v := 0) hc rfl dX3_readNumber_13 ?_
  refine x_istore (L' := [(0, .ref (kad K 39)), (1, .ref (kad K a1)), (2, .int a2), (3, .int a3), (4, .int 0), (5, .int 0)]) hc [1, 2, 3, 4, 5, 0] dX3_readNumber_14 (by decide) rfl ?_
  obtain ⟨x13, x14, G15, hl_16, hf⟩ := bj3_ok hf
  have he_75_n5 : X K 75 [(0, .ref (kad K 39)), (2, .int a2), (3, .int a3), (4, .int x13), (5, .int x14)] [] G15 := by
    clear hl_16
    refine x_iload hc 3 dX3_readNumber_75 rfl ?_
    refine x_if_eq (tgt := 90) hc dX3_readNumber_77 rfl (fun c_77 => ?_) (fun c_77 => ?_)
    · replace hf := if_p hf c_77
      refine x_aload_n hc 0 dX3_readNumber_90 rfl rfl ?_
      refine x_aload_n hc 0 dX3_readNumber_91 rfl rfl ?_
      refine x_getI (T := TX3) (p0 := 39) hc in_X3 rfl (by decide) (rfl : kd 39 = 3) 0 (by decide) tw_155 rfl rfl dX3_readNumber_92 ?_
      refine x_putI (T := TX3) (p0 := 39) hc tyX3 tyX3_ok nmX3 in_X3 rfl (by decide) (rfl : kd 39 = 3) 1 (by decide) tw_156 rfl rfl rfl (by decide +kernel) dX3_readNumber_95 ?_
      refine x_nmg (fun G16 e_G16 => ?_)
      replace hf := nm_ok hf G16 e_G16
      refine x_iload hc 4 dX3_readNumber_98 rfl ?_
      cases hf
      exact x_iret hc rfl ho dX3_readNumber_100
    · replace hf := if_n hf c_77
      refine x_iload hc 4 dX3_readNumber_80 rfl ?_
      refine x_iload_n hc 1 dX3_readNumber_82 rfl rfl ?_
      refine x_iload_n hc 2 dX3_readNumber_83 rfl rfl ?_
      obtain ⟨x17, r18, hf⟩ := bj1_ok hf
      refine x_callSNr (As := [.int x14, .int a2, .int a3]) (v := (.int x17)) (host := "SlabTurn") hc (c_X7_within (kl K) (kV K) x14 a2 a3 G15 x17 r18) mw_X7_within (List.mem_of_getElem? (i := 8) rfl) rfl (Nat.le_of_ble_eq_true rfl) ⟨Nat.le_of_ble_eq_true rfl, Nat.le_of_ble_eq_true rfl⟩ dX3_readNumber_84 rfl ?_
      refine x_if_ne (tgt := 98) hc dX3_readNumber_87 rfl (fun c_87 => ?_) (fun c_87 => ?_)
      · replace hf := if_n hf c_87
        refine x_iload hc 4 dX3_readNumber_98 rfl ?_
        cases hf
        exact x_iret hc rfl ho dX3_readNumber_100
      · replace hf := if_p hf c_87
        refine x_aload_n hc 0 dX3_readNumber_90 rfl rfl ?_
        refine x_aload_n hc 0 dX3_readNumber_91 rfl rfl ?_
        refine x_getI (T := TX3) (p0 := 39) hc in_X3 rfl (by decide) (rfl : kd 39 = 3) 0 (by decide) tw_155 rfl rfl dX3_readNumber_92 ?_
        refine x_putI (T := TX3) (p0 := 39) hc tyX3 tyX3_ok nmX3 in_X3 rfl (by decide) (rfl : kd 39 = 3) 1 (by decide) tw_156 rfl rfl rfl (by decide +kernel) dX3_readNumber_95 ?_
        refine x_nmg (fun G19 e_G19 => ?_)
        replace hf := nm_ok hf G19 e_G19
        refine x_iload hc 4 dX3_readNumber_98 rfl ?_
        cases hf
        exact x_iret hc rfl ho dX3_readNumber_100
  exact x_sub [0, 1, 2, 3, 4, 5] (c_X3_readNumber_l16_5 a1 a2 a3 hc k_a1 FU 0 0 G1 x13 x14 G15 hl_16 he_75_n5) rfl
def f_X1_findBest_l60_13 (a1 : Int32) (x1 : Int32) (v4 : Int32) : Nat → Int32 → G_ → Option (G_)
  | 0, _, _ => none
  | n13 + 1, v11, G12 =>
    if x1 ≤ v11 then (
      some (G12))
    else (
      if 4 ≤ v11 then (
        some (G12))
      else (
        bj1 (f_X1_figureOf v4 v11 x1) fun x14 =>
        chk (inb v11 4) <|
        nm (sI G12 47 (ix v11) x14) fun G17 =>
        f_X1_findBest_l60_13 a1 x1 v4 n13 (v11 + 1) G17))
def f_X1_findBest_l60_22 (a1 : Int32) (x1 : Int32) (v4 : Int32) : Nat → Int32 → G_ → Option (G_)
  | 0, _, _ => none
  | n22 + 1, v20, G21 =>
    if x1 ≤ v20 then (
      some (G21))
    else (
      if 4 ≤ v20 then (
        some (G21))
      else (
        bj1 (f_X1_figureOf v4 v20 x1) fun x23 =>
        chk (inb v20 4) <|
        nm (sI G21 47 (ix v20) x23) fun G26 =>
        f_X1_findBest_l60_22 a1 x1 v4 n22 (v20 + 1) G26))
def f_X1_findBest_l12_6 (a1 : Int32) (x1 : Int32) : Nat → Int32 → G_ → Option (G_)
  | 0, _, _ => none
  | n6 + 1, v4, G5 =>
    if 1 <<< ((2 * x1) &&& 31) ≤ v4 then (
      some (G5))
    else (
      bj1 (f_X1_lossOfOrder a1 v4 x1 G5) fun x7 =>
      bj1 (
        if x7 < 0 then (
          some (G5))
        else (
          if G5.1 45 2 < 0 then (
            nm (sI G5 45 2 x7) fun G10 =>
            bj1 (f_X1_findBest_l60_13 a1 x1 v4 FU 0 G10) fun G18 =>
            some (G18))
          else (
            if G5.1 45 2 ≤ x7 then (
              some (G5))
            else (
              nm (sI G5 45 2 x7) fun G19 =>
              bj1 (f_X1_findBest_l60_22 a1 x1 v4 FU 0 G19) fun G27 =>
              some (G27))))) fun (G28 : G_) =>
      f_X1_findBest_l12_6 a1 x1 n6 (v4 + 1) G28)
def f_X1_findBest (a1 : Int32) (G : G_) : Option G_ :=
  bj1 (f_J6_bitCount_0f7a4 a1) fun x1 =>
  nm (sI G 45 2 (-1)) fun G3 =>
  bj1 (f_X1_findBest_l12_6 a1 x1 FU 0 G3) fun G29 =>
  some G29
set_option maxHeartbeats 4000000 in
set_option maxRecDepth 100000 in
theorem c_X1_findBest_l60_13 {K : CT} (a1 : Int32) (x1 : Int32) (v4 : Int32) (hc : Ok K cX1_findBest RX1 (Cond.code yX1_findBest cX1_findBest 6 none :: TB) none 3 71 6)  : ∀ (n13 : Nat) (v11 : Int32) (G12 : G_) (G18 : G_), f_X1_findBest_l60_13 a1 x1 v4 n13 v11 G12 = some (G18) → X K 96 [(0, .ref (kad K 45)), (1, .int a1), (2, .int x1), (3, .int v4)] [] G18 → X K 60 [(0, .ref (kad K 45)), (1, .int a1), (2, .int x1), (3, .int v4), (5, .int v11)] [] G12 := by
  intro n13
  induction n13 with
  | zero =>
    intro v11 G12 G18 hf hk
    cases hf
  | succ n13 ih =>
    intro v11 G12 G18 hf hk
    unfold f_X1_findBest_l60_13 at hf
    refine x_iload hc 4 dX1_findBest_60 rfl ?_
    refine x_iload_n hc 2 dX1_findBest_62 rfl rfl ?_
    refine x_icmp_ge (tgt := 96) hc dX1_findBest_63 rfl (fun c_63 => ?_) (fun c_63 => ?_)
    · replace hf := if_p hf c_63
      cases hf
      exact x_sub [0, 1, 2, 3] hk rfl
    · replace hf := if_n hf c_63
      refine x_iload hc 4 dX1_findBest_66 rfl ?_
      refine x_aload_n hc 0 dX1_findBest_68 rfl rfl ?_
      refine x_getR (T := TX1) (p0 := 45) hc in_X1 rfl (by decide) (rfl : kd 45 = 1) 1 (by decide) tw_203 rfl rfl dX1_findBest_69 ?_
      refine x_alenI (p0 := 47) (v := 4) hc (sh_X1_best (rfl : kd 45 = 1)).1 (by decide) (by decide) (sh_X1_best (rfl : kd 45 = 1)).2 rfl dX1_findBest_72 ?_
      refine x_icmp_ge (tgt := 96) hc dX1_findBest_73 rfl (fun c_73 => ?_) (fun c_73 => ?_)
      · replace hf := if_p hf c_73
        cases hf
        exact x_sub [0, 1, 2, 3] hk rfl
      · replace hf := if_n hf c_73
        refine x_aload_n hc 0 dX1_findBest_76 rfl rfl ?_
        refine x_getR (T := TX1) (p0 := 45) hc in_X1 rfl (by decide) (rfl : kd 45 = 1) 1 (by decide) tw_203 rfl rfl dX1_findBest_77 ?_
        refine x_iload hc 4 dX1_findBest_80 rfl ?_
        refine x_iload_n hc 3 dX1_findBest_82 rfl rfl ?_
        refine x_iload hc 4 dX1_findBest_83 rfl ?_
        refine x_iload_n hc 2 dX1_findBest_85 rfl rfl ?_
        obtain ⟨x14, r15, hf⟩ := bj1_ok hf
        refine x_callSr (As := [.int v4, .int v11, .int x1]) (v := (.int x14)) hc (c_X1_figureOf (kl K) (kV K) v4 v11 x1 G12 x14 r15) mw_X1_figureOf tw_885 rfl (Nat.le_of_ble_eq_true rfl) ⟨Nat.le_of_ble_eq_true rfl, Nat.le_of_ble_eq_true rfl⟩ dX1_findBest_86 rfl ?_
        obtain ⟨h16, hf⟩ := chk_ok hf
        refine x_iastore (p0 := 47) hc (sh_X1_best (rfl : kd 45 = 1)).1 (sh_X1_best (rfl : kd 45 = 1)).2 h16 dX1_findBest_89 ?_
        refine x_nmg (fun G17 e_G17 => ?_)
        replace hf := nm_ok hf G17 e_G17
        refine x_iinc (v := v11 + 1) (L' := [(0, .ref (kad K 45)), (1, .int a1), (2, .int x1), (3, .int v4), (5, .int (v11 + 1))]) hc 4 [1, 2, 3, 4, 0] dX1_findBest_90 rfl rfl (by decide) rfl ?_
        refine x_goto (tgt := 60) hc dX1_findBest_93 rfl ?_
        exact x_sub [0, 1, 2, 3, 4] (ih _ _ _ hf hk) rfl
set_option maxHeartbeats 4000000 in
set_option maxRecDepth 100000 in
theorem c_X1_findBest_l60_22 {K : CT} (a1 : Int32) (x1 : Int32) (v4 : Int32) (hc : Ok K cX1_findBest RX1 (Cond.code yX1_findBest cX1_findBest 6 none :: TB) none 3 71 6)  : ∀ (n22 : Nat) (v20 : Int32) (G21 : G_) (G27 : G_), f_X1_findBest_l60_22 a1 x1 v4 n22 v20 G21 = some (G27) → X K 96 [(0, .ref (kad K 45)), (1, .int a1), (2, .int x1), (3, .int v4)] [] G27 → X K 60 [(0, .ref (kad K 45)), (1, .int a1), (2, .int x1), (3, .int v4), (5, .int v20)] [] G21 := by
  intro n22
  induction n22 with
  | zero =>
    intro v20 G21 G27 hf hk
    cases hf
  | succ n22 ih =>
    intro v20 G21 G27 hf hk
    unfold f_X1_findBest_l60_22 at hf
    refine x_iload hc 4 dX1_findBest_60 rfl ?_
    refine x_iload_n hc 2 dX1_findBest_62 rfl rfl ?_
    refine x_icmp_ge (tgt := 96) hc dX1_findBest_63 rfl (fun c_63 => ?_) (fun c_63 => ?_)
    · replace hf := if_p hf c_63
      cases hf
      exact x_sub [0, 1, 2, 3] hk rfl
    · replace hf := if_n hf c_63
      refine x_iload hc 4 dX1_findBest_66 rfl ?_
      refine x_aload_n hc 0 dX1_findBest_68 rfl rfl ?_
      refine x_getR (T := TX1) (p0 := 45) hc in_X1 rfl (by decide) (rfl : kd 45 = 1) 1 (by decide) tw_203 rfl rfl dX1_findBest_69 ?_
      refine x_alenI (p0 := 47) (v := 4) hc (sh_X1_best (rfl : kd 45 = 1)).1 (by decide) (by decide) (sh_X1_best (rfl : kd 45 = 1)).2 rfl dX1_findBest_72 ?_
      refine x_icmp_ge (tgt := 96) hc dX1_findBest_73 rfl (fun c_73 => ?_) (fun c_73 => ?_)
      · replace hf := if_p hf c_73
        cases hf
        exact x_sub [0, 1, 2, 3] hk rfl
      · replace hf := if_n hf c_73
        refine x_aload_n hc 0 dX1_findBest_76 rfl rfl ?_
        refine x_getR (T := TX1) (p0 := 45) hc in_X1 rfl (by decide) (rfl : kd 45 = 1) 1 (by decide) tw_203 rfl rfl dX1_findBest_77 ?_
        refine x_iload hc 4 dX1_findBest_80 rfl ?_
        refine x_iload_n hc 3 dX1_findBest_82 rfl rfl ?_
        refine x_iload hc 4 dX1_findBest_83 rfl ?_
        refine x_iload_n hc 2 dX1_findBest_85 rfl rfl ?_
        obtain ⟨x23, r24, hf⟩ := bj1_ok hf
        refine x_callSr (As := [.int v4, .int v20, .int x1]) (v := (.int x23)) hc (c_X1_figureOf (kl K) (kV K) v4 v20 x1 G21 x23 r24) mw_X1_figureOf tw_885 rfl (Nat.le_of_ble_eq_true rfl) ⟨Nat.le_of_ble_eq_true rfl, Nat.le_of_ble_eq_true rfl⟩ dX1_findBest_86 rfl ?_
        obtain ⟨h25, hf⟩ := chk_ok hf
        refine x_iastore (p0 := 47) hc (sh_X1_best (rfl : kd 45 = 1)).1 (sh_X1_best (rfl : kd 45 = 1)).2 h25 dX1_findBest_89 ?_
        refine x_nmg (fun G26 e_G26 => ?_)
        replace hf := nm_ok hf G26 e_G26
        refine x_iinc (v := v20 + 1) (L' := [(0, .ref (kad K 45)), (1, .int a1), (2, .int x1), (3, .int v4), (5, .int (v20 + 1))]) hc 4 [1, 2, 3, 4, 0] dX1_findBest_90 rfl rfl (by decide) rfl ?_
        refine x_goto (tgt := 60) hc dX1_findBest_93 rfl ?_
        exact x_sub [0, 1, 2, 3, 4] (ih _ _ _ hf hk) rfl
set_option maxHeartbeats 4000000 in
set_option maxRecDepth 100000 in
theorem c_X1_findBest_l12_6 {K : CT} (a1 : Int32) (x1 : Int32) (hc : Ok K cX1_findBest RX1 (Cond.code yX1_findBest cX1_findBest 6 none :: TB) none 3 71 6)  : ∀ (n6 : Nat) (v4 : Int32) (G5 : G_) (G29 : G_), f_X1_findBest_l12_6 a1 x1 n6 v4 G5 = some (G29) → X K 102 [] [] G29 → X K 12 [(0, .ref (kad K 45)), (1, .int a1), (2, .int x1), (3, .int v4)] [] G5 := by
  intro n6
  induction n6 with
  | zero =>
    intro v4 G5 G29 hf hk
    cases hf
  | succ n6 ih =>
    intro v4 G5 G29 hf hk
    unfold f_X1_findBest_l12_6 at hf
    refine x_iload_n hc 3 dX1_findBest_12 rfl rfl ?_
    refine x_iconst (v := 1) hc rfl dX1_findBest_13 ?_
    refine x_iconst (v := 2) hc rfl dX1_findBest_14 ?_
    refine x_iload_n hc 2 dX1_findBest_15 rfl rfl ?_
    refine x_imul hc dX1_findBest_16 ?_
    refine x_ishl hc dX1_findBest_17 ?_
    refine x_icmp_ge (tgt := 102) hc dX1_findBest_18 rfl (fun c_18 => ?_) (fun c_18 => ?_)
    · replace hf := if_p hf c_18
      cases hf
      exact x_sub [] hk rfl
    · replace hf := if_n hf c_18
      refine x_aload_n hc 0 dX1_findBest_21 rfl rfl ?_
      refine x_iload_n hc 1 dX1_findBest_22 rfl rfl ?_
      refine x_iload_n hc 3 dX1_findBest_23 rfl rfl ?_
      refine x_iload_n hc 2 dX1_findBest_24 rfl rfl ?_
      obtain ⟨x7, r8, hf⟩ := bj1_ok hf
      refine x_callVr (As := [.int a1, .int v4, .int x1]) (p0 := 45) (v := (.int x7)) (T := TX1) hc (c_X1_lossOfOrder (kl K) (kV K) a1 v4 x1 G5 x7 r8) mw_X1_lossOfOrder tw_881 (rfl : kd 45 = 1) (by decide) rfl rfl (Nat.le_of_ble_eq_true rfl) ⟨Nat.le_of_ble_eq_true rfl, Nat.le_of_ble_eq_true rfl⟩ dX1_findBest_25 rfl ?_
      refine x_istore (L' := [(0, .ref (kad K 45)), (1, .int a1), (2, .int x1), (3, .int v4), (4, .int x7)]) hc [1, 2, 3, 4, 0] dX1_findBest_28 (by decide) rfl ?_
      refine x_iload hc 4 dX1_findBest_30 rfl ?_
      obtain ⟨G28, hr, hf⟩ := bj1_ok hf
      have hj_96_9 : X K 96 [(0, .ref (kad K 45)), (1, .int a1), (2, .int x1), (3, .int v4)] [] G28 := by
        clear hr
        refine x_iinc (v := v4 + 1) (L' := [(0, .ref (kad K 45)), (1, .int a1), (2, .int x1), (3, .int (v4 + 1))]) hc 3 [1, 2, 3, 0] dX1_findBest_96 rfl rfl (by decide) rfl ?_
        refine x_goto (tgt := 12) hc dX1_findBest_99 rfl ?_
        exact x_sub [0, 1, 2, 3] (ih _ _ _ hf hk) rfl
      replace hf := hr
      clear hr
      refine x_if_lt (tgt := 96) hc dX1_findBest_32 rfl (fun c_32 => ?_) (fun c_32 => ?_)
      · replace hf := if_p hf c_32
        cases hf
        exact x_sub [0, 1, 2, 3] hj_96_9 rfl
      · replace hf := if_n hf c_32
        refine x_aload_n hc 0 dX1_findBest_35 rfl rfl ?_
        refine x_getI (T := TX1) (p0 := 45) hc in_X1 rfl (by decide) (rfl : kd 45 = 1) 2 (by decide) tw_204 rfl rfl dX1_findBest_36 ?_
        refine x_if_lt (tgt := 51) hc dX1_findBest_39 rfl (fun c_39 => ?_) (fun c_39 => ?_)
        · replace hf := if_p hf c_39
          refine x_aload_n hc 0 dX1_findBest_51 rfl rfl ?_
          refine x_iload hc 4 dX1_findBest_52 rfl ?_
          refine x_putI (T := TX1) (p0 := 45) hc tyX1 tyX1_ok nmX1 in_X1 rfl (by decide) (rfl : kd 45 = 1) 2 (by decide) tw_204 rfl rfl rfl (by decide +kernel) dX1_findBest_54 ?_
          refine x_nmg (fun G10 e_G10 => ?_)
          replace hf := nm_ok hf G10 e_G10
          refine x_iconst (v := 0) hc rfl dX1_findBest_57 ?_
          refine x_istore (L' := [(0, .ref (kad K 45)), (1, .int a1), (2, .int x1), (3, .int v4), (5, .int 0)]) hc [1, 2, 3, 4, 0] dX1_findBest_58 (by decide) rfl ?_
          obtain ⟨G18, hl_60, hf⟩ := bj1_ok hf
          have he_96_n13 : X K 96 [(0, .ref (kad K 45)), (1, .int a1), (2, .int x1), (3, .int v4)] [] G18 := by
            clear hl_60
            cases hf
            exact x_sub [0, 1, 2, 3] hj_96_9 rfl
          exact x_sub [0, 1, 2, 3, 4] (c_X1_findBest_l60_13 a1 x1 v4 hc  FU 0 G10 G18 hl_60 he_96_n13) rfl
        · replace hf := if_n hf c_39
          refine x_iload hc 4 dX1_findBest_42 rfl ?_
          refine x_aload_n hc 0 dX1_findBest_44 rfl rfl ?_
          refine x_getI (T := TX1) (p0 := 45) hc in_X1 rfl (by decide) (rfl : kd 45 = 1) 2 (by decide) tw_204 rfl rfl dX1_findBest_45 ?_
          refine x_icmp_ge (tgt := 96) hc dX1_findBest_48 rfl (fun c_48 => ?_) (fun c_48 => ?_)
          · replace hf := if_p hf c_48
            cases hf
            exact x_sub [0, 1, 2, 3] hj_96_9 rfl
          · replace hf := if_n hf c_48
            refine x_aload_n hc 0 dX1_findBest_51 rfl rfl ?_
            refine x_iload hc 4 dX1_findBest_52 rfl ?_
            refine x_putI (T := TX1) (p0 := 45) hc tyX1 tyX1_ok nmX1 in_X1 rfl (by decide) (rfl : kd 45 = 1) 2 (by decide) tw_204 rfl rfl rfl (by decide +kernel) dX1_findBest_54 ?_
            refine x_nmg (fun G19 e_G19 => ?_)
            replace hf := nm_ok hf G19 e_G19
            refine x_iconst (v := 0) hc rfl dX1_findBest_57 ?_
            refine x_istore (L' := [(0, .ref (kad K 45)), (1, .int a1), (2, .int x1), (3, .int v4), (5, .int 0)]) hc [1, 2, 3, 4, 0] dX1_findBest_58 (by decide) rfl ?_
            obtain ⟨G27, hl_60, hf⟩ := bj1_ok hf
            have he_96_n22 : X K 96 [(0, .ref (kad K 45)), (1, .int a1), (2, .int x1), (3, .int v4)] [] G27 := by
              clear hl_60
              cases hf
              exact x_sub [0, 1, 2, 3] hj_96_9 rfl
            exact x_sub [0, 1, 2, 3, 4] (c_X1_findBest_l60_22 a1 x1 v4 hc  FU 0 G19 G27 hl_60 he_96_n22) rfl
set_option maxHeartbeats 4000000 in
set_option maxRecDepth 100000 in
theorem c_X1_findBest (l : Launch) (V : VT) (a1 : Int32) (G : G_) (G' : G_) (hf : f_X1_findBest a1 G = some G') : MC l V yX1_findBest cX1_findBest 6 none 3 71 [.ref (V.2.2.1 45), .int a1] G none G' := by
  refine mc_of (by decide) (Nat.le_of_ble_eq_true rfl) (fun K hV ho hc hkl => ?_)
  subst hV
  replace hc : Ok K cX1_findBest RX1 (Cond.code yX1_findBest cX1_findBest 6 none :: TB) none 3 71 6 := hc
  replace ho : Rets K none G' := ho
  show X K 0 [(0, .ref (kad K 45)), (1, .int a1)] [] G
  unfold f_X1_findBest at hf
  refine x_iload_n hc 1 dX1_findBest_0 rfl rfl ?_
  obtain ⟨x1, r2, hf⟩ := bj1_ok hf
  refine x_callSr (As := [.int a1]) (v := (.int x1)) hc (c_J6_bitCount_0f7a4 (kl K) (kV K) a1 G x1 r2) mw_J6_bitCount_0f7a4 tw_875 rfl (Nat.le_of_ble_eq_true rfl) ⟨Nat.le_of_ble_eq_true rfl, Nat.le_of_ble_eq_true rfl⟩ dX1_findBest_1 rfl ?_
  refine x_istore_n (L' := [(0, .ref (kad K 45)), (1, .int a1), (2, .int x1)]) hc [1, 2, 0] dX1_findBest_4 rfl (by decide) rfl ?_
  refine x_aload_n hc 0 dX1_findBest_5 rfl rfl ?_
  refine x_iconst (v := (-1)) hc rfl dX1_findBest_6 ?_
  refine x_putI (T := TX1) (p0 := 45) hc tyX1 tyX1_ok nmX1 in_X1 rfl (by decide) (rfl : kd 45 = 1) 2 (by decide) tw_204 rfl rfl rfl (by decide +kernel) dX1_findBest_7 ?_
  refine x_nmg (fun G3 e_G3 => ?_)
  replace hf := nm_ok hf G3 e_G3
  refine x_iconst (v := 0) hc rfl dX1_findBest_10 ?_
  refine x_istore_n (L' := [(0, .ref (kad K 45)), (1, .int a1), (2, .int x1), (3, .int 0)]) hc [1, 2, 3, 0] dX1_findBest_11 rfl (by decide) rfl ?_
  obtain ⟨G29, hl_12, hf⟩ := bj1_ok hf
  have he_102_n6 : X K 102 [] [] G29 := by
    clear hl_12
    cases hf
    exact x_vret hc rfl ho dX1_findBest_102
  exact x_sub [0, 1, 2, 3] (c_X1_findBest_l12_6 a1 x1 hc  FU 0 G3 G29 hl_12 he_102_n6) rfl
def f_X3_readItem (a1 : Nat) (a2 : Nat) (G : G_) : Option G_ :=
  chk (kd a1 == 6) <|
  chk (kd a2 == 5) <|
  bj1 (f_X6_value a1 (G.1 39 0) G) fun x1 =>
  if x1 = 116 then (
    bj2 (f_X3_readNumber a1 3 20 G) fun x17 G16 =>
    nm (sI G16 a2 1 x17) fun G19 =>
    some G19)
  else (
    if x1 = 99 then (
      bj2 (f_X3_readNumber a1 0 40 G) fun x13 G12 =>
      nm (sI G12 a2 2 x13) fun G15 =>
      some G15)
    else (
      if x1 = 115 then (
        bj2 (f_X3_readNumber a1 0 60 G) fun x9 G8 =>
        nm (sI G8 a2 3 x9) fun G11 =>
        some G11)
      else (
        if x1 = 102 then (
          bj2 (f_X3_readNumber a1 0 9 G) fun x5 G4 =>
          nm (sI G4 a2 4 x5) fun G7 =>
          some G7)
        else (
          nm (sI G 39 1 (G.1 39 0)) fun G3 =>
          some G3))))
set_option maxHeartbeats 4000000 in
set_option maxRecDepth 100000 in
theorem c_X3_readItem (l : Launch) (V : VT) (a1 : Nat) (a2 : Nat) (G : G_) (G' : G_) (hf : f_X3_readItem a1 a2 G = some G') : MC l V yX3_readItem cX3_readItem 4 none 3 67 [.ref (V.2.2.1 39), .ref (V.2.2.1 a1), .ref (V.2.2.1 a2)] G none G' := by
  refine mc_of (by decide) (Nat.le_of_ble_eq_true rfl) (fun K hV ho hc hkl => ?_)
  subst hV
  replace hc : Ok K cX3_readItem RX3 (Cond.code yX3_readItem cX3_readItem 4 none :: TB) none 3 67 4 := hc
  replace ho : Rets K none G' := ho
  show X K 0 [(0, .ref (kad K 39)), (1, .ref (kad K a1)), (2, .ref (kad K a2))] [] G
  unfold f_X3_readItem at hf
  obtain ⟨k_a1, hf⟩ := chk_ok hf
  obtain ⟨k_a2, hf⟩ := chk_ok hf
  refine x_aload_n hc 1 dX3_readItem_0 rfl rfl ?_
  refine x_aload_n hc 0 dX3_readItem_1 rfl rfl ?_
  refine x_getI (T := TX3) (p0 := 39) hc in_X3 rfl (by decide) (rfl : kd 39 = 3) 0 (by decide) tw_155 rfl rfl dX3_readItem_2 ?_
  obtain ⟨x1, r2, hf⟩ := bj1_ok hf
  refine x_callVr (As := [.int (G.1 39 0)]) (p0 := a1) (v := (.int x1)) (T := TX6) hc (c_X6_value (kl K) (kV K) a1 (G.1 39 0) G x1 r2) mw_X6_value tw_330 (kdb k_a1) (by decide) rfl rfl (Nat.le_of_ble_eq_true rfl) ⟨Nat.le_of_ble_eq_true rfl, Nat.le_of_ble_eq_true rfl⟩ dX3_readItem_5 rfl ?_
  refine x_istore_n (L' := [(0, .ref (kad K 39)), (1, .ref (kad K a1)), (2, .ref (kad K a2)), (3, .int x1)]) hc [1, 2, 3, 0] dX3_readItem_8 rfl (by decide) rfl ?_
  refine x_iload_n hc 3 dX3_readItem_9 rfl rfl ?_
  refine x_bipush (v := 116) hc rfl dX3_readItem_10 ?_
  refine x_icmp_ne (tgt := 30) hc dX3_readItem_12 rfl (fun c_12 => ?_) (fun c_12 => ?_)
  · replace hf := if_n hf c_12
    refine x_iload_n hc 3 dX3_readItem_30 rfl rfl ?_
    refine x_bipush (v := 99) hc rfl dX3_readItem_31 ?_
    refine x_icmp_ne (tgt := 51) hc dX3_readItem_33 rfl (fun c_33 => ?_) (fun c_33 => ?_)
    · replace hf := if_n hf c_33
      refine x_iload_n hc 3 dX3_readItem_51 rfl rfl ?_
      refine x_bipush (v := 115) hc rfl dX3_readItem_52 ?_
      refine x_icmp_ne (tgt := 72) hc dX3_readItem_54 rfl (fun c_54 => ?_) (fun c_54 => ?_)
      · replace hf := if_n hf c_54
        refine x_iload_n hc 3 dX3_readItem_72 rfl rfl ?_
        refine x_bipush (v := 102) hc rfl dX3_readItem_73 ?_
        refine x_icmp_ne (tgt := 93) hc dX3_readItem_75 rfl (fun c_75 => ?_) (fun c_75 => ?_)
        · replace hf := if_n hf c_75
          refine x_aload_n hc 0 dX3_readItem_93 rfl rfl ?_
          refine x_aload_n hc 0 dX3_readItem_94 rfl rfl ?_
          refine x_getI (T := TX3) (p0 := 39) hc in_X3 rfl (by decide) (rfl : kd 39 = 3) 0 (by decide) tw_155 rfl rfl dX3_readItem_95 ?_
          refine x_putI (T := TX3) (p0 := 39) hc tyX3 tyX3_ok nmX3 in_X3 rfl (by decide) (rfl : kd 39 = 3) 1 (by decide) tw_156 rfl rfl rfl (by decide +kernel) dX3_readItem_98 ?_
          refine x_nmg (fun G3 e_G3 => ?_)
          replace hf := nm_ok hf G3 e_G3
          cases hf
          exact x_vret hc rfl ho dX3_readItem_101
        · replace hf := if_p hf c_75
          refine x_aload_n hc 2 dX3_readItem_78 rfl rfl ?_
          refine x_aload_n hc 0 dX3_readItem_79 rfl rfl ?_
          refine x_aload_n hc 1 dX3_readItem_80 rfl rfl ?_
          refine x_iconst (v := 0) hc rfl dX3_readItem_81 ?_
          refine x_bipush (v := 9) hc rfl dX3_readItem_82 ?_
          obtain ⟨x5, G4, r6, hf⟩ := bj2_ok hf
          refine x_callVr (As := [.ref (kad K a1), .int 0, .int 9]) (p0 := 39) (v := (.int x5)) (T := TX3) hc (c_X3_readNumber (kl K) (kV K) a1 0 9 G x5 G4 r6) mw_X3_readNumber tw_345 (rfl : kd 39 = 3) (by decide) rfl rfl (Nat.le_of_ble_eq_true rfl) ⟨Nat.le_of_ble_eq_true rfl, Nat.le_of_ble_eq_true rfl⟩ dX3_readItem_84 rfl ?_
          refine x_putI (T := TX5) (p0 := a2) hc tyX5 tyX5_ok nmX5 in_X5 rfl (by decide) (kdb k_a2) 4 (by decide) tw_183 rfl rfl rfl (by decide +kernel) dX3_readItem_87 ?_
          refine x_nmg (fun G7 e_G7 => ?_)
          replace hf := nm_ok hf G7 e_G7
          refine x_goto (tgt := 101) hc dX3_readItem_90 rfl ?_
          cases hf
          exact x_vret hc rfl ho dX3_readItem_101
      · replace hf := if_p hf c_54
        refine x_aload_n hc 2 dX3_readItem_57 rfl rfl ?_
        refine x_aload_n hc 0 dX3_readItem_58 rfl rfl ?_
        refine x_aload_n hc 1 dX3_readItem_59 rfl rfl ?_
        refine x_iconst (v := 0) hc rfl dX3_readItem_60 ?_
        refine x_bipush (v := 60) hc rfl dX3_readItem_61 ?_
        obtain ⟨x9, G8, r10, hf⟩ := bj2_ok hf
        refine x_callVr (As := [.ref (kad K a1), .int 0, .int 60]) (p0 := 39) (v := (.int x9)) (T := TX3) hc (c_X3_readNumber (kl K) (kV K) a1 0 60 G x9 G8 r10) mw_X3_readNumber tw_345 (rfl : kd 39 = 3) (by decide) rfl rfl (Nat.le_of_ble_eq_true rfl) ⟨Nat.le_of_ble_eq_true rfl, Nat.le_of_ble_eq_true rfl⟩ dX3_readItem_63 rfl ?_
        refine x_putI (T := TX5) (p0 := a2) hc tyX5 tyX5_ok nmX5 in_X5 rfl (by decide) (kdb k_a2) 3 (by decide) tw_179 rfl rfl rfl (by decide +kernel) dX3_readItem_66 ?_
        refine x_nmg (fun G11 e_G11 => ?_)
        replace hf := nm_ok hf G11 e_G11
        refine x_goto (tgt := 101) hc dX3_readItem_69 rfl ?_
        cases hf
        exact x_vret hc rfl ho dX3_readItem_101
    · replace hf := if_p hf c_33
      refine x_aload_n hc 2 dX3_readItem_36 rfl rfl ?_
      refine x_aload_n hc 0 dX3_readItem_37 rfl rfl ?_
      refine x_aload_n hc 1 dX3_readItem_38 rfl rfl ?_
      refine x_iconst (v := 0) hc rfl dX3_readItem_39 ?_
      refine x_bipush (v := 40) hc rfl dX3_readItem_40 ?_
      obtain ⟨x13, G12, r14, hf⟩ := bj2_ok hf
      refine x_callVr (As := [.ref (kad K a1), .int 0, .int 40]) (p0 := 39) (v := (.int x13)) (T := TX3) hc (c_X3_readNumber (kl K) (kV K) a1 0 40 G x13 G12 r14) mw_X3_readNumber tw_345 (rfl : kd 39 = 3) (by decide) rfl rfl (Nat.le_of_ble_eq_true rfl) ⟨Nat.le_of_ble_eq_true rfl, Nat.le_of_ble_eq_true rfl⟩ dX3_readItem_42 rfl ?_
      refine x_putI (T := TX5) (p0 := a2) hc tyX5 tyX5_ok nmX5 in_X5 rfl (by decide) (kdb k_a2) 2 (by decide) tw_176 rfl rfl rfl (by decide +kernel) dX3_readItem_45 ?_
      refine x_nmg (fun G15 e_G15 => ?_)
      replace hf := nm_ok hf G15 e_G15
      refine x_goto (tgt := 101) hc dX3_readItem_48 rfl ?_
      cases hf
      exact x_vret hc rfl ho dX3_readItem_101
  · replace hf := if_p hf c_12
    refine x_aload_n hc 2 dX3_readItem_15 rfl rfl ?_
    refine x_aload_n hc 0 dX3_readItem_16 rfl rfl ?_
    refine x_aload_n hc 1 dX3_readItem_17 rfl rfl ?_
    refine x_iconst (v := 3) hc rfl dX3_readItem_18 ?_
    refine x_bipush (v := 20) hc rfl dX3_readItem_19 ?_
    obtain ⟨x17, G16, r18, hf⟩ := bj2_ok hf
    refine x_callVr (As := [.ref (kad K a1), .int 3, .int 20]) (p0 := 39) (v := (.int x17)) (T := TX3) hc (c_X3_readNumber (kl K) (kV K) a1 3 20 G x17 G16 r18) mw_X3_readNumber tw_345 (rfl : kd 39 = 3) (by decide) rfl rfl (Nat.le_of_ble_eq_true rfl) ⟨Nat.le_of_ble_eq_true rfl, Nat.le_of_ble_eq_true rfl⟩ dX3_readItem_21 rfl ?_
    refine x_putI (T := TX5) (p0 := a2) hc tyX5 tyX5_ok nmX5 in_X5 rfl (by decide) (kdb k_a2) 1 (by decide) tw_172 rfl rfl rfl (by decide +kernel) dX3_readItem_24 ?_
    refine x_nmg (fun G19 e_G19 => ?_)
    replace hf := nm_ok hf G19 e_G19
    refine x_goto (tgt := 101) hc dX3_readItem_27 rfl ?_
    cases hf
    exact x_vret hc rfl ho dX3_readItem_101
def f_X3_readStep (a1 : Nat) (a2 : Nat) (G : G_) : Option G_ :=
  chk (kd a1 == 6) <|
  chk (kd a2 == 2) <|
  bj1 (f_X6_value a1 (G.1 39 0) G) fun x1 =>
  bj1 (f_X3_stepKind x1) fun x3 =>
  if x3 = 0 then (
    nm (sI G 39 1 (G.1 39 0)) fun G5 =>
    some G5)
  else (
    if G.1 a2 4 < 12 then (
      bj2 (
        if 3 < x3 then (
          if x3 = 4 then (
            some (0, G))
          else (
            nm (sI G 39 0 ((G.1 39 0) + 1)) fun G7 =>
            some (0, G7)))
        else (
          bj2 (f_X3_readNumber a1 2 30 G) fun x9 G8 =>
          if G8.1 39 1 = (-9) then (
            bj1 (f_X6_value a1 (G8.1 39 0) G8) fun x11 =>
            if x11 = 58 then (
              some (x9, G8))
            else (
              nm (sI G8 39 1 (G8.1 39 0)) fun G13 =>
              some (x9, G13)))
          else (
            some (x9, G8)))) fun (x14 : Int32) (G15 : G_) =>
      bj2 (
        if G15.1 39 1 = (-9) then (
          if 4 < x3 then (
            some (0, G15))
          else (
            bj2 (f_X3_readNumber a1 1 60 G15) fun x18 G17 =>
            some (x18, G17)))
        else (
          some (0, G15))) fun (x20 : Int32) (G21 : G_) =>
      bj1 (
        if G21.1 39 1 = (-9) then (
          if (G21.1 a2 5) + x20 ≤ 200 then (
            some (G21))
          else (
            nm (sI G21 39 1 (G21.1 39 0)) fun G23 =>
            some (G23)))
        else (
          some (G21))) fun (G24 : G_) =>
      if G24.1 39 1 = (-9) then (
        bj1 (f_X2_add a2 x3 x14 x20 G24) fun G25 =>
        some G25)
      else (
        some G24))
    else (
      nm (sI G 39 1 (G.1 39 0)) fun G27 =>
      some G27))
set_option maxHeartbeats 4000000 in
set_option maxRecDepth 100000 in
theorem c_X3_readStep (l : Launch) (V : VT) (a1 : Nat) (a2 : Nat) (G : G_) (G' : G_) (hf : f_X3_readStep a1 a2 G = some G') : MC l V yX3_readStep cX3_readStep 6 none 3 67 [.ref (V.2.2.1 39), .ref (V.2.2.1 a1), .ref (V.2.2.1 a2)] G none G' := by
  refine mc_of (by decide) (Nat.le_of_ble_eq_true rfl) (fun K hV ho hc hkl => ?_)
  subst hV
  replace hc : Ok K cX3_readStep RX3 (Cond.code yX3_readStep cX3_readStep 6 none :: TB) none 3 67 6 := hc
  replace ho : Rets K none G' := ho
  show X K 0 [(0, .ref (kad K 39)), (1, .ref (kad K a1)), (2, .ref (kad K a2))] [] G
  unfold f_X3_readStep at hf
  obtain ⟨k_a1, hf⟩ := chk_ok hf
  obtain ⟨k_a2, hf⟩ := chk_ok hf
  refine x_aload_n hc 1 dX3_readStep_0 rfl rfl ?_
  refine x_aload_n hc 0 dX3_readStep_1 rfl rfl ?_
  refine x_getI (T := TX3) (p0 := 39) hc in_X3 rfl (by decide) (rfl : kd 39 = 3) 0 (by decide) tw_155 rfl rfl dX3_readStep_2 ?_
  obtain ⟨x1, r2, hf⟩ := bj1_ok hf
  refine x_callVr (As := [.int (G.1 39 0)]) (p0 := a1) (v := (.int x1)) (T := TX6) hc (c_X6_value (kl K) (kV K) a1 (G.1 39 0) G x1 r2) mw_X6_value tw_330 (kdb k_a1) (by decide) rfl rfl (Nat.le_of_ble_eq_true rfl) ⟨Nat.le_of_ble_eq_true rfl, Nat.le_of_ble_eq_true rfl⟩ dX3_readStep_5 rfl ?_
  obtain ⟨x3, r4, hf⟩ := bj1_ok hf
  refine x_callSr (As := [.int x1]) (v := (.int x3)) hc (c_X3_stepKind (kl K) (kV K) x1 G x3 r4) mw_X3_stepKind tw_342 rfl (Nat.le_of_ble_eq_true rfl) ⟨Nat.le_of_ble_eq_true rfl, Nat.le_of_ble_eq_true rfl⟩ dX3_readStep_8 rfl ?_
  refine x_istore_n (L' := [(0, .ref (kad K 39)), (1, .ref (kad K a1)), (2, .ref (kad K a2)), (3, .int x3)]) hc [1, 2, 3, 0] dX3_readStep_11 rfl (by decide) rfl ?_
  refine x_iload_n hc 3 dX3_readStep_12 rfl rfl ?_
  refine x_if_eq (tgt := 25) hc dX3_readStep_13 rfl (fun c_13 => ?_) (fun c_13 => ?_)
  · replace hf := if_p hf c_13
    refine x_aload_n hc 0 dX3_readStep_25 rfl rfl ?_
    refine x_aload_n hc 0 dX3_readStep_26 rfl rfl ?_
    refine x_getI (T := TX3) (p0 := 39) hc in_X3 rfl (by decide) (rfl : kd 39 = 3) 0 (by decide) tw_155 rfl rfl dX3_readStep_27 ?_
    refine x_putI (T := TX3) (p0 := 39) hc tyX3 tyX3_ok nmX3 in_X3 rfl (by decide) (rfl : kd 39 = 3) 1 (by decide) tw_156 rfl rfl rfl (by decide +kernel) dX3_readStep_30 ?_
    refine x_nmg (fun G5 e_G5 => ?_)
    replace hf := nm_ok hf G5 e_G5
    cases hf
    exact x_vret hc rfl ho dX3_readStep_33
  · replace hf := if_n hf c_13
    refine x_aload_n hc 2 dX3_readStep_16 rfl rfl ?_
    refine x_getI (T := TX2) (p0 := a2) hc in_X2 rfl (by decide) (kdb k_a2) 4 (by decide) tw_72 rfl rfl dX3_readStep_17 ?_
    refine x_bipush (v := 12) hc rfl dX3_readStep_20 ?_
    refine x_icmp_lt (tgt := 34) hc dX3_readStep_22 rfl (fun c_22 => ?_) (fun c_22 => ?_)
    · replace hf := if_p hf c_22
      refine x_iconst (v := 0) hc rfl dX3_readStep_34 ?_
      refine x_istore (L' := [(0, .ref (kad K 39)), (1, .ref (kad K a1)), (2, .ref (kad K a2)), (3, .int x3), (4, .int 0)]) hc [1, 2, 3, 4, 0] dX3_readStep_35 (by decide) rfl ?_
      refine x_iconst (v := 0) hc rfl dX3_readStep_37 ?_
      refine x_istore (L' := [(0, .ref (kad K 39)), (1, .ref (kad K a1)), (2, .ref (kad K a2)), (3, .int x3), (4, .int 0), (5, .int 0)]) hc [1, 2, 3, 4, 5, 0] dX3_readStep_38 (by decide) rfl ?_
      refine x_iload_n hc 3 dX3_readStep_40 rfl rfl ?_
      refine x_iconst (v := 3) hc rfl dX3_readStep_41 ?_
      obtain ⟨x14, G15, hr, hf⟩ := bj2_ok hf
      have hj_103_6 : X K 103 [(0, .ref (kad K 39)), (1, .ref (kad K a1)), (2, .ref (kad K a2)), (3, .int x3), (4, .int x14), (5, .int 0)] [] G15 := by
        clear hr
        refine x_aload_n hc 0 dX3_readStep_103 rfl rfl ?_
        refine x_getI (T := TX3) (p0 := 39) hc in_X3 rfl (by decide) (rfl : kd 39 = 3) 1 (by decide) tw_156 rfl rfl dX3_readStep_104 ?_
        refine x_bipush (v := (-9)) hc rfl dX3_readStep_107 ?_
        obtain ⟨x20, G21, hr, hf⟩ := bj2_ok hf
        have hj_127_16 : X K 127 [(0, .ref (kad K 39)), (2, .ref (kad K a2)), (3, .int x3), (4, .int x14), (5, .int x20)] [] G21 := by
          clear hr
          refine x_aload_n hc 0 dX3_readStep_127 rfl rfl ?_
          refine x_getI (T := TX3) (p0 := 39) hc in_X3 rfl (by decide) (rfl : kd 39 = 3) 1 (by decide) tw_156 rfl rfl dX3_readStep_128 ?_
          refine x_bipush (v := (-9)) hc rfl dX3_readStep_131 ?_
          obtain ⟨G24, hr, hf⟩ := bj1_ok hf
          have hj_157_22 : X K 157 [(0, .ref (kad K 39)), (2, .ref (kad K a2)), (3, .int x3), (4, .int x14), (5, .int x20)] [] G24 := by
            clear hr
            refine x_aload_n hc 0 dX3_readStep_157 rfl rfl ?_
            refine x_getI (T := TX3) (p0 := 39) hc in_X3 rfl (by decide) (rfl : kd 39 = 3) 1 (by decide) tw_156 rfl rfl dX3_readStep_158 ?_
            refine x_bipush (v := (-9)) hc rfl dX3_readStep_161 ?_
            refine x_icmp_ne (tgt := 175) hc dX3_readStep_163 rfl (fun c_163 => ?_) (fun c_163 => ?_)
            · replace hf := if_n hf c_163
              cases hf
              exact x_vret hc rfl ho dX3_readStep_175
            · replace hf := if_p hf c_163
              refine x_aload_n hc 1 dX3_readStep_166 rfl rfl ?_
              refine x_iload_n hc 2 dX3_readStep_167 rfl rfl ?_
              refine x_iload hc 3 dX3_readStep_168 rfl ?_
              refine x_iload hc 4 dX3_readStep_170 rfl ?_
              obtain ⟨G25, r26, hf⟩ := bj1_ok hf
              refine x_callVv (As := [.int x3, .int x14, .int x20]) (p0 := a2) (T := TX2) hc (c_X2_add (kl K) (kV K) a2 x3 x14 x20 G24 G25 r26) mw_X2_add tw_352 (kdb k_a2) (by decide) rfl rfl (Nat.le_of_ble_eq_true rfl) ⟨Nat.le_of_ble_eq_true rfl, Nat.le_of_ble_eq_true rfl⟩ dX3_readStep_172 rfl ?_
              cases hf
              exact x_vret hc rfl ho dX3_readStep_175
          replace hf := hr
          clear hr
          refine x_icmp_ne (tgt := 157) hc dX3_readStep_133 rfl (fun c_133 => ?_) (fun c_133 => ?_)
          · replace hf := if_n hf c_133
            cases hf
            exact x_sub [0, 1, 2, 3, 4] hj_157_22 rfl
          · replace hf := if_p hf c_133
            refine x_aload_n hc 1 dX3_readStep_136 rfl rfl ?_
            refine x_getI (T := TX2) (p0 := a2) hc in_X2 rfl (by decide) (kdb k_a2) 5 (by decide) tw_76 rfl rfl dX3_readStep_137 ?_
            refine x_iload hc 4 dX3_readStep_140 rfl ?_
            refine x_iadd hc dX3_readStep_142 ?_
            refine x_sipush (v := 200) hc rfl dX3_readStep_143 ?_
            refine x_icmp_le (tgt := 157) hc dX3_readStep_146 rfl (fun c_146 => ?_) (fun c_146 => ?_)
            · replace hf := if_p hf c_146
              cases hf
              exact x_sub [0, 1, 2, 3, 4] hj_157_22 rfl
            · replace hf := if_n hf c_146
              refine x_aload_n hc 0 dX3_readStep_149 rfl rfl ?_
              refine x_aload_n hc 0 dX3_readStep_150 rfl rfl ?_
              refine x_getI (T := TX3) (p0 := 39) hc in_X3 rfl (by decide) (rfl : kd 39 = 3) 0 (by decide) tw_155 rfl rfl dX3_readStep_151 ?_
              refine x_putI (T := TX3) (p0 := 39) hc tyX3 tyX3_ok nmX3 in_X3 rfl (by decide) (rfl : kd 39 = 3) 1 (by decide) tw_156 rfl rfl rfl (by decide +kernel) dX3_readStep_154 ?_
              refine x_nmg (fun G23 e_G23 => ?_)
              replace hf := nm_ok hf G23 e_G23
              cases hf
              exact x_sub [0, 1, 2, 3, 4] hj_157_22 rfl
        replace hf := hr
        clear hr
        refine x_icmp_ne (tgt := 127) hc dX3_readStep_109 rfl (fun c_109 => ?_) (fun c_109 => ?_)
        · replace hf := if_n hf c_109
          cases hf
          exact x_sub [0, 2, 3, 4, 5] hj_127_16 rfl
        · replace hf := if_p hf c_109
          refine x_iload_n hc 3 dX3_readStep_112 rfl rfl ?_
          refine x_iconst (v := 4) hc rfl dX3_readStep_113 ?_
          refine x_icmp_gt (tgt := 127) hc dX3_readStep_114 rfl (fun c_114 => ?_) (fun c_114 => ?_)
          · replace hf := if_p hf c_114
            cases hf
            exact x_sub [0, 2, 3, 4, 5] hj_127_16 rfl
          · replace hf := if_n hf c_114
            refine x_aload_n hc 0 dX3_readStep_117 rfl rfl ?_
            refine x_aload_n hc 1 dX3_readStep_118 rfl rfl ?_
            refine x_iconst (v := 1) hc rfl dX3_readStep_119 ?_
            refine x_bipush (v := 60) hc rfl dX3_readStep_120 ?_
            obtain ⟨x18, G17, r19, hf⟩ := bj2_ok hf
            refine x_callVr (As := [.ref (kad K a1), .int 1, .int 60]) (p0 := 39) (v := (.int x18)) (T := TX3) hc (c_X3_readNumber (kl K) (kV K) a1 1 60 G15 x18 G17 r19) mw_X3_readNumber tw_345 (rfl : kd 39 = 3) (by decide) rfl rfl (Nat.le_of_ble_eq_true rfl) ⟨Nat.le_of_ble_eq_true rfl, Nat.le_of_ble_eq_true rfl⟩ dX3_readStep_122 rfl ?_
            refine x_istore (L' := [(0, .ref (kad K 39)), (2, .ref (kad K a2)), (3, .int x3), (4, .int x14), (5, .int x18)]) hc [1, 3, 4, 5, 0] dX3_readStep_125 (by decide) rfl ?_
            cases hf
            exact x_sub [0, 1, 2, 3, 4] hj_127_16 rfl
      replace hf := hr
      clear hr
      refine x_icmp_gt (tgt := 88) hc dX3_readStep_42 rfl (fun c_42 => ?_) (fun c_42 => ?_)
      · replace hf := if_p hf c_42
        refine x_iload_n hc 3 dX3_readStep_88 rfl rfl ?_
        refine x_iconst (v := 4) hc rfl dX3_readStep_89 ?_
        refine x_icmp_eq (tgt := 103) hc dX3_readStep_90 rfl (fun c_90 => ?_) (fun c_90 => ?_)
        · replace hf := if_p hf c_90
          cases hf
          exact x_sub [0, 1, 2, 3, 4, 5] hj_103_6 rfl
        · replace hf := if_n hf c_90
          refine x_aload_n hc 0 dX3_readStep_93 rfl rfl ?_
          refine x_dup hc rfl dX3_readStep_94 ?_
          refine x_getI (T := TX3) (p0 := 39) hc in_X3 rfl (by decide) (rfl : kd 39 = 3) 0 (by decide) tw_155 rfl rfl dX3_readStep_95 ?_
          refine x_iconst (v := 1) hc rfl dX3_readStep_98 ?_
          refine x_iadd hc dX3_readStep_99 ?_
          refine x_putI (T := TX3) (p0 := 39) hc tyX3 tyX3_ok nmX3 in_X3 rfl (by decide) (rfl : kd 39 = 3) 0 (by decide) tw_155 rfl rfl rfl (by decide +kernel) dX3_readStep_100 ?_
          refine x_nmg (fun G7 e_G7 => ?_)
          replace hf := nm_ok hf G7 e_G7
          cases hf
          exact x_sub [0, 1, 2, 3, 4, 5] hj_103_6 rfl
      · replace hf := if_n hf c_42
        refine x_aload_n hc 0 dX3_readStep_45 rfl rfl ?_
        refine x_aload_n hc 1 dX3_readStep_46 rfl rfl ?_
        refine x_iconst (v := 2) hc rfl dX3_readStep_47 ?_
        refine x_bipush (v := 30) hc rfl dX3_readStep_48 ?_
        obtain ⟨x9, G8, r10, hf⟩ := bj2_ok hf
        refine x_callVr (As := [.ref (kad K a1), .int 2, .int 30]) (p0 := 39) (v := (.int x9)) (T := TX3) hc (c_X3_readNumber (kl K) (kV K) a1 2 30 G x9 G8 r10) mw_X3_readNumber tw_345 (rfl : kd 39 = 3) (by decide) rfl rfl (Nat.le_of_ble_eq_true rfl) ⟨Nat.le_of_ble_eq_true rfl, Nat.le_of_ble_eq_true rfl⟩ dX3_readStep_50 rfl ?_
        refine x_istore (L' := [(0, .ref (kad K 39)), (1, .ref (kad K a1)), (2, .ref (kad K a2)), (3, .int x3), (4, .int x9), (5, .int 0)]) hc [1, 2, 3, 4, 0, 5] dX3_readStep_53 (by decide) rfl ?_
        refine x_aload_n hc 0 dX3_readStep_55 rfl rfl ?_
        refine x_getI (T := TX3) (p0 := 39) hc in_X3 rfl (by decide) (rfl : kd 39 = 3) 1 (by decide) tw_156 rfl rfl dX3_readStep_56 ?_
        refine x_bipush (v := (-9)) hc rfl dX3_readStep_59 ?_
        refine x_icmp_ne (tgt := 103) hc dX3_readStep_61 rfl (fun c_61 => ?_) (fun c_61 => ?_)
        · replace hf := if_n hf c_61
          cases hf
          exact x_sub [0, 1, 2, 3, 4, 5] hj_103_6 rfl
        · replace hf := if_p hf c_61
          refine x_aload_n hc 1 dX3_readStep_64 rfl rfl ?_
          refine x_aload_n hc 0 dX3_readStep_65 rfl rfl ?_
          refine x_getI (T := TX3) (p0 := 39) hc in_X3 rfl (by decide) (rfl : kd 39 = 3) 0 (by decide) tw_155 rfl rfl dX3_readStep_66 ?_
          obtain ⟨x11, r12, hf⟩ := bj1_ok hf
          refine x_callVr (As := [.int (G8.1 39 0)]) (p0 := a1) (v := (.int x11)) (T := TX6) hc (c_X6_value (kl K) (kV K) a1 (G8.1 39 0) G8 x11 r12) mw_X6_value tw_330 (kdb k_a1) (by decide) rfl rfl (Nat.le_of_ble_eq_true rfl) ⟨Nat.le_of_ble_eq_true rfl, Nat.le_of_ble_eq_true rfl⟩ dX3_readStep_69 rfl ?_
          refine x_bipush (v := 58) hc rfl dX3_readStep_72 ?_
          refine x_icmp_eq (tgt := 103) hc dX3_readStep_74 rfl (fun c_74 => ?_) (fun c_74 => ?_)
          · replace hf := if_p hf c_74
            cases hf
            exact x_sub [0, 1, 2, 3, 4, 5] hj_103_6 rfl
          · replace hf := if_n hf c_74
            refine x_aload_n hc 0 dX3_readStep_77 rfl rfl ?_
            refine x_aload_n hc 0 dX3_readStep_78 rfl rfl ?_
            refine x_getI (T := TX3) (p0 := 39) hc in_X3 rfl (by decide) (rfl : kd 39 = 3) 0 (by decide) tw_155 rfl rfl dX3_readStep_79 ?_
            refine x_putI (T := TX3) (p0 := 39) hc tyX3 tyX3_ok nmX3 in_X3 rfl (by decide) (rfl : kd 39 = 3) 1 (by decide) tw_156 rfl rfl rfl (by decide +kernel) dX3_readStep_82 ?_
            refine x_nmg (fun G13 e_G13 => ?_)
            replace hf := nm_ok hf G13 e_G13
            refine x_goto (tgt := 103) hc dX3_readStep_85 rfl ?_
            cases hf
            exact x_sub [0, 1, 2, 3, 4, 5] hj_103_6 rfl
    · replace hf := if_n hf c_22
      refine x_aload_n hc 0 dX3_readStep_25 rfl rfl ?_
      refine x_aload_n hc 0 dX3_readStep_26 rfl rfl ?_
      refine x_getI (T := TX3) (p0 := 39) hc in_X3 rfl (by decide) (rfl : kd 39 = 3) 0 (by decide) tw_155 rfl rfl dX3_readStep_27 ?_
      refine x_putI (T := TX3) (p0 := 39) hc tyX3 tyX3_ok nmX3 in_X3 rfl (by decide) (rfl : kd 39 = 3) 1 (by decide) tw_156 rfl rfl rfl (by decide +kernel) dX3_readStep_30 ?_
      refine x_nmg (fun G27 e_G27 => ?_)
      replace hf := nm_ok hf G27 e_G27
      cases hf
      exact x_vret hc rfl ho dX3_readStep_33
def f_X3_readSlab_l17_7 (a1 : Nat) (a2 : Nat) : Nat → Int32 → G_ → Option (Int32 × G_)
  | 0, _, _ => none
  | n7 + 1, v5, G6 =>
    if 80 < v5 then (
      some (0, G6))
    else (
      bj1 (f_X3_skipBlanks a1 G6) fun G8 =>
      if G8.1 39 0 < G8.1 a1 1 then (
        bj1 (f_X3_readItem a1 a2 G8) fun G10 =>
        if G10.1 39 1 = (-9) then (
          f_X3_readSlab_l17_7 a1 a2 n7 (v5 + 1) G10)
        else (
          some (0, G10)))
      else (
        some (v5, G8)))
def f_X3_readSlab (a1 : Nat) (a2 : Nat) (G : G_) : Option (Int32 × G_) :=
  chk (kd a1 == 6) <|
  chk (kd a2 == 5) <|
  nm (sI G 39 0 0) fun G1 =>
  nm (sI G1 39 1 (-9)) fun G2 =>
  bj1 (f_X5_begin a2 G2) fun G3 =>
  f_X3_readSlab_l17_7 a1 a2 FU 0 G3
set_option maxHeartbeats 4000000 in
set_option maxRecDepth 100000 in
theorem c_X3_readSlab_l17_7 {K : CT} (a1 : Nat) (a2 : Nat) (r : Int32) (G' : G_) (hc : Ok K cX3_readSlab RX3 (Cond.code yX3_readSlab cX3_readSlab 4 (some .int) :: TB) (some .int) 4 90 4) (k_a1 : (kd a1 == 6) = true) : ∀ (n7 : Nat) (v5 : Int32) (G6 : G_), f_X3_readSlab_l17_7 a1 a2 n7 v5 G6 = some (r, G') → Rets K (some (.int r)) G' → X K 17 [(0, .ref (kad K 39)), (1, .ref (kad K a1)), (2, .ref (kad K a2)), (3, .int v5)] [] G6 := by
  intro n7
  induction n7 with
  | zero =>
    intro v5 G6 hf ho
    cases hf
  | succ n7 ih =>
    intro v5 G6 hf ho
    unfold f_X3_readSlab_l17_7 at hf
    refine x_iload_n hc 3 dX3_readSlab_17 rfl rfl ?_
    refine x_bipush (v := 80) hc rfl dX3_readSlab_18 ?_
    refine x_icmp_gt (tgt := 64) hc dX3_readSlab_20 rfl (fun c_20 => ?_) (fun c_20 => ?_)
    · replace hf := if_p hf c_20
      refine x_iconst (v := 0) hc rfl dX3_readSlab_64 ?_
      cases hf
      exact x_iret hc rfl ho dX3_readSlab_65
    · replace hf := if_n hf c_20
      refine x_aload_n hc 0 dX3_readSlab_23 rfl rfl ?_
      refine x_aload_n hc 1 dX3_readSlab_24 rfl rfl ?_
      obtain ⟨G8, r9, hf⟩ := bj1_ok hf
      refine x_callVv (As := [.ref (kad K a1)]) (p0 := 39) (T := TX3) hc (c_X3_skipBlanks (kl K) (kV K) a1 G6 G8 r9) mw_X3_skipBlanks tw_326 (rfl : kd 39 = 3) (by decide) rfl rfl (Nat.le_of_ble_eq_true rfl) ⟨Nat.le_of_ble_eq_true rfl, Nat.le_of_ble_eq_true rfl⟩ dX3_readSlab_25 rfl ?_
      refine x_aload_n hc 0 dX3_readSlab_28 rfl rfl ?_
      refine x_getI (T := TX3) (p0 := 39) hc in_X3 rfl (by decide) (rfl : kd 39 = 3) 0 (by decide) tw_155 rfl rfl dX3_readSlab_29 ?_
      refine x_aload_n hc 1 dX3_readSlab_32 rfl rfl ?_
      refine x_getI (T := TX6) (p0 := a1) hc in_X6 rfl (by decide) (kdb k_a1) 1 (by decide) tw_233 rfl rfl dX3_readSlab_33 ?_
      refine x_icmp_lt (tgt := 41) hc dX3_readSlab_36 rfl (fun c_36 => ?_) (fun c_36 => ?_)
      · replace hf := if_p hf c_36
        refine x_aload_n hc 0 dX3_readSlab_41 rfl rfl ?_
        refine x_aload_n hc 1 dX3_readSlab_42 rfl rfl ?_
        refine x_aload_n hc 2 dX3_readSlab_43 rfl rfl ?_
        obtain ⟨G10, r11, hf⟩ := bj1_ok hf
        refine x_callVv (As := [.ref (kad K a1), .ref (kad K a2)]) (p0 := 39) (T := TX3) hc (c_X3_readItem (kl K) (kV K) a1 a2 G8 G10 r11) mw_X3_readItem tw_735 (rfl : kd 39 = 3) (by decide) rfl rfl (Nat.le_of_ble_eq_true rfl) ⟨Nat.le_of_ble_eq_true rfl, Nat.le_of_ble_eq_true rfl⟩ dX3_readSlab_44 rfl ?_
        refine x_aload_n hc 0 dX3_readSlab_47 rfl rfl ?_
        refine x_getI (T := TX3) (p0 := 39) hc in_X3 rfl (by decide) (rfl : kd 39 = 3) 1 (by decide) tw_156 rfl rfl dX3_readSlab_48 ?_
        refine x_bipush (v := (-9)) hc rfl dX3_readSlab_51 ?_
        refine x_icmp_eq (tgt := 58) hc dX3_readSlab_53 rfl (fun c_53 => ?_) (fun c_53 => ?_)
        · replace hf := if_p hf c_53
          refine x_iinc (v := v5 + 1) (L' := [(0, .ref (kad K 39)), (1, .ref (kad K a1)), (2, .ref (kad K a2)), (3, .int (v5 + 1))]) hc 3 [1, 2, 3, 0] dX3_readSlab_58 rfl rfl (by decide) rfl ?_
          refine x_goto (tgt := 17) hc dX3_readSlab_61 rfl ?_
          exact x_sub [0, 1, 2, 3] (ih _ _ hf ho) rfl
        · replace hf := if_n hf c_53
          refine x_iconst (v := 0) hc rfl dX3_readSlab_56 ?_
          cases hf
          exact x_iret hc rfl ho dX3_readSlab_57
      · replace hf := if_n hf c_36
        refine x_iload_n hc 3 dX3_readSlab_39 rfl rfl ?_
        cases hf
        exact x_iret hc rfl ho dX3_readSlab_40
set_option maxHeartbeats 4000000 in
set_option maxRecDepth 100000 in
theorem c_X3_readSlab (l : Launch) (V : VT) (a1 : Nat) (a2 : Nat) (G : G_) (r : Int32) (G' : G_) (hf : f_X3_readSlab a1 a2 G = some (r, G')) : MC l V yX3_readSlab cX3_readSlab 4 (some .int) 4 90 [.ref (V.2.2.1 39), .ref (V.2.2.1 a1), .ref (V.2.2.1 a2)] G (some (.int r)) G' := by
  refine mc_of (by decide) (Nat.le_of_ble_eq_true rfl) (fun K hV ho hc hkl => ?_)
  subst hV
  replace hc : Ok K cX3_readSlab RX3 (Cond.code yX3_readSlab cX3_readSlab 4 (some .int) :: TB) (some .int) 4 90 4 := hc
  replace ho : Rets K (some (.int r)) G' := ho
  show X K 0 [(0, .ref (kad K 39)), (1, .ref (kad K a1)), (2, .ref (kad K a2))] [] G
  unfold f_X3_readSlab at hf
  obtain ⟨k_a1, hf⟩ := chk_ok hf
  obtain ⟨k_a2, hf⟩ := chk_ok hf
  refine x_aload_n hc 0 dX3_readSlab_0 rfl rfl ?_
  refine x_iconst (v := 0) hc rfl dX3_readSlab_1 ?_
  refine x_putI (T := TX3) (p0 := 39) hc tyX3 tyX3_ok nmX3 in_X3 rfl (by decide) (rfl : kd 39 = 3) 0 (by decide) tw_155 rfl rfl rfl (by decide +kernel) dX3_readSlab_2 ?_
  refine x_nmg (fun G1 e_G1 => ?_)
  replace hf := nm_ok hf G1 e_G1
  refine x_aload_n hc 0 dX3_readSlab_5 rfl rfl ?_
  refine x_bipush (v := (-9)) hc rfl dX3_readSlab_6 ?_
  refine x_putI (T := TX3) (p0 := 39) hc tyX3 tyX3_ok nmX3 in_X3 rfl (by decide) (rfl : kd 39 = 3) 1 (by decide) tw_156 rfl rfl rfl (by decide +kernel) dX3_readSlab_8 ?_
  refine x_nmg (fun G2 e_G2 => ?_)
  replace hf := nm_ok hf G2 e_G2
  refine x_aload_n hc 2 dX3_readSlab_11 rfl rfl ?_
  obtain ⟨G3, r4, hf⟩ := bj1_ok hf
  refine x_callVv (As := []) (p0 := a2) (T := TX5) hc (c_X5_begin (kl K) (kV K) a2 G2 G3 r4) mw_X5_begin tw_731 (kdb k_a2) (by decide) rfl rfl (Nat.le_of_ble_eq_true rfl) ⟨Nat.le_of_ble_eq_true rfl, Nat.le_of_ble_eq_true rfl⟩ dX3_readSlab_12 rfl ?_
  refine x_iconst (v := 0) hc rfl dX3_readSlab_15 ?_
  refine x_istore_n (L' := [(0, .ref (kad K 39)), (1, .ref (kad K a1)), (2, .ref (kad K a2)), (3, .int 0)]) hc [1, 2, 3, 0] dX3_readSlab_16 rfl (by decide) rfl ?_
  exact x_sub [0, 1, 2, 3] (c_X3_readSlab_l17_7 a1 a2 r G' hc k_a1 FU 0 G3 hf ho) rfl
def f_X3_readPlan_l17_7 (a1 : Nat) (a2 : Nat) : Nat → Int32 → G_ → Option G_
  | 0, _, _ => none
  | n7 + 1, v5, G6 =>
    if 80 < v5 then (
      some G6)
    else (
      bj1 (f_X3_skipBlanks a1 G6) fun G8 =>
      if G8.1 39 0 < G8.1 a1 1 then (
        bj1 (f_X3_readStep a1 a2 G8) fun G10 =>
        if G10.1 39 1 = (-9) then (
          f_X3_readPlan_l17_7 a1 a2 n7 (v5 + 1) G10)
        else (
          some G10))
      else (
        some G8))
def f_X3_readPlan (a1 : Nat) (a2 : Nat) (G : G_) : Option G_ :=
  chk (kd a1 == 6) <|
  chk (kd a2 == 2) <|
  nm (sI G 39 0 0) fun G1 =>
  nm (sI G1 39 1 (-9)) fun G2 =>
  bj1 (f_X2_begin a2 G2) fun G3 =>
  f_X3_readPlan_l17_7 a1 a2 FU 0 G3
set_option maxHeartbeats 4000000 in
set_option maxRecDepth 100000 in
theorem c_X3_readPlan_l17_7 {K : CT} (a1 : Nat) (a2 : Nat) (G' : G_) (hc : Ok K cX3_readPlan RX3 (Cond.code yX3_readPlan cX3_readPlan 4 none :: TB) none 4 92 4) (k_a1 : (kd a1 == 6) = true) : ∀ (n7 : Nat) (v5 : Int32) (G6 : G_), f_X3_readPlan_l17_7 a1 a2 n7 v5 G6 = some G' → Rets K none G' → X K 17 [(0, .ref (kad K 39)), (1, .ref (kad K a1)), (2, .ref (kad K a2)), (3, .int v5)] [] G6 := by
  intro n7
  induction n7 with
  | zero =>
    intro v5 G6 hf ho
    cases hf
  | succ n7 ih =>
    intro v5 G6 hf ho
    unfold f_X3_readPlan_l17_7 at hf
    refine x_iload_n hc 3 dX3_readPlan_17 rfl rfl ?_
    refine x_bipush (v := 80) hc rfl dX3_readPlan_18 ?_
    refine x_icmp_gt (tgt := 62) hc dX3_readPlan_20 rfl (fun c_20 => ?_) (fun c_20 => ?_)
    · replace hf := if_p hf c_20
      cases hf
      exact x_vret hc rfl ho dX3_readPlan_62
    · replace hf := if_n hf c_20
      refine x_aload_n hc 0 dX3_readPlan_23 rfl rfl ?_
      refine x_aload_n hc 1 dX3_readPlan_24 rfl rfl ?_
      obtain ⟨G8, r9, hf⟩ := bj1_ok hf
      refine x_callVv (As := [.ref (kad K a1)]) (p0 := 39) (T := TX3) hc (c_X3_skipBlanks (kl K) (kV K) a1 G6 G8 r9) mw_X3_skipBlanks tw_326 (rfl : kd 39 = 3) (by decide) rfl rfl (Nat.le_of_ble_eq_true rfl) ⟨Nat.le_of_ble_eq_true rfl, Nat.le_of_ble_eq_true rfl⟩ dX3_readPlan_25 rfl ?_
      refine x_aload_n hc 0 dX3_readPlan_28 rfl rfl ?_
      refine x_getI (T := TX3) (p0 := 39) hc in_X3 rfl (by decide) (rfl : kd 39 = 3) 0 (by decide) tw_155 rfl rfl dX3_readPlan_29 ?_
      refine x_aload_n hc 1 dX3_readPlan_32 rfl rfl ?_
      refine x_getI (T := TX6) (p0 := a1) hc in_X6 rfl (by decide) (kdb k_a1) 1 (by decide) tw_233 rfl rfl dX3_readPlan_33 ?_
      refine x_icmp_lt (tgt := 40) hc dX3_readPlan_36 rfl (fun c_36 => ?_) (fun c_36 => ?_)
      · replace hf := if_p hf c_36
        refine x_aload_n hc 0 dX3_readPlan_40 rfl rfl ?_
        refine x_aload_n hc 1 dX3_readPlan_41 rfl rfl ?_
        refine x_aload_n hc 2 dX3_readPlan_42 rfl rfl ?_
        obtain ⟨G10, r11, hf⟩ := bj1_ok hf
        refine x_callVv (As := [.ref (kad K a1), .ref (kad K a2)]) (p0 := 39) (T := TX3) hc (c_X3_readStep (kl K) (kV K) a1 a2 G8 G10 r11) mw_X3_readStep tw_338 (rfl : kd 39 = 3) (by decide) rfl rfl (Nat.le_of_ble_eq_true rfl) ⟨Nat.le_of_ble_eq_true rfl, Nat.le_of_ble_eq_true rfl⟩ dX3_readPlan_43 rfl ?_
        refine x_aload_n hc 0 dX3_readPlan_46 rfl rfl ?_
        refine x_getI (T := TX3) (p0 := 39) hc in_X3 rfl (by decide) (rfl : kd 39 = 3) 1 (by decide) tw_156 rfl rfl dX3_readPlan_47 ?_
        refine x_bipush (v := (-9)) hc rfl dX3_readPlan_50 ?_
        refine x_icmp_eq (tgt := 56) hc dX3_readPlan_52 rfl (fun c_52 => ?_) (fun c_52 => ?_)
        · replace hf := if_p hf c_52
          refine x_iinc (v := v5 + 1) (L' := [(0, .ref (kad K 39)), (1, .ref (kad K a1)), (2, .ref (kad K a2)), (3, .int (v5 + 1))]) hc 3 [1, 2, 3, 0] dX3_readPlan_56 rfl rfl (by decide) rfl ?_
          refine x_goto (tgt := 17) hc dX3_readPlan_59 rfl ?_
          exact x_sub [0, 1, 2, 3] (ih _ _ hf ho) rfl
        · replace hf := if_n hf c_52
          cases hf
          exact x_vret hc rfl ho dX3_readPlan_55
      · replace hf := if_n hf c_36
        cases hf
        exact x_vret hc rfl ho dX3_readPlan_39
set_option maxHeartbeats 4000000 in
set_option maxRecDepth 100000 in
theorem c_X3_readPlan (l : Launch) (V : VT) (a1 : Nat) (a2 : Nat) (G : G_) (G' : G_) (hf : f_X3_readPlan a1 a2 G = some G') : MC l V yX3_readPlan cX3_readPlan 4 none 4 92 [.ref (V.2.2.1 39), .ref (V.2.2.1 a1), .ref (V.2.2.1 a2)] G none G' := by
  refine mc_of (by decide) (Nat.le_of_ble_eq_true rfl) (fun K hV ho hc hkl => ?_)
  subst hV
  replace hc : Ok K cX3_readPlan RX3 (Cond.code yX3_readPlan cX3_readPlan 4 none :: TB) none 4 92 4 := hc
  replace ho : Rets K none G' := ho
  show X K 0 [(0, .ref (kad K 39)), (1, .ref (kad K a1)), (2, .ref (kad K a2))] [] G
  unfold f_X3_readPlan at hf
  obtain ⟨k_a1, hf⟩ := chk_ok hf
  obtain ⟨k_a2, hf⟩ := chk_ok hf
  refine x_aload_n hc 0 dX3_readPlan_0 rfl rfl ?_
  refine x_iconst (v := 0) hc rfl dX3_readPlan_1 ?_
  refine x_putI (T := TX3) (p0 := 39) hc tyX3 tyX3_ok nmX3 in_X3 rfl (by decide) (rfl : kd 39 = 3) 0 (by decide) tw_155 rfl rfl rfl (by decide +kernel) dX3_readPlan_2 ?_
  refine x_nmg (fun G1 e_G1 => ?_)
  replace hf := nm_ok hf G1 e_G1
  refine x_aload_n hc 0 dX3_readPlan_5 rfl rfl ?_
  refine x_bipush (v := (-9)) hc rfl dX3_readPlan_6 ?_
  refine x_putI (T := TX3) (p0 := 39) hc tyX3 tyX3_ok nmX3 in_X3 rfl (by decide) (rfl : kd 39 = 3) 1 (by decide) tw_156 rfl rfl rfl (by decide +kernel) dX3_readPlan_8 ?_
  refine x_nmg (fun G2 e_G2 => ?_)
  replace hf := nm_ok hf G2 e_G2
  refine x_aload_n hc 2 dX3_readPlan_11 rfl rfl ?_
  obtain ⟨G3, r4, hf⟩ := bj1_ok hf
  refine x_callVv (As := []) (p0 := a2) (T := TX2) hc (c_X2_begin (kl K) (kV K) a2 G2 G3 r4) mw_X2_begin tw_322 (kdb k_a2) (by decide) rfl rfl (Nat.le_of_ble_eq_true rfl) ⟨Nat.le_of_ble_eq_true rfl, Nat.le_of_ble_eq_true rfl⟩ dX3_readPlan_12 rfl ?_
  refine x_iconst (v := 0) hc rfl dX3_readPlan_15 ?_
  refine x_istore_n (L' := [(0, .ref (kad K 39)), (1, .ref (kad K a1)), (2, .ref (kad K a2)), (3, .int 0)]) hc [1, 2, 3, 0] dX3_readPlan_16 rfl (by decide) rfl ?_
  exact x_sub [0, 1, 2, 3] (c_X3_readPlan_l17_7 a1 a2 G' hc k_a1 FU 0 G3 hf ho) rfl
def f_X0_fromOutside (a0 : Int32) (a1 : Int32) (a2 : Int32) (a3 : Int32) : Option Int32 :=
  if a0 = 1 then (
    if a2 = 0 then (
      some ((200 - a3) / 16))
    else (
      some (((100 * a1) - a3) / 4)))
  else if a0 = 2 then (
    some (((100 * a1) - a3) / 12))
  else if a0 = 3 then (
    some (((100 * a1) - a3) / 2))
  else (
    some ((200 - a3) / 20))
set_option maxHeartbeats 4000000 in
set_option maxRecDepth 100000 in
theorem c_X0_fromOutside (l : Launch) (V : VT) (a0 : Int32) (a1 : Int32) (a2 : Int32) (a3 : Int32) (G : G_) (r : Int32) (hf : f_X0_fromOutside a0 a1 a2 a3 = some r) : MC l V yX0_fromOutside cX0_fromOutside 4 (some .int) 0 0 [.int a0, .int a1, .int a2, .int a3] G (some (.int r)) G := by
  refine mc_of (by decide) (Nat.le_of_ble_eq_true rfl) (fun K hV ho hc hkl => ?_)
  subst hV
  replace hc : Ok K cX0_fromOutside RX0 (Cond.code yX0_fromOutside cX0_fromOutside 4 (some .int) :: TB) (some .int) 0 0 4 := hc
  replace ho : Rets K (some (.int r)) G := ho
  show X K 0 [(0, .int a0), (1, .int a1), (2, .int a2), (3, .int a3)] [] G
  unfold f_X0_fromOutside at hf
  refine x_iload_n hc 0 dX0_fromOutside_0 rfl rfl ?_
  by_cases s_1_0 : a0 = 1
  · replace hf := if_p hf s_1_0
    refine x_tsIn (tgt := 28) hc dX0_fromOutside_1 1 s_1_0 (by decide) (by decide) rfl rfl ?_
    refine x_iload_n hc 2 dX0_fromOutside_28 rfl rfl ?_
    refine x_if_eq (tgt := 43) hc dX0_fromOutside_29 rfl (fun c_29 => ?_) (fun c_29 => ?_)
    · replace hf := if_p hf c_29
      refine x_sipush (v := 200) hc rfl dX0_fromOutside_43 ?_
      refine x_iload_n hc 3 dX0_fromOutside_46 rfl rfl ?_
      refine x_isub hc dX0_fromOutside_47 ?_
      refine x_bipush (v := 16) hc rfl dX0_fromOutside_48 ?_
      refine x_idiv hc (by decide) dX0_fromOutside_50 ?_
      cases hf
      exact x_iret hc rfl ho dX0_fromOutside_51
    · replace hf := if_n hf c_29
      refine x_bipush (v := 100) hc rfl dX0_fromOutside_32 ?_
      refine x_iload_n hc 1 dX0_fromOutside_34 rfl rfl ?_
      refine x_imul hc dX0_fromOutside_35 ?_
      refine x_iload_n hc 3 dX0_fromOutside_36 rfl rfl ?_
      refine x_isub hc dX0_fromOutside_37 ?_
      refine x_iconst (v := 4) hc rfl dX0_fromOutside_38 ?_
      refine x_idiv hc (by decide) dX0_fromOutside_39 ?_
      refine x_goto (tgt := 51) hc dX0_fromOutside_40 rfl ?_
      cases hf
      exact x_iret hc rfl ho dX0_fromOutside_51
  replace hf := if_n hf s_1_0
  by_cases s_1_1 : a0 = 2
  · replace hf := if_p hf s_1_1
    refine x_tsIn (tgt := 52) hc dX0_fromOutside_1 2 s_1_1 (by decide) (by decide) rfl rfl ?_
    refine x_bipush (v := 100) hc rfl dX0_fromOutside_52 ?_
    refine x_iload_n hc 1 dX0_fromOutside_54 rfl rfl ?_
    refine x_imul hc dX0_fromOutside_55 ?_
    refine x_iload_n hc 3 dX0_fromOutside_56 rfl rfl ?_
    refine x_isub hc dX0_fromOutside_57 ?_
    refine x_bipush (v := 12) hc rfl dX0_fromOutside_58 ?_
    refine x_idiv hc (by decide) dX0_fromOutside_60 ?_
    cases hf
    exact x_iret hc rfl ho dX0_fromOutside_61
  replace hf := if_n hf s_1_1
  by_cases s_1_2 : a0 = 3
  · replace hf := if_p hf s_1_2
    refine x_tsIn (tgt := 62) hc dX0_fromOutside_1 3 s_1_2 (by decide) (by decide) rfl rfl ?_
    refine x_bipush (v := 100) hc rfl dX0_fromOutside_62 ?_
    refine x_iload_n hc 1 dX0_fromOutside_64 rfl rfl ?_
    refine x_imul hc dX0_fromOutside_65 ?_
    refine x_iload_n hc 3 dX0_fromOutside_66 rfl rfl ?_
    refine x_isub hc dX0_fromOutside_67 ?_
    refine x_iconst (v := 2) hc rfl dX0_fromOutside_68 ?_
    refine x_idiv hc (by decide) dX0_fromOutside_69 ?_
    cases hf
    exact x_iret hc rfl ho dX0_fromOutside_70
  replace hf := if_n hf s_1_2
  refine x_tsDef (tgt := 71) hc dX0_fromOutside_1 [1, 2, 3] 3 rfl (by decide +kernel) (List.forall_mem_cons.mpr ⟨s_1_0, List.forall_mem_cons.mpr ⟨s_1_1, List.forall_mem_cons.mpr ⟨s_1_2, fun _ h => absurd h List.not_mem_nil⟩⟩⟩) rfl ?_
  refine x_sipush (v := 200) hc rfl dX0_fromOutside_71 ?_
  refine x_iload_n hc 3 dX0_fromOutside_74 rfl rfl ?_
  refine x_isub hc dX0_fromOutside_75 ?_
  refine x_bipush (v := 20) hc rfl dX0_fromOutside_76 ?_
  refine x_idiv hc (by decide) dX0_fromOutside_78 ?_
  cases hf
  exact x_iret hc rfl ho dX0_fromOutside_79
def f_X0_browns (o : Nat) (a1 : Int32) (a2 : Int32) (G : G_) : Option G_ :=
  chk (kd o == 0) <|
  if a2 < 0 then (
    some G)
  else (
    if 20 ≤ a2 then (
      some G)
    else (
      if a1 < 0 then (
        some G)
      else (
        if a1 ≤ 1 then (
          chk (inb a1 2) <|
          if G.1 (o + 5) (ix a1) = 0 then (
            chk (inb a2 20) <|
            if G.1 (o + 1) (ix a2) < 1400 then (
              some G)
            else (
              chk (inb a1 2) <|
              chk (inb a2 20) <|
              chk (inb a1 2) <|
              nm (sI G (o + 6) (ix a1) ((G.1 (o + 6) (ix a1)) + ((((G.1 (o + 1) (ix a2)) - 1400) / 100) + ((G.1 o 10) / 4)))) fun G6 =>
              some G6))
          else (
            some G))
        else (
          some G))))
set_option maxHeartbeats 4000000 in
set_option maxRecDepth 100000 in
theorem c_X0_browns (l : Launch) (V : VT) (o : Nat) (a1 : Int32) (a2 : Int32) (G : G_) (G' : G_) (hf : f_X0_browns o a1 a2 G = some G') : MC l V yX0_browns cX0_browns 3 none 0 0 [.ref (V.2.2.1 o), .int a1, .int a2] G none G' := by
  refine mc_of (by decide) (Nat.le_of_ble_eq_true rfl) (fun K hV ho hc hkl => ?_)
  subst hV
  replace hc : Ok K cX0_browns RX0 (Cond.code yX0_browns cX0_browns 3 none :: TB) none 0 0 3 := hc
  replace ho : Rets K none G' := ho
  show X K 0 [(0, .ref (kad K o)), (1, .int a1), (2, .int a2)] [] G
  unfold f_X0_browns at hf
  obtain ⟨k_o, hf⟩ := chk_ok hf
  refine x_iload_n hc 2 dX0_browns_0 rfl rfl ?_
  refine x_if_lt (tgt := 19) hc dX0_browns_1 rfl (fun c_1 => ?_) (fun c_1 => ?_)
  · replace hf := if_p hf c_1
    cases hf
    exact x_vret hc rfl ho dX0_browns_19
  · replace hf := if_n hf c_1
    refine x_iload_n hc 2 dX0_browns_4 rfl rfl ?_
    refine x_bipush (v := 20) hc rfl dX0_browns_5 ?_
    refine x_icmp_ge (tgt := 19) hc dX0_browns_7 rfl (fun c_7 => ?_) (fun c_7 => ?_)
    · replace hf := if_p hf c_7
      cases hf
      exact x_vret hc rfl ho dX0_browns_19
    · replace hf := if_n hf c_7
      refine x_iload_n hc 1 dX0_browns_10 rfl rfl ?_
      refine x_if_lt (tgt := 19) hc dX0_browns_11 rfl (fun c_11 => ?_) (fun c_11 => ?_)
      · replace hf := if_p hf c_11
        cases hf
        exact x_vret hc rfl ho dX0_browns_19
      · replace hf := if_n hf c_11
        refine x_iload_n hc 1 dX0_browns_14 rfl rfl ?_
        refine x_iconst (v := 1) hc rfl dX0_browns_15 ?_
        refine x_icmp_le (tgt := 20) hc dX0_browns_16 rfl (fun c_16 => ?_) (fun c_16 => ?_)
        · replace hf := if_p hf c_16
          refine x_aload_n hc 0 dX0_browns_20 rfl rfl ?_
          refine x_getR (T := TX0) (p0 := o) hc in_X0 rfl (by decide) (kdb k_o) 4 (by decide) tw_96 rfl rfl dX0_browns_21 ?_
          refine x_iload_n hc 1 dX0_browns_24 rfl rfl ?_
          obtain ⟨h1, hf⟩ := chk_ok hf
          refine x_iaload (p0 := o + 5) hc (sh_X0_wet (kdb k_o)).1 (sh_X0_wet (kdb k_o)).2 h1 dX0_browns_25 ?_
          refine x_if_ne (tgt := 70) hc dX0_browns_26 rfl (fun c_26 => ?_) (fun c_26 => ?_)
          · replace hf := if_n hf c_26
            cases hf
            exact x_vret hc rfl ho dX0_browns_70
          · replace hf := if_p hf c_26
            refine x_aload_n hc 0 dX0_browns_29 rfl rfl ?_
            refine x_getR (T := TX0) (p0 := o) hc in_X0 rfl (by decide) (kdb k_o) 0 (by decide) tw_92 rfl rfl dX0_browns_30 ?_
            refine x_iload_n hc 2 dX0_browns_33 rfl rfl ?_
            obtain ⟨h2, hf⟩ := chk_ok hf
            refine x_iaload (p0 := o + 1) hc (sh_X0_warmth (kdb k_o)).1 (sh_X0_warmth (kdb k_o)).2 h2 dX0_browns_34 ?_
            refine x_sipush (v := 1400) hc rfl dX0_browns_35 ?_
            refine x_icmp_lt (tgt := 70) hc dX0_browns_38 rfl (fun c_38 => ?_) (fun c_38 => ?_)
            · replace hf := if_p hf c_38
              cases hf
              exact x_vret hc rfl ho dX0_browns_70
            · replace hf := if_n hf c_38
              refine x_aload_n hc 0 dX0_browns_41 rfl rfl ?_
              refine x_getR (T := TX0) (p0 := o) hc in_X0 rfl (by decide) (kdb k_o) 5 (by decide) tw_97 rfl rfl dX0_browns_42 ?_
              refine x_iload_n hc 1 dX0_browns_45 rfl rfl ?_
              refine x_dup2 hc rfl rfl dX0_browns_46 ?_
              obtain ⟨h3, hf⟩ := chk_ok hf
              refine x_iaload (p0 := o + 6) hc (sh_X0_brown (kdb k_o)).1 (sh_X0_brown (kdb k_o)).2 h3 dX0_browns_47 ?_
              refine x_aload_n hc 0 dX0_browns_48 rfl rfl ?_
              refine x_getR (T := TX0) (p0 := o) hc in_X0 rfl (by decide) (kdb k_o) 0 (by decide) tw_92 rfl rfl dX0_browns_49 ?_
              refine x_iload_n hc 2 dX0_browns_52 rfl rfl ?_
              obtain ⟨h4, hf⟩ := chk_ok hf
              refine x_iaload (p0 := o + 1) hc (sh_X0_warmth (kdb k_o)).1 (sh_X0_warmth (kdb k_o)).2 h4 dX0_browns_53 ?_
              refine x_sipush (v := 1400) hc rfl dX0_browns_54 ?_
              refine x_isub hc dX0_browns_57 ?_
              refine x_bipush (v := 100) hc rfl dX0_browns_58 ?_
              refine x_idiv hc (by decide) dX0_browns_60 ?_
              refine x_aload_n hc 0 dX0_browns_61 rfl rfl ?_
              refine x_getI (T := TX0) (p0 := o) hc in_X0 rfl (by decide) (kdb k_o) 10 (by decide) tw_105 rfl rfl dX0_browns_62 ?_
              refine x_iconst (v := 4) hc rfl dX0_browns_65 ?_
              refine x_idiv hc (by decide) dX0_browns_66 ?_
              refine x_iadd hc dX0_browns_67 ?_
              refine x_iadd hc dX0_browns_68 ?_
              obtain ⟨h5, hf⟩ := chk_ok hf
              refine x_iastore (p0 := o + 6) hc (sh_X0_brown (kdb k_o)).1 (sh_X0_brown (kdb k_o)).2 h5 dX0_browns_69 ?_
              refine x_nmg (fun G6 e_G6 => ?_)
              replace hf := nm_ok hf G6 e_G6
              cases hf
              exact x_vret hc rfl ho dX0_browns_70
        · replace hf := if_n hf c_16
          cases hf
          exact x_vret hc rfl ho dX0_browns_19
def f_X0_middle (o : Nat) (G : G_) : Option Int32 :=
  chk (kd o == 0) <|
  some ((G.1 o 8) / 2)
set_option maxHeartbeats 4000000 in
set_option maxRecDepth 100000 in
theorem c_X0_middle (l : Launch) (V : VT) (o : Nat) (G : G_) (r : Int32) (hf : f_X0_middle o G = some r) : MC l V yX0_middle cX0_middle 1 (some .int) 0 0 [.ref (V.2.2.1 o)] G (some (.int r)) G := by
  refine mc_of (by decide) (Nat.le_of_ble_eq_true rfl) (fun K hV ho hc hkl => ?_)
  subst hV
  replace hc : Ok K cX0_middle RX0 (Cond.code yX0_middle cX0_middle 1 (some .int) :: TB) (some .int) 0 0 1 := hc
  replace ho : Rets K (some (.int r)) G := ho
  show X K 0 [(0, .ref (kad K o))] [] G
  unfold f_X0_middle at hf
  obtain ⟨k_o, hf⟩ := chk_ok hf
  refine x_aload_n hc 0 dX0_middle_0 rfl rfl ?_
  refine x_getI (T := TX0) (p0 := o) hc in_X0 rfl (by decide) (kdb k_o) 8 (by decide) tw_102 rfl rfl dX0_middle_1 ?_
  refine x_iconst (v := 2) hc rfl dX0_middle_4 ?_
  refine x_idiv hc (by decide) dX0_middle_5 ?_
  cases hf
  exact x_iret hc rfl ho dX0_middle_6
def f_X0_has (o : Nat) (a1 : Int32) (G : G_) : Option Int32 :=
  chk (kd o == 0) <|
  if a1 < 0 then (
    some 0)
  else (
    if G.1 o 8 ≤ a1 then (
      some 0)
    else (
      if 20 ≤ a1 then (
        some 0)
      else (
        some 1)))
set_option maxHeartbeats 4000000 in
set_option maxRecDepth 100000 in
theorem c_X0_has (l : Launch) (V : VT) (o : Nat) (a1 : Int32) (G : G_) (r : Int32) (hf : f_X0_has o a1 G = some r) : MC l V yX0_has cX0_has 2 (some .boolean) 0 0 [.ref (V.2.2.1 o), .int a1] G (some (.int r)) G := by
  refine mc_of (by decide) (Nat.le_of_ble_eq_true rfl) (fun K hV ho hc hkl => ?_)
  subst hV
  replace hc : Ok K cX0_has RX0 (Cond.code yX0_has cX0_has 2 (some .boolean) :: TB) (some .boolean) 0 0 2 := hc
  replace ho : Rets K (some (.int r)) G := ho
  show X K 0 [(0, .ref (kad K o)), (1, .int a1)] [] G
  unfold f_X0_has at hf
  obtain ⟨k_o, hf⟩ := chk_ok hf
  refine x_iload_n hc 1 dX0_has_0 rfl rfl ?_
  refine x_if_lt (tgt := 22) hc dX0_has_1 rfl (fun c_1 => ?_) (fun c_1 => ?_)
  · replace hf := if_p hf c_1
    refine x_iconst (v := 0) hc rfl dX0_has_22 ?_
    cases hf
    exact x_zret hc rfl rfl ho dX0_has_23
  · replace hf := if_n hf c_1
    refine x_iload_n hc 1 dX0_has_4 rfl rfl ?_
    refine x_aload_n hc 0 dX0_has_5 rfl rfl ?_
    refine x_getI (T := TX0) (p0 := o) hc in_X0 rfl (by decide) (kdb k_o) 8 (by decide) tw_102 rfl rfl dX0_has_6 ?_
    refine x_icmp_ge (tgt := 22) hc dX0_has_9 rfl (fun c_9 => ?_) (fun c_9 => ?_)
    · replace hf := if_p hf c_9
      refine x_iconst (v := 0) hc rfl dX0_has_22 ?_
      cases hf
      exact x_zret hc rfl rfl ho dX0_has_23
    · replace hf := if_n hf c_9
      refine x_iload_n hc 1 dX0_has_12 rfl rfl ?_
      refine x_bipush (v := 20) hc rfl dX0_has_13 ?_
      refine x_icmp_ge (tgt := 22) hc dX0_has_15 rfl (fun c_15 => ?_) (fun c_15 => ?_)
      · replace hf := if_p hf c_15
        refine x_iconst (v := 0) hc rfl dX0_has_22 ?_
        cases hf
        exact x_zret hc rfl rfl ho dX0_has_23
      · replace hf := if_n hf c_15
        refine x_iconst (v := 1) hc rfl dX0_has_18 ?_
        refine x_goto (tgt := 23) hc dX0_has_19 rfl ?_
        cases hf
        exact x_zret hc rfl rfl ho dX0_has_23
def f_X0_wetOf (o : Nat) (a1 : Int32) (G : G_) : Option Int32 :=
  chk (kd o == 0) <|
  if a1 < 0 then (
    some 0)
  else (
    if 2 ≤ a1 then (
      some 0)
    else (
      chk (inb a1 2) <|
      some (G.1 (o + 5) (ix a1))))
set_option maxHeartbeats 4000000 in
set_option maxRecDepth 100000 in
theorem c_X0_wetOf (l : Launch) (V : VT) (o : Nat) (a1 : Int32) (G : G_) (r : Int32) (hf : f_X0_wetOf o a1 G = some r) : MC l V yX0_wetOf cX0_wetOf 2 (some .int) 0 0 [.ref (V.2.2.1 o), .int a1] G (some (.int r)) G := by
  refine mc_of (by decide) (Nat.le_of_ble_eq_true rfl) (fun K hV ho hc hkl => ?_)
  subst hV
  replace hc : Ok K cX0_wetOf RX0 (Cond.code yX0_wetOf cX0_wetOf 2 (some .int) :: TB) (some .int) 0 0 2 := hc
  replace ho : Rets K (some (.int r)) G := ho
  show X K 0 [(0, .ref (kad K o)), (1, .int a1)] [] G
  unfold f_X0_wetOf at hf
  obtain ⟨k_o, hf⟩ := chk_ok hf
  refine x_iload_n hc 1 dX0_wetOf_0 rfl rfl ?_
  refine x_if_lt (tgt := 18) hc dX0_wetOf_1 rfl (fun c_1 => ?_) (fun c_1 => ?_)
  · replace hf := if_p hf c_1
    refine x_iconst (v := 0) hc rfl dX0_wetOf_18 ?_
    cases hf
    exact x_iret hc rfl ho dX0_wetOf_19
  · replace hf := if_n hf c_1
    refine x_iload_n hc 1 dX0_wetOf_4 rfl rfl ?_
    refine x_iconst (v := 2) hc rfl dX0_wetOf_5 ?_
    refine x_icmp_ge (tgt := 18) hc dX0_wetOf_6 rfl (fun c_6 => ?_) (fun c_6 => ?_)
    · replace hf := if_p hf c_6
      refine x_iconst (v := 0) hc rfl dX0_wetOf_18 ?_
      cases hf
      exact x_iret hc rfl ho dX0_wetOf_19
    · replace hf := if_n hf c_6
      refine x_aload_n hc 0 dX0_wetOf_9 rfl rfl ?_
      refine x_getR (T := TX0) (p0 := o) hc in_X0 rfl (by decide) (kdb k_o) 4 (by decide) tw_96 rfl rfl dX0_wetOf_10 ?_
      refine x_iload_n hc 1 dX0_wetOf_13 rfl rfl ?_
      obtain ⟨h1, hf⟩ := chk_ok hf
      refine x_iaload (p0 := o + 5) hc (sh_X0_wet (kdb k_o)).1 (sh_X0_wet (kdb k_o)).2 h1 dX0_wetOf_14 ?_
      refine x_goto (tgt := 19) hc dX0_wetOf_15 rfl ?_
      cases hf
      exact x_iret hc rfl ho dX0_wetOf_19
def f_X0_brownOf (o : Nat) (a1 : Int32) (G : G_) : Option Int32 :=
  chk (kd o == 0) <|
  if a1 < 0 then (
    some 0)
  else (
    if 2 ≤ a1 then (
      some 0)
    else (
      chk (inb a1 2) <|
      some (G.1 (o + 6) (ix a1))))
set_option maxHeartbeats 4000000 in
set_option maxRecDepth 100000 in
theorem c_X0_brownOf (l : Launch) (V : VT) (o : Nat) (a1 : Int32) (G : G_) (r : Int32) (hf : f_X0_brownOf o a1 G = some r) : MC l V yX0_brownOf cX0_brownOf 2 (some .int) 0 0 [.ref (V.2.2.1 o), .int a1] G (some (.int r)) G := by
  refine mc_of (by decide) (Nat.le_of_ble_eq_true rfl) (fun K hV ho hc hkl => ?_)
  subst hV
  replace hc : Ok K cX0_brownOf RX0 (Cond.code yX0_brownOf cX0_brownOf 2 (some .int) :: TB) (some .int) 0 0 2 := hc
  replace ho : Rets K (some (.int r)) G := ho
  show X K 0 [(0, .ref (kad K o)), (1, .int a1)] [] G
  unfold f_X0_brownOf at hf
  obtain ⟨k_o, hf⟩ := chk_ok hf
  refine x_iload_n hc 1 dX0_brownOf_0 rfl rfl ?_
  refine x_if_lt (tgt := 18) hc dX0_brownOf_1 rfl (fun c_1 => ?_) (fun c_1 => ?_)
  · replace hf := if_p hf c_1
    refine x_iconst (v := 0) hc rfl dX0_brownOf_18 ?_
    cases hf
    exact x_iret hc rfl ho dX0_brownOf_19
  · replace hf := if_n hf c_1
    refine x_iload_n hc 1 dX0_brownOf_4 rfl rfl ?_
    refine x_iconst (v := 2) hc rfl dX0_brownOf_5 ?_
    refine x_icmp_ge (tgt := 18) hc dX0_brownOf_6 rfl (fun c_6 => ?_) (fun c_6 => ?_)
    · replace hf := if_p hf c_6
      refine x_iconst (v := 0) hc rfl dX0_brownOf_18 ?_
      cases hf
      exact x_iret hc rfl ho dX0_brownOf_19
    · replace hf := if_n hf c_6
      refine x_aload_n hc 0 dX0_brownOf_9 rfl rfl ?_
      refine x_getR (T := TX0) (p0 := o) hc in_X0 rfl (by decide) (kdb k_o) 5 (by decide) tw_97 rfl rfl dX0_brownOf_10 ?_
      refine x_iload_n hc 1 dX0_brownOf_13 rfl rfl ?_
      obtain ⟨h1, hf⟩ := chk_ok hf
      refine x_iaload (p0 := o + 6) hc (sh_X0_brown (kdb k_o)).1 (sh_X0_brown (kdb k_o)).2 h1 dX0_brownOf_14 ?_
      refine x_goto (tgt := 19) hc dX0_brownOf_15 rfl ?_
      cases hf
      exact x_iret hc rfl ho dX0_brownOf_19
def f_X0_begin_l30_6 (o : Nat) (a1 : Nat) (a3 : Int32) : Nat → Int32 → G_ → Option (G_)
  | 0, _, _ => none
  | n6 + 1, v4, G5 =>
    if 20 ≤ v4 then (
      some (G5))
    else (
      chk (inb v4 20) <|
      nm (sI G5 (o + 1) (ix v4) (10 * (G5.1 a1 2))) fun G8 =>
      chk (inb v4 20) <|
      nm (sI G8 (o + 3) (ix v4) (10 * (G8.1 a1 2))) fun G10 =>
      chk (inb v4 20) <|
      nm (sI G10 (o + 4) (ix v4) 100) fun G12 =>
      f_X0_begin_l30_6 o a1 a3 n6 (v4 + 1) G12)
def f_X0_begin_l83_16 (o : Nat) (a3 : Int32) : Nat → Int32 → G_ → Option (G_)
  | 0, _, _ => none
  | n16 + 1, v14, G15 =>
    if 2 ≤ v14 then (
      some (G15))
    else (
      bj1 (
        if 10 < a3 then (
          some (mx (50 - a3) 0))
        else (
          some (20 + (2 * a3)))) fun (x18 : Int32) =>
      chk (inb v14 2) <|
      nm (sI G15 (o + 5) (ix v14) x18) fun G20 =>
      chk (inb v14 2) <|
      nm (sI G20 (o + 6) (ix v14) 0) fun G22 =>
      f_X0_begin_l83_16 o a3 n16 (v14 + 1) G22)
def f_X0_begin (o : Nat) (a1 : Nat) (a2 : Int32) (a3 : Int32) (G : G_) : Option G_ :=
  chk (kd o == 0) <|
  chk (kd a1 == 5) <|
  nm (sI G o 8 (mx 3 (mn a2 20))) fun G1 =>
  nm (sI G1 o 9 a3) fun G2 =>
  nm (sI G2 o 10 (G2.1 a1 4)) fun G3 =>
  bj1 (f_X0_begin_l30_6 o a1 a3 FU 0 G3) fun G13 =>
  bj1 (f_X0_begin_l83_16 o a3 FU 0 G13) fun G23 =>
  bj1 (f_X2_begin (o + 7) G23) fun G24 =>
  nm (sI G24 o 11 0) fun G26 =>
  nm (sI G26 o 12 0) fun G27 =>
  nm (sI G27 o 13 0) fun G28 =>
  nm (sI G28 o 14 0) fun G29 =>
  nm (sI G29 o 15 0) fun G30 =>
  nm (sI G30 o 16 0) fun G31 =>
  some G31
set_option maxHeartbeats 4000000 in
set_option maxRecDepth 100000 in
theorem c_X0_begin_l30_6 {K : CT} (o : Nat) (a1 : Nat) (a3 : Int32) (hc : Ok K cX0_begin RX0 (Cond.code yX0_begin cX0_begin 5 none :: TB) none 1 21 5) (k_o : (kd o == 0) = true) (k_a1 : (kd a1 == 5) = true) : ∀ (n6 : Nat) (v4 : Int32) (G5 : G_) (G13 : G_), f_X0_begin_l30_6 o a1 a3 n6 v4 G5 = some (G13) → X K 80 [(0, .ref (kad K o)), (3, .int a3)] [] G13 → X K 30 [(0, .ref (kad K o)), (1, .ref (kad K a1)), (3, .int a3), (4, .int v4)] [] G5 := by
  intro n6
  induction n6 with
  | zero =>
    intro v4 G5 G13 hf hk
    cases hf
  | succ n6 ih =>
    intro v4 G5 G13 hf hk
    unfold f_X0_begin_l30_6 at hf
    refine x_iload hc 3 dX0_begin_30 rfl ?_
    refine x_bipush (v := 20) hc rfl dX0_begin_32 ?_
    refine x_icmp_ge (tgt := 80) hc dX0_begin_34 rfl (fun c_34 => ?_) (fun c_34 => ?_)
    · replace hf := if_p hf c_34
      cases hf
      exact x_sub [0, 2] hk rfl
    · replace hf := if_n hf c_34
      refine x_aload_n hc 0 dX0_begin_37 rfl rfl ?_
      refine x_getR (T := TX0) (p0 := o) hc in_X0 rfl (by decide) (kdb k_o) 0 (by decide) tw_92 rfl rfl dX0_begin_38 ?_
      refine x_iload hc 3 dX0_begin_41 rfl ?_
      refine x_bipush (v := 10) hc rfl dX0_begin_43 ?_
      refine x_aload_n hc 1 dX0_begin_45 rfl rfl ?_
      refine x_getI (T := TX5) (p0 := a1) hc in_X5 rfl (by decide) (kdb k_a1) 2 (by decide) tw_175 rfl rfl dX0_begin_46 ?_
      refine x_imul hc dX0_begin_49 ?_
      obtain ⟨h7, hf⟩ := chk_ok hf
      refine x_iastore (p0 := o + 1) hc (sh_X0_warmth (kdb k_o)).1 (sh_X0_warmth (kdb k_o)).2 h7 dX0_begin_50 ?_
      refine x_nmg (fun G8 e_G8 => ?_)
      replace hf := nm_ok hf G8 e_G8
      refine x_aload_n hc 0 dX0_begin_51 rfl rfl ?_
      refine x_getR (T := TX0) (p0 := o) hc in_X0 rfl (by decide) (kdb k_o) 2 (by decide) tw_94 rfl rfl dX0_begin_52 ?_
      refine x_iload hc 3 dX0_begin_55 rfl ?_
      refine x_bipush (v := 10) hc rfl dX0_begin_57 ?_
      refine x_aload_n hc 1 dX0_begin_59 rfl rfl ?_
      refine x_getI (T := TX5) (p0 := a1) hc in_X5 rfl (by decide) (kdb k_a1) 2 (by decide) tw_175 rfl rfl dX0_begin_60 ?_
      refine x_imul hc dX0_begin_63 ?_
      obtain ⟨h9, hf⟩ := chk_ok hf
      refine x_iastore (p0 := o + 3) hc (sh_X0_most (kdb k_o)).1 (sh_X0_most (kdb k_o)).2 h9 dX0_begin_64 ?_
      refine x_nmg (fun G10 e_G10 => ?_)
      replace hf := nm_ok hf G10 e_G10
      refine x_aload_n hc 0 dX0_begin_65 rfl rfl ?_
      refine x_getR (T := TX0) (p0 := o) hc in_X0 rfl (by decide) (kdb k_o) 3 (by decide) tw_95 rfl rfl dX0_begin_66 ?_
      refine x_iload hc 3 dX0_begin_69 rfl ?_
      refine x_bipush (v := 100) hc rfl dX0_begin_71 ?_
      obtain ⟨h11, hf⟩ := chk_ok hf
      refine x_iastore (p0 := o + 4) hc (sh_X0_juice (kdb k_o)).1 (sh_X0_juice (kdb k_o)).2 h11 dX0_begin_73 ?_
      refine x_nmg (fun G12 e_G12 => ?_)
      replace hf := nm_ok hf G12 e_G12
      refine x_iinc (v := v4 + 1) (L' := [(0, .ref (kad K o)), (1, .ref (kad K a1)), (3, .int a3), (4, .int (v4 + 1))]) hc 3 [1, 2, 3, 0] dX0_begin_74 rfl rfl (by decide) rfl ?_
      refine x_goto (tgt := 30) hc dX0_begin_77 rfl ?_
      exact x_sub [0, 1, 2, 3] (ih _ _ _ hf hk) rfl
set_option maxHeartbeats 4000000 in
set_option maxRecDepth 100000 in
theorem c_X0_begin_l83_16 {K : CT} (o : Nat) (a3 : Int32) (hc : Ok K cX0_begin RX0 (Cond.code yX0_begin cX0_begin 5 none :: TB) none 1 21 5) (k_o : (kd o == 0) = true) : ∀ (n16 : Nat) (v14 : Int32) (G15 : G_) (G23 : G_), f_X0_begin_l83_16 o a3 n16 v14 G15 = some (G23) → X K 133 [(0, .ref (kad K o))] [] G23 → X K 83 [(0, .ref (kad K o)), (3, .int a3), (4, .int v14)] [] G15 := by
  intro n16
  induction n16 with
  | zero =>
    intro v14 G15 G23 hf hk
    cases hf
  | succ n16 ih =>
    intro v14 G15 G23 hf hk
    unfold f_X0_begin_l83_16 at hf
    refine x_iload hc 2 dX0_begin_83 rfl ?_
    refine x_iconst (v := 2) hc rfl dX0_begin_85 ?_
    refine x_icmp_ge (tgt := 133) hc dX0_begin_86 rfl (fun c_86 => ?_) (fun c_86 => ?_)
    · replace hf := if_p hf c_86
      cases hf
      exact x_sub [0] hk rfl
    · replace hf := if_n hf c_86
      refine x_aload_n hc 0 dX0_begin_89 rfl rfl ?_
      refine x_getR (T := TX0) (p0 := o) hc in_X0 rfl (by decide) (kdb k_o) 4 (by decide) tw_96 rfl rfl dX0_begin_90 ?_
      refine x_iload hc 2 dX0_begin_93 rfl ?_
      refine x_iload_n hc 1 dX0_begin_95 rfl rfl ?_
      refine x_bipush (v := 10) hc rfl dX0_begin_96 ?_
      obtain ⟨x18, hr, hf⟩ := bj1_ok hf
      have hj_118_17 : X K 118 [(0, .ref (kad K o)), (3, .int a3), (4, .int v14)] [.int x18, .int v14, .ref (kad K (o + 5))] G15 := by
        clear hr
        obtain ⟨h19, hf⟩ := chk_ok hf
        refine x_iastore (p0 := o + 5) hc (sh_X0_wet (kdb k_o)).1 (sh_X0_wet (kdb k_o)).2 h19 dX0_begin_118 ?_
        refine x_nmg (fun G20 e_G20 => ?_)
        replace hf := nm_ok hf G20 e_G20
        refine x_aload_n hc 0 dX0_begin_119 rfl rfl ?_
        refine x_getR (T := TX0) (p0 := o) hc in_X0 rfl (by decide) (kdb k_o) 5 (by decide) tw_97 rfl rfl dX0_begin_120 ?_
        refine x_iload hc 2 dX0_begin_123 rfl ?_
        refine x_iconst (v := 0) hc rfl dX0_begin_125 ?_
        obtain ⟨h21, hf⟩ := chk_ok hf
        refine x_iastore (p0 := o + 6) hc (sh_X0_brown (kdb k_o)).1 (sh_X0_brown (kdb k_o)).2 h21 dX0_begin_126 ?_
        refine x_nmg (fun G22 e_G22 => ?_)
        replace hf := nm_ok hf G22 e_G22
        refine x_iinc (v := v14 + 1) (L' := [(0, .ref (kad K o)), (3, .int a3), (4, .int (v14 + 1))]) hc 2 [1, 2, 0] dX0_begin_127 rfl rfl (by decide) rfl ?_
        refine x_goto (tgt := 83) hc dX0_begin_130 rfl ?_
        exact x_sub [0, 1, 2] (ih _ _ _ hf hk) rfl
      replace hf := hr
      clear hr
      refine x_icmp_gt (tgt := 110) hc dX0_begin_98 rfl (fun c_98 => ?_) (fun c_98 => ?_)
      · replace hf := if_p hf c_98
        refine x_bipush (v := 50) hc rfl dX0_begin_110 ?_
        refine x_iload_n hc 1 dX0_begin_112 rfl rfl ?_
        refine x_isub hc dX0_begin_113 ?_
        refine x_iconst (v := 0) hc rfl dX0_begin_114 ?_
        refine x_mmax hc tw_393 tw_394 tw_36 tw_395 (Nat.le_of_ble_eq_true rfl) (Nat.le_of_ble_eq_true rfl) dX0_begin_115 ?_
        cases hf
        exact x_sub [0, 1, 2] hj_118_17 rfl
      · replace hf := if_n hf c_98
        refine x_bipush (v := 20) hc rfl dX0_begin_101 ?_
        refine x_iconst (v := 2) hc rfl dX0_begin_103 ?_
        refine x_iload_n hc 1 dX0_begin_104 rfl rfl ?_
        refine x_imul hc dX0_begin_105 ?_
        refine x_iadd hc dX0_begin_106 ?_
        refine x_goto (tgt := 118) hc dX0_begin_107 rfl ?_
        cases hf
        exact x_sub [0, 1, 2] hj_118_17 rfl
set_option maxHeartbeats 4000000 in
set_option maxRecDepth 100000 in
theorem c_X0_begin (l : Launch) (V : VT) (o : Nat) (a1 : Nat) (a2 : Int32) (a3 : Int32) (G : G_) (G' : G_) (hf : f_X0_begin o a1 a2 a3 G = some G') : MC l V yX0_begin cX0_begin 5 none 1 21 [.ref (V.2.2.1 o), .ref (V.2.2.1 a1), .int a2, .int a3] G none G' := by
  refine mc_of (by decide) (Nat.le_of_ble_eq_true rfl) (fun K hV ho hc hkl => ?_)
  subst hV
  replace hc : Ok K cX0_begin RX0 (Cond.code yX0_begin cX0_begin 5 none :: TB) none 1 21 5 := hc
  replace ho : Rets K none G' := ho
  show X K 0 [(0, .ref (kad K o)), (1, .ref (kad K a1)), (2, .int a2), (3, .int a3)] [] G
  unfold f_X0_begin at hf
  obtain ⟨k_o, hf⟩ := chk_ok hf
  obtain ⟨k_a1, hf⟩ := chk_ok hf
  refine x_aload_n hc 0 dX0_begin_0 rfl rfl ?_
  refine x_iconst (v := 3) hc rfl dX0_begin_1 ?_
  refine x_iload_n hc 2 dX0_begin_2 rfl rfl ?_
  refine x_bipush (v := 20) hc rfl dX0_begin_3 ?_
  refine x_mmin hc tw_390 tw_391 tw_36 tw_392 (Nat.le_of_ble_eq_true rfl) (Nat.le_of_ble_eq_true rfl) dX0_begin_5 ?_
  refine x_mmax hc tw_393 tw_394 tw_36 tw_395 (Nat.le_of_ble_eq_true rfl) (Nat.le_of_ble_eq_true rfl) dX0_begin_8 ?_
  refine x_putI (T := TX0) (p0 := o) hc tyX0 tyX0_ok nmX0 in_X0 rfl (by decide) (kdb k_o) 8 (by decide) tw_102 rfl rfl rfl (by decide +kernel) dX0_begin_11 ?_
  refine x_nmg (fun G1 e_G1 => ?_)
  replace hf := nm_ok hf G1 e_G1
  refine x_aload_n hc 0 dX0_begin_14 rfl rfl ?_
  refine x_iload_n hc 3 dX0_begin_15 rfl rfl ?_
  refine x_putI (T := TX0) (p0 := o) hc tyX0 tyX0_ok nmX0 in_X0 rfl (by decide) (kdb k_o) 9 (by decide) tw_104 rfl rfl rfl (by decide +kernel) dX0_begin_16 ?_
  refine x_nmg (fun G2 e_G2 => ?_)
  replace hf := nm_ok hf G2 e_G2
  refine x_aload_n hc 0 dX0_begin_19 rfl rfl ?_
  refine x_aload_n hc 1 dX0_begin_20 rfl rfl ?_
  refine x_getI (T := TX5) (p0 := a1) hc in_X5 rfl (by decide) (kdb k_a1) 4 (by decide) tw_181 rfl rfl dX0_begin_21 ?_
  refine x_putI (T := TX0) (p0 := o) hc tyX0 tyX0_ok nmX0 in_X0 rfl (by decide) (kdb k_o) 10 (by decide) tw_105 rfl rfl rfl (by decide +kernel) dX0_begin_24 ?_
  refine x_nmg (fun G3 e_G3 => ?_)
  replace hf := nm_ok hf G3 e_G3
  refine x_iconst (v := 0) hc rfl dX0_begin_27 ?_
  refine x_istore (L' := [(0, .ref (kad K o)), (1, .ref (kad K a1)), (3, .int a3), (4, .int 0)]) hc [1, 2, 4, 0] dX0_begin_28 (by decide) rfl ?_
  obtain ⟨G13, hl_30, hf⟩ := bj1_ok hf
  have he_80_n6 : X K 80 [(0, .ref (kad K o)), (3, .int a3)] [] G13 := by
    clear hl_30
    refine x_iconst (v := 0) hc rfl dX0_begin_80 ?_
    refine x_istore (L' := [(0, .ref (kad K o)), (3, .int a3), (4, .int 0)]) hc [1, 2, 0] dX0_begin_81 (by decide) rfl ?_
    obtain ⟨G23, hl_83, hf⟩ := bj1_ok hf
    have he_133_n16 : X K 133 [(0, .ref (kad K o))] [] G23 := by
      clear hl_83
      refine x_aload_n hc 0 dX0_begin_133 rfl rfl ?_
      refine x_getR (T := TX0) (p0 := o) hc in_X0 rfl (by decide) (kdb k_o) 6 (by decide) tw_98 rfl rfl dX0_begin_134 ?_
      obtain ⟨G24, r25, hf⟩ := bj1_ok hf
      refine x_callVv (As := []) (p0 := o + 7) (T := TX2) hc (c_X2_begin (kl K) (kV K) (o + 7) G23 G24 r25) mw_X2_begin tw_396 (sh_X0_plan (kdb k_o)) (by decide) rfl rfl (Nat.le_of_ble_eq_true rfl) ⟨Nat.le_of_ble_eq_true rfl, Nat.le_of_ble_eq_true rfl⟩ dX0_begin_137 rfl ?_
      refine x_aload_n hc 0 dX0_begin_140 rfl rfl ?_
      refine x_iconst (v := 0) hc rfl dX0_begin_141 ?_
      refine x_putI (T := TX0) (p0 := o) hc tyX0 tyX0_ok nmX0 in_X0 rfl (by decide) (kdb k_o) 11 (by decide) tw_106 rfl rfl rfl (by decide +kernel) dX0_begin_142 ?_
      refine x_nmg (fun G26 e_G26 => ?_)
      replace hf := nm_ok hf G26 e_G26
      refine x_aload_n hc 0 dX0_begin_145 rfl rfl ?_
      refine x_iconst (v := 0) hc rfl dX0_begin_146 ?_
      refine x_putI (T := TX0) (p0 := o) hc tyX0 tyX0_ok nmX0 in_X0 rfl (by decide) (kdb k_o) 12 (by decide) tw_107 rfl rfl rfl (by decide +kernel) dX0_begin_147 ?_
      refine x_nmg (fun G27 e_G27 => ?_)
      replace hf := nm_ok hf G27 e_G27
      refine x_aload_n hc 0 dX0_begin_150 rfl rfl ?_
      refine x_iconst (v := 0) hc rfl dX0_begin_151 ?_
      refine x_putI (T := TX0) (p0 := o) hc tyX0 tyX0_ok nmX0 in_X0 rfl (by decide) (kdb k_o) 13 (by decide) tw_109 rfl rfl rfl (by decide +kernel) dX0_begin_152 ?_
      refine x_nmg (fun G28 e_G28 => ?_)
      replace hf := nm_ok hf G28 e_G28
      refine x_aload_n hc 0 dX0_begin_155 rfl rfl ?_
      refine x_iconst (v := 0) hc rfl dX0_begin_156 ?_
      refine x_putI (T := TX0) (p0 := o) hc tyX0 tyX0_ok nmX0 in_X0 rfl (by decide) (kdb k_o) 14 (by decide) tw_110 rfl rfl rfl (by decide +kernel) dX0_begin_157 ?_
      refine x_nmg (fun G29 e_G29 => ?_)
      replace hf := nm_ok hf G29 e_G29
      refine x_aload_n hc 0 dX0_begin_160 rfl rfl ?_
      refine x_iconst (v := 0) hc rfl dX0_begin_161 ?_
      refine x_putI (T := TX0) (p0 := o) hc tyX0 tyX0_ok nmX0 in_X0 rfl (by decide) (kdb k_o) 15 (by decide) tw_111 rfl rfl rfl (by decide +kernel) dX0_begin_162 ?_
      refine x_nmg (fun G30 e_G30 => ?_)
      replace hf := nm_ok hf G30 e_G30
      refine x_aload_n hc 0 dX0_begin_165 rfl rfl ?_
      refine x_iconst (v := 0) hc rfl dX0_begin_166 ?_
      refine x_putI (T := TX0) (p0 := o) hc tyX0 tyX0_ok nmX0 in_X0 rfl (by decide) (kdb k_o) 16 (by decide) tw_112 rfl rfl rfl (by decide +kernel) dX0_begin_167 ?_
      refine x_nmg (fun G31 e_G31 => ?_)
      replace hf := nm_ok hf G31 e_G31
      cases hf
      exact x_vret hc rfl ho dX0_begin_170
    exact x_sub [0, 1, 2] (c_X0_begin_l83_16 o a3 hc k_o FU 0 G13 G23 hl_83 he_133_n16) rfl
  exact x_sub [0, 1, 2, 3] (c_X0_begin_l30_6 o a1 a3 hc k_o k_a1 FU 0 G3 G13 hl_30 he_80_n6) rfl
def f_X0_spread_l22_3 (o : Nat) (a1 : Int32) (a2 : Int32) (G : G_) : Nat → Int32 → G_ → Option (G_)
  | 0, _, _ => none
  | n3 + 1, v1, G2 =>
    if (G.1 o 8) - 1 ≤ v1 then (
      some (G2))
    else (
      chk (inb v1 20) <|
      chk (inb (v1 - 1) 20) <|
      chk (inb (v1 + 1) 20) <|
      chk (inb v1 20) <|
      chk (inb v1 20) <|
      nm (sI G2 (o + 2) (ix v1) ((G2.1 (o + 1) (ix v1)) + ((((G2.1 (o + 1) (ix (v1 - 1))) + (G2.1 (o + 1) (ix (v1 + 1)))) - (2 * (G2.1 (o + 1) (ix v1)))) / 4))) fun G9 =>
      f_X0_spread_l22_3 o a1 a2 G n3 (v1 + 1) G9)
def f_X0_spread_l190_33 (o : Nat) (G : G_) : Nat → Int32 → G_ → Option (G_)
  | 0, _, _ => none
  | n33 + 1, v31, G32 =>
    if (G.1 o 8) - 1 < v31 then (
      some (G32))
    else (
      chk (inb v31 20) <|
      chk (inb v31 20) <|
      nm (sI G32 (o + 1) (ix v31) (G32.1 (o + 2) (ix v31))) fun G36 =>
      f_X0_spread_l190_33 o G n33 (v31 + 1) G36)
def f_X0_spread (o : Nat) (a1 : Int32) (a2 : Int32) (G : G_) : Option G_ :=
  chk (kd o == 0) <|
  if (G.1 o 8) - 1 < 1 then (
    some G)
  else (
    if (G.1 o 8) - 1 < 20 then (
      bj1 (f_X0_spread_l22_3 o a1 a2 G FU 1 G) fun G10 =>
      chk (inb 0 20) <|
      chk (inb 1 20) <|
      chk (inb 0 20) <|
      bj1 (
        if G10.1 o 11 = 0 then (
          some (1))
        else (
          some (0))) fun (x15 : Int32) =>
      chk (inb 0 20) <|
      bj1 (f_X0_fromOutside a1 a2 x15 (G10.1 (o + 1) (ix 0))) fun x17 =>
      chk (inb 0 20) <|
      nm (sI G10 (o + 2) (ix 0) (((G10.1 (o + 1) (ix 0)) + (((G10.1 (o + 1) (ix 1)) - (G10.1 (o + 1) (ix 0))) / 4)) + x17)) fun G20 =>
      chk (inb ((G.1 o 8) - 1) 20) <|
      chk (inb (((G.1 o 8) - 1) - 1) 20) <|
      chk (inb ((G.1 o 8) - 1) 20) <|
      bj1 (
        if G20.1 o 11 = 1 then (
          some (1))
        else (
          some (0))) fun (x25 : Int32) =>
      chk (inb ((G.1 o 8) - 1) 20) <|
      bj1 (f_X0_fromOutside a1 a2 x25 (G20.1 (o + 1) (ix ((G.1 o 8) - 1)))) fun x27 =>
      chk (inb ((G.1 o 8) - 1) 20) <|
      nm (sI G20 (o + 2) (ix ((G.1 o 8) - 1)) (((G20.1 (o + 1) (ix ((G.1 o 8) - 1))) + (((G20.1 (o + 1) (ix (((G.1 o 8) - 1) - 1))) - (G20.1 (o + 1) (ix ((G.1 o 8) - 1)))) / 4)) + x27)) fun G30 =>
      bj1 (f_X0_spread_l190_33 o G FU 0 G30) fun G37 =>
      some G37)
    else (
      some G))
set_option maxHeartbeats 4000000 in
set_option maxRecDepth 100000 in
theorem c_X0_spread_l22_3 {K : CT} (o : Nat) (a1 : Int32) (a2 : Int32) (G : G_) (hc : Ok K cX0_spread RX0 (Cond.code yX0_spread cX0_spread 5 none :: TB) none 1 23 5) (k_o : (kd o == 0) = true) : ∀ (n3 : Nat) (v1 : Int32) (G2 : G_) (G10 : G_), f_X0_spread_l22_3 o a1 a2 G n3 v1 G2 = some (G10) → X K 80 [(0, .ref (kad K o)), (1, .int a1), (2, .int a2), (3, .int ((G.1 o 8) - 1))] [] G10 → X K 22 [(0, .ref (kad K o)), (1, .int a1), (2, .int a2), (3, .int ((G.1 o 8) - 1)), (4, .int v1)] [] G2 := by
  intro n3
  induction n3 with
  | zero =>
    intro v1 G2 G10 hf hk
    cases hf
  | succ n3 ih =>
    intro v1 G2 G10 hf hk
    unfold f_X0_spread_l22_3 at hf
    refine x_iload hc 4 dX0_spread_22 rfl ?_
    refine x_iload_n hc 3 dX0_spread_24 rfl rfl ?_
    refine x_icmp_ge (tgt := 80) hc dX0_spread_25 rfl (fun c_25 => ?_) (fun c_25 => ?_)
    · replace hf := if_p hf c_25
      cases hf
      exact x_sub [0, 1, 2, 3] hk rfl
    · replace hf := if_n hf c_25
      refine x_aload_n hc 0 dX0_spread_28 rfl rfl ?_
      refine x_getR (T := TX0) (p0 := o) hc in_X0 rfl (by decide) (kdb k_o) 1 (by decide) tw_93 rfl rfl dX0_spread_29 ?_
      refine x_iload hc 4 dX0_spread_32 rfl ?_
      refine x_aload_n hc 0 dX0_spread_34 rfl rfl ?_
      refine x_getR (T := TX0) (p0 := o) hc in_X0 rfl (by decide) (kdb k_o) 0 (by decide) tw_92 rfl rfl dX0_spread_35 ?_
      refine x_iload hc 4 dX0_spread_38 rfl ?_
      obtain ⟨h4, hf⟩ := chk_ok hf
      refine x_iaload (p0 := o + 1) hc (sh_X0_warmth (kdb k_o)).1 (sh_X0_warmth (kdb k_o)).2 h4 dX0_spread_40 ?_
      refine x_aload_n hc 0 dX0_spread_41 rfl rfl ?_
      refine x_getR (T := TX0) (p0 := o) hc in_X0 rfl (by decide) (kdb k_o) 0 (by decide) tw_92 rfl rfl dX0_spread_42 ?_
      refine x_iload hc 4 dX0_spread_45 rfl ?_
      refine x_iconst (v := 1) hc rfl dX0_spread_47 ?_
      refine x_isub hc dX0_spread_48 ?_
      obtain ⟨h5, hf⟩ := chk_ok hf
      refine x_iaload (p0 := o + 1) hc (sh_X0_warmth (kdb k_o)).1 (sh_X0_warmth (kdb k_o)).2 h5 dX0_spread_49 ?_
      refine x_aload_n hc 0 dX0_spread_50 rfl rfl ?_
      refine x_getR (T := TX0) (p0 := o) hc in_X0 rfl (by decide) (kdb k_o) 0 (by decide) tw_92 rfl rfl dX0_spread_51 ?_
      refine x_iload hc 4 dX0_spread_54 rfl ?_
      refine x_iconst (v := 1) hc rfl dX0_spread_56 ?_
      refine x_iadd hc dX0_spread_57 ?_
      obtain ⟨h6, hf⟩ := chk_ok hf
      refine x_iaload (p0 := o + 1) hc (sh_X0_warmth (kdb k_o)).1 (sh_X0_warmth (kdb k_o)).2 h6 dX0_spread_58 ?_
      refine x_iadd hc dX0_spread_59 ?_
      refine x_iconst (v := 2) hc rfl dX0_spread_60 ?_
      refine x_aload_n hc 0 dX0_spread_61 rfl rfl ?_
      refine x_getR (T := TX0) (p0 := o) hc in_X0 rfl (by decide) (kdb k_o) 0 (by decide) tw_92 rfl rfl dX0_spread_62 ?_
      refine x_iload hc 4 dX0_spread_65 rfl ?_
      obtain ⟨h7, hf⟩ := chk_ok hf
      refine x_iaload (p0 := o + 1) hc (sh_X0_warmth (kdb k_o)).1 (sh_X0_warmth (kdb k_o)).2 h7 dX0_spread_67 ?_
      refine x_imul hc dX0_spread_68 ?_
      refine x_isub hc dX0_spread_69 ?_
      refine x_iconst (v := 4) hc rfl dX0_spread_70 ?_
      refine x_idiv hc (by decide) dX0_spread_71 ?_
      refine x_iadd hc dX0_spread_72 ?_
      obtain ⟨h8, hf⟩ := chk_ok hf
      refine x_iastore (p0 := o + 2) hc (sh_X0_next (kdb k_o)).1 (sh_X0_next (kdb k_o)).2 h8 dX0_spread_73 ?_
      refine x_nmg (fun G9 e_G9 => ?_)
      replace hf := nm_ok hf G9 e_G9
      refine x_iinc (v := v1 + 1) (L' := [(0, .ref (kad K o)), (1, .int a1), (2, .int a2), (3, .int ((G.1 o 8) - 1)), (4, .int (v1 + 1))]) hc 4 [1, 2, 3, 4, 0] dX0_spread_74 rfl rfl (by decide) rfl ?_
      refine x_goto (tgt := 22) hc dX0_spread_77 rfl ?_
      exact x_sub [0, 1, 2, 3, 4] (ih _ _ _ hf hk) rfl
set_option maxHeartbeats 4000000 in
set_option maxRecDepth 100000 in
theorem c_X0_spread_l190_33 {K : CT} (o : Nat) (G : G_) (hc : Ok K cX0_spread RX0 (Cond.code yX0_spread cX0_spread 5 none :: TB) none 1 23 5) (k_o : (kd o == 0) = true) : ∀ (n33 : Nat) (v31 : Int32) (G32 : G_) (G37 : G_), f_X0_spread_l190_33 o G n33 v31 G32 = some (G37) → X K 216 [] [] G37 → X K 190 [(0, .ref (kad K o)), (3, .int ((G.1 o 8) - 1)), (4, .int v31)] [] G32 := by
  intro n33
  induction n33 with
  | zero =>
    intro v31 G32 G37 hf hk
    cases hf
  | succ n33 ih =>
    intro v31 G32 G37 hf hk
    unfold f_X0_spread_l190_33 at hf
    refine x_iload hc 2 dX0_spread_190 rfl ?_
    refine x_iload_n hc 1 dX0_spread_192 rfl rfl ?_
    refine x_icmp_gt (tgt := 216) hc dX0_spread_193 rfl (fun c_193 => ?_) (fun c_193 => ?_)
    · replace hf := if_p hf c_193
      cases hf
      exact x_sub [] hk rfl
    · replace hf := if_n hf c_193
      refine x_aload_n hc 0 dX0_spread_196 rfl rfl ?_
      refine x_getR (T := TX0) (p0 := o) hc in_X0 rfl (by decide) (kdb k_o) 0 (by decide) tw_92 rfl rfl dX0_spread_197 ?_
      refine x_iload hc 2 dX0_spread_200 rfl ?_
      refine x_aload_n hc 0 dX0_spread_202 rfl rfl ?_
      refine x_getR (T := TX0) (p0 := o) hc in_X0 rfl (by decide) (kdb k_o) 1 (by decide) tw_93 rfl rfl dX0_spread_203 ?_
      refine x_iload hc 2 dX0_spread_206 rfl ?_
      obtain ⟨h34, hf⟩ := chk_ok hf
      refine x_iaload (p0 := o + 2) hc (sh_X0_next (kdb k_o)).1 (sh_X0_next (kdb k_o)).2 h34 dX0_spread_208 ?_
      obtain ⟨h35, hf⟩ := chk_ok hf
      refine x_iastore (p0 := o + 1) hc (sh_X0_warmth (kdb k_o)).1 (sh_X0_warmth (kdb k_o)).2 h35 dX0_spread_209 ?_
      refine x_nmg (fun G36 e_G36 => ?_)
      replace hf := nm_ok hf G36 e_G36
      refine x_iinc (v := v31 + 1) (L' := [(0, .ref (kad K o)), (3, .int ((G.1 o 8) - 1)), (4, .int (v31 + 1))]) hc 2 [1, 2, 0] dX0_spread_210 rfl rfl (by decide) rfl ?_
      refine x_goto (tgt := 190) hc dX0_spread_213 rfl ?_
      exact x_sub [0, 1, 2] (ih _ _ _ hf hk) rfl
set_option maxHeartbeats 4000000 in
set_option maxRecDepth 100000 in
theorem c_X0_spread (l : Launch) (V : VT) (o : Nat) (a1 : Int32) (a2 : Int32) (G : G_) (G' : G_) (hf : f_X0_spread o a1 a2 G = some G') : MC l V yX0_spread cX0_spread 5 none 1 23 [.ref (V.2.2.1 o), .int a1, .int a2] G none G' := by
  refine mc_of (by decide) (Nat.le_of_ble_eq_true rfl) (fun K hV ho hc hkl => ?_)
  subst hV
  replace hc : Ok K cX0_spread RX0 (Cond.code yX0_spread cX0_spread 5 none :: TB) none 1 23 5 := hc
  replace ho : Rets K none G' := ho
  show X K 0 [(0, .ref (kad K o)), (1, .int a1), (2, .int a2)] [] G
  unfold f_X0_spread at hf
  obtain ⟨k_o, hf⟩ := chk_ok hf
  refine x_aload_n hc 0 dX0_spread_0 rfl rfl ?_
  refine x_getI (T := TX0) (p0 := o) hc in_X0 rfl (by decide) (kdb k_o) 8 (by decide) tw_102 rfl rfl dX0_spread_1 ?_
  refine x_iconst (v := 1) hc rfl dX0_spread_4 ?_
  refine x_isub hc dX0_spread_5 ?_
  refine x_istore_n (L' := [(0, .ref (kad K o)), (1, .int a1), (2, .int a2), (3, .int ((G.1 o 8) - 1))]) hc [1, 2, 3, 0] dX0_spread_6 rfl (by decide) rfl ?_
  refine x_iload_n hc 3 dX0_spread_7 rfl rfl ?_
  refine x_iconst (v := 1) hc rfl dX0_spread_8 ?_
  refine x_icmp_lt (tgt := 18) hc dX0_spread_9 rfl (fun c_9 => ?_) (fun c_9 => ?_)
  · replace hf := if_p hf c_9
    cases hf
    exact x_vret hc rfl ho dX0_spread_18
  · replace hf := if_n hf c_9
    refine x_iload_n hc 3 dX0_spread_12 rfl rfl ?_
    refine x_bipush (v := 20) hc rfl dX0_spread_13 ?_
    refine x_icmp_lt (tgt := 19) hc dX0_spread_15 rfl (fun c_15 => ?_) (fun c_15 => ?_)
    · replace hf := if_p hf c_15
      refine x_iconst (v := 1) hc rfl dX0_spread_19 ?_
      refine x_istore (L' := [(0, .ref (kad K o)), (1, .int a1), (2, .int a2), (3, .int ((G.1 o 8) - 1)), (4, .int 1)]) hc [1, 2, 3, 4, 0] dX0_spread_20 (by decide) rfl ?_
      obtain ⟨G10, hl_22, hf⟩ := bj1_ok hf
      have he_80_n3 : X K 80 [(0, .ref (kad K o)), (1, .int a1), (2, .int a2), (3, .int ((G.1 o 8) - 1))] [] G10 := by
        clear hl_22
        refine x_aload_n hc 0 dX0_spread_80 rfl rfl ?_
        refine x_getR (T := TX0) (p0 := o) hc in_X0 rfl (by decide) (kdb k_o) 1 (by decide) tw_93 rfl rfl dX0_spread_81 ?_
        refine x_iconst (v := 0) hc rfl dX0_spread_84 ?_
        refine x_aload_n hc 0 dX0_spread_85 rfl rfl ?_
        refine x_getR (T := TX0) (p0 := o) hc in_X0 rfl (by decide) (kdb k_o) 0 (by decide) tw_92 rfl rfl dX0_spread_86 ?_
        refine x_iconst (v := 0) hc rfl dX0_spread_89 ?_
        obtain ⟨h11, hf⟩ := chk_ok hf
        refine x_iaload (p0 := o + 1) hc (sh_X0_warmth (kdb k_o)).1 (sh_X0_warmth (kdb k_o)).2 h11 dX0_spread_90 ?_
        refine x_aload_n hc 0 dX0_spread_91 rfl rfl ?_
        refine x_getR (T := TX0) (p0 := o) hc in_X0 rfl (by decide) (kdb k_o) 0 (by decide) tw_92 rfl rfl dX0_spread_92 ?_
        refine x_iconst (v := 1) hc rfl dX0_spread_95 ?_
        obtain ⟨h12, hf⟩ := chk_ok hf
        refine x_iaload (p0 := o + 1) hc (sh_X0_warmth (kdb k_o)).1 (sh_X0_warmth (kdb k_o)).2 h12 dX0_spread_96 ?_
        refine x_aload_n hc 0 dX0_spread_97 rfl rfl ?_
        refine x_getR (T := TX0) (p0 := o) hc in_X0 rfl (by decide) (kdb k_o) 0 (by decide) tw_92 rfl rfl dX0_spread_98 ?_
        refine x_iconst (v := 0) hc rfl dX0_spread_101 ?_
        obtain ⟨h13, hf⟩ := chk_ok hf
        refine x_iaload (p0 := o + 1) hc (sh_X0_warmth (kdb k_o)).1 (sh_X0_warmth (kdb k_o)).2 h13 dX0_spread_102 ?_
        refine x_isub hc dX0_spread_103 ?_
        refine x_iconst (v := 4) hc rfl dX0_spread_104 ?_
        refine x_idiv hc (by decide) dX0_spread_105 ?_
        refine x_iadd hc dX0_spread_106 ?_
        refine x_iload_n hc 1 dX0_spread_107 rfl rfl ?_
        refine x_iload_n hc 2 dX0_spread_108 rfl rfl ?_
        refine x_aload_n hc 0 dX0_spread_109 rfl rfl ?_
        refine x_getI (T := TX0) (p0 := o) hc in_X0 rfl (by decide) (kdb k_o) 11 (by decide) tw_106 rfl rfl dX0_spread_110 ?_
        obtain ⟨x15, hr, hf⟩ := bj1_ok hf
        have hj_121_14 : X K 121 [(0, .ref (kad K o)), (1, .int a1), (2, .int a2), (3, .int ((G.1 o 8) - 1))] [.int x15, .int a2, .int a1, .int ((G10.1 (o + 1) (ix 0)) + (((G10.1 (o + 1) (ix 1)) - (G10.1 (o + 1) (ix 0))) / 4)), .int 0, .ref (kad K (o + 2))] G10 := by
          clear hr
          refine x_aload_n hc 0 dX0_spread_121 rfl rfl ?_
          refine x_getR (T := TX0) (p0 := o) hc in_X0 rfl (by decide) (kdb k_o) 0 (by decide) tw_92 rfl rfl dX0_spread_122 ?_
          refine x_iconst (v := 0) hc rfl dX0_spread_125 ?_
          obtain ⟨h16, hf⟩ := chk_ok hf
          refine x_iaload (p0 := o + 1) hc (sh_X0_warmth (kdb k_o)).1 (sh_X0_warmth (kdb k_o)).2 h16 dX0_spread_126 ?_
          obtain ⟨x17, r18, hf⟩ := bj1_ok hf
          refine x_callSr (As := [.int a1, .int a2, .int x15, .int (G10.1 (o + 1) (ix 0))]) (v := (.int x17)) hc (c_X0_fromOutside (kl K) (kV K) a1 a2 x15 (G10.1 (o + 1) (ix 0)) G10 x17 r18) mw_X0_fromOutside tw_421 rfl (Nat.le_of_ble_eq_true rfl) ⟨Nat.le_of_ble_eq_true rfl, Nat.le_of_ble_eq_true rfl⟩ dX0_spread_127 rfl ?_
          refine x_iadd hc dX0_spread_130 ?_
          obtain ⟨h19, hf⟩ := chk_ok hf
          refine x_iastore (p0 := o + 2) hc (sh_X0_next (kdb k_o)).1 (sh_X0_next (kdb k_o)).2 h19 dX0_spread_131 ?_
          refine x_nmg (fun G20 e_G20 => ?_)
          replace hf := nm_ok hf G20 e_G20
          refine x_aload_n hc 0 dX0_spread_132 rfl rfl ?_
          refine x_getR (T := TX0) (p0 := o) hc in_X0 rfl (by decide) (kdb k_o) 1 (by decide) tw_93 rfl rfl dX0_spread_133 ?_
          refine x_iload_n hc 3 dX0_spread_136 rfl rfl ?_
          refine x_aload_n hc 0 dX0_spread_137 rfl rfl ?_
          refine x_getR (T := TX0) (p0 := o) hc in_X0 rfl (by decide) (kdb k_o) 0 (by decide) tw_92 rfl rfl dX0_spread_138 ?_
          refine x_iload_n hc 3 dX0_spread_141 rfl rfl ?_
          obtain ⟨h21, hf⟩ := chk_ok hf
          refine x_iaload (p0 := o + 1) hc (sh_X0_warmth (kdb k_o)).1 (sh_X0_warmth (kdb k_o)).2 h21 dX0_spread_142 ?_
          refine x_aload_n hc 0 dX0_spread_143 rfl rfl ?_
          refine x_getR (T := TX0) (p0 := o) hc in_X0 rfl (by decide) (kdb k_o) 0 (by decide) tw_92 rfl rfl dX0_spread_144 ?_
          refine x_iload_n hc 3 dX0_spread_147 rfl rfl ?_
          refine x_iconst (v := 1) hc rfl dX0_spread_148 ?_
          refine x_isub hc dX0_spread_149 ?_
          obtain ⟨h22, hf⟩ := chk_ok hf
          refine x_iaload (p0 := o + 1) hc (sh_X0_warmth (kdb k_o)).1 (sh_X0_warmth (kdb k_o)).2 h22 dX0_spread_150 ?_
          refine x_aload_n hc 0 dX0_spread_151 rfl rfl ?_
          refine x_getR (T := TX0) (p0 := o) hc in_X0 rfl (by decide) (kdb k_o) 0 (by decide) tw_92 rfl rfl dX0_spread_152 ?_
          refine x_iload_n hc 3 dX0_spread_155 rfl rfl ?_
          obtain ⟨h23, hf⟩ := chk_ok hf
          refine x_iaload (p0 := o + 1) hc (sh_X0_warmth (kdb k_o)).1 (sh_X0_warmth (kdb k_o)).2 h23 dX0_spread_156 ?_
          refine x_isub hc dX0_spread_157 ?_
          refine x_iconst (v := 4) hc rfl dX0_spread_158 ?_
          refine x_idiv hc (by decide) dX0_spread_159 ?_
          refine x_iadd hc dX0_spread_160 ?_
          refine x_iload_n hc 1 dX0_spread_161 rfl rfl ?_
          refine x_iload_n hc 2 dX0_spread_162 rfl rfl ?_
          refine x_aload_n hc 0 dX0_spread_163 rfl rfl ?_
          refine x_getI (T := TX0) (p0 := o) hc in_X0 rfl (by decide) (kdb k_o) 11 (by decide) tw_106 rfl rfl dX0_spread_164 ?_
          refine x_iconst (v := 1) hc rfl dX0_spread_167 ?_
          obtain ⟨x25, hr, hf⟩ := bj1_ok hf
          have hj_176_24 : X K 176 [(0, .ref (kad K o)), (3, .int ((G.1 o 8) - 1))] [.int x25, .int a2, .int a1, .int ((G20.1 (o + 1) (ix ((G.1 o 8) - 1))) + (((G20.1 (o + 1) (ix (((G.1 o 8) - 1) - 1))) - (G20.1 (o + 1) (ix ((G.1 o 8) - 1)))) / 4)), .int ((G.1 o 8) - 1), .ref (kad K (o + 2))] G20 := by
            clear hr
            refine x_aload_n hc 0 dX0_spread_176 rfl rfl ?_
            refine x_getR (T := TX0) (p0 := o) hc in_X0 rfl (by decide) (kdb k_o) 0 (by decide) tw_92 rfl rfl dX0_spread_177 ?_
            refine x_iload_n hc 1 dX0_spread_180 rfl rfl ?_
            obtain ⟨h26, hf⟩ := chk_ok hf
            refine x_iaload (p0 := o + 1) hc (sh_X0_warmth (kdb k_o)).1 (sh_X0_warmth (kdb k_o)).2 h26 dX0_spread_181 ?_
            obtain ⟨x27, r28, hf⟩ := bj1_ok hf
            refine x_callSr (As := [.int a1, .int a2, .int x25, .int (G20.1 (o + 1) (ix ((G.1 o 8) - 1)))]) (v := (.int x27)) hc (c_X0_fromOutside (kl K) (kV K) a1 a2 x25 (G20.1 (o + 1) (ix ((G.1 o 8) - 1))) G20 x27 r28) mw_X0_fromOutside tw_421 rfl (Nat.le_of_ble_eq_true rfl) ⟨Nat.le_of_ble_eq_true rfl, Nat.le_of_ble_eq_true rfl⟩ dX0_spread_182 rfl ?_
            refine x_iadd hc dX0_spread_185 ?_
            obtain ⟨h29, hf⟩ := chk_ok hf
            refine x_iastore (p0 := o + 2) hc (sh_X0_next (kdb k_o)).1 (sh_X0_next (kdb k_o)).2 h29 dX0_spread_186 ?_
            refine x_nmg (fun G30 e_G30 => ?_)
            replace hf := nm_ok hf G30 e_G30
            refine x_iconst (v := 0) hc rfl dX0_spread_187 ?_
            refine x_istore (L' := [(0, .ref (kad K o)), (3, .int ((G.1 o 8) - 1)), (4, .int 0)]) hc [1, 2, 0] dX0_spread_188 (by decide) rfl ?_
            obtain ⟨G37, hl_190, hf⟩ := bj1_ok hf
            have he_216_n33 : X K 216 [] [] G37 := by
              clear hl_190
              cases hf
              exact x_vret hc rfl ho dX0_spread_216
            exact x_sub [0, 1, 2] (c_X0_spread_l190_33 o G hc k_o FU 0 G30 G37 hl_190 he_216_n33) rfl
          replace hf := hr
          clear hr
          refine x_icmp_ne (tgt := 175) hc dX0_spread_168 rfl (fun c_168 => ?_) (fun c_168 => ?_)
          · replace hf := if_n hf c_168
            refine x_iconst (v := 0) hc rfl dX0_spread_175 ?_
            cases hf
            exact x_sub [0, 3] hj_176_24 rfl
          · replace hf := if_p hf c_168
            refine x_iconst (v := 1) hc rfl dX0_spread_171 ?_
            refine x_goto (tgt := 176) hc dX0_spread_172 rfl ?_
            cases hf
            exact x_sub [0, 3] hj_176_24 rfl
        replace hf := hr
        clear hr
        refine x_if_ne (tgt := 120) hc dX0_spread_113 rfl (fun c_113 => ?_) (fun c_113 => ?_)
        · replace hf := if_n hf c_113
          refine x_iconst (v := 0) hc rfl dX0_spread_120 ?_
          cases hf
          exact x_sub [0, 1, 2, 3] hj_121_14 rfl
        · replace hf := if_p hf c_113
          refine x_iconst (v := 1) hc rfl dX0_spread_116 ?_
          refine x_goto (tgt := 121) hc dX0_spread_117 rfl ?_
          cases hf
          exact x_sub [0, 1, 2, 3] hj_121_14 rfl
      exact x_sub [0, 1, 2, 3, 4] (c_X0_spread_l22_3 o a1 a2 G hc k_o FU 1 G G10 hl_22 he_80_n3) rfl
    · replace hf := if_n hf c_15
      cases hf
      exact x_vret hc rfl ho dX0_spread_18
def f_X0_boil (o : Nat) (a1 : Int32) (a2 : Int32) (G : G_) : Option G_ :=
  chk (kd o == 0) <|
  if a2 < 0 then (
    some G)
  else (
    if 20 ≤ a2 then (
      some G)
    else (
      if a1 < 0 then (
        some G)
      else (
        if a1 ≤ 1 then (
          chk (inb a1 2) <|
          if G.1 (o + 5) (ix a1) ≤ 0 then (
            some G)
          else (
            chk (inb a2 20) <|
            if G.1 (o + 1) (ix a2) ≤ 1000 then (
              some G)
            else (
              chk (inb a1 2) <|
              chk (inb a2 20) <|
              chk (inb a1 2) <|
              nm (sI G (o + 5) (ix a1) (mx (((G.1 (o + 5) (ix a1)) - (((G.1 (o + 1) (ix a2)) - 1000) / 50)) - 1) 0)) fun G6 =>
              chk (inb a2 20) <|
              nm (sI G6 (o + 1) (ix a2) 1000) fun G8 =>
              some G8)))
        else (
          some G))))
set_option maxHeartbeats 4000000 in
set_option maxRecDepth 100000 in
theorem c_X0_boil (l : Launch) (V : VT) (o : Nat) (a1 : Int32) (a2 : Int32) (G : G_) (G' : G_) (hf : f_X0_boil o a1 a2 G = some G') : MC l V yX0_boil cX0_boil 3 none 1 21 [.ref (V.2.2.1 o), .int a1, .int a2] G none G' := by
  refine mc_of (by decide) (Nat.le_of_ble_eq_true rfl) (fun K hV ho hc hkl => ?_)
  subst hV
  replace hc : Ok K cX0_boil RX0 (Cond.code yX0_boil cX0_boil 3 none :: TB) none 1 21 3 := hc
  replace ho : Rets K none G' := ho
  show X K 0 [(0, .ref (kad K o)), (1, .int a1), (2, .int a2)] [] G
  unfold f_X0_boil at hf
  obtain ⟨k_o, hf⟩ := chk_ok hf
  refine x_iload_n hc 2 dX0_boil_0 rfl rfl ?_
  refine x_if_lt (tgt := 19) hc dX0_boil_1 rfl (fun c_1 => ?_) (fun c_1 => ?_)
  · replace hf := if_p hf c_1
    cases hf
    exact x_vret hc rfl ho dX0_boil_19
  · replace hf := if_n hf c_1
    refine x_iload_n hc 2 dX0_boil_4 rfl rfl ?_
    refine x_bipush (v := 20) hc rfl dX0_boil_5 ?_
    refine x_icmp_ge (tgt := 19) hc dX0_boil_7 rfl (fun c_7 => ?_) (fun c_7 => ?_)
    · replace hf := if_p hf c_7
      cases hf
      exact x_vret hc rfl ho dX0_boil_19
    · replace hf := if_n hf c_7
      refine x_iload_n hc 1 dX0_boil_10 rfl rfl ?_
      refine x_if_lt (tgt := 19) hc dX0_boil_11 rfl (fun c_11 => ?_) (fun c_11 => ?_)
      · replace hf := if_p hf c_11
        cases hf
        exact x_vret hc rfl ho dX0_boil_19
      · replace hf := if_n hf c_11
        refine x_iload_n hc 1 dX0_boil_14 rfl rfl ?_
        refine x_iconst (v := 1) hc rfl dX0_boil_15 ?_
        refine x_icmp_le (tgt := 20) hc dX0_boil_16 rfl (fun c_16 => ?_) (fun c_16 => ?_)
        · replace hf := if_p hf c_16
          refine x_aload_n hc 0 dX0_boil_20 rfl rfl ?_
          refine x_getR (T := TX0) (p0 := o) hc in_X0 rfl (by decide) (kdb k_o) 4 (by decide) tw_96 rfl rfl dX0_boil_21 ?_
          refine x_iload_n hc 1 dX0_boil_24 rfl rfl ?_
          obtain ⟨h1, hf⟩ := chk_ok hf
          refine x_iaload (p0 := o + 5) hc (sh_X0_wet (kdb k_o)).1 (sh_X0_wet (kdb k_o)).2 h1 dX0_boil_25 ?_
          refine x_if_le (tgt := 82) hc dX0_boil_26 rfl (fun c_26 => ?_) (fun c_26 => ?_)
          · replace hf := if_p hf c_26
            cases hf
            exact x_vret hc rfl ho dX0_boil_82
          · replace hf := if_n hf c_26
            refine x_aload_n hc 0 dX0_boil_29 rfl rfl ?_
            refine x_getR (T := TX0) (p0 := o) hc in_X0 rfl (by decide) (kdb k_o) 0 (by decide) tw_92 rfl rfl dX0_boil_30 ?_
            refine x_iload_n hc 2 dX0_boil_33 rfl rfl ?_
            obtain ⟨h2, hf⟩ := chk_ok hf
            refine x_iaload (p0 := o + 1) hc (sh_X0_warmth (kdb k_o)).1 (sh_X0_warmth (kdb k_o)).2 h2 dX0_boil_34 ?_
            refine x_sipush (v := 1000) hc rfl dX0_boil_35 ?_
            refine x_icmp_le (tgt := 82) hc dX0_boil_38 rfl (fun c_38 => ?_) (fun c_38 => ?_)
            · replace hf := if_p hf c_38
              cases hf
              exact x_vret hc rfl ho dX0_boil_82
            · replace hf := if_n hf c_38
              refine x_aload_n hc 0 dX0_boil_41 rfl rfl ?_
              refine x_getR (T := TX0) (p0 := o) hc in_X0 rfl (by decide) (kdb k_o) 4 (by decide) tw_96 rfl rfl dX0_boil_42 ?_
              refine x_iload_n hc 1 dX0_boil_45 rfl rfl ?_
              refine x_aload_n hc 0 dX0_boil_46 rfl rfl ?_
              refine x_getR (T := TX0) (p0 := o) hc in_X0 rfl (by decide) (kdb k_o) 4 (by decide) tw_96 rfl rfl dX0_boil_47 ?_
              refine x_iload_n hc 1 dX0_boil_50 rfl rfl ?_
              obtain ⟨h3, hf⟩ := chk_ok hf
              refine x_iaload (p0 := o + 5) hc (sh_X0_wet (kdb k_o)).1 (sh_X0_wet (kdb k_o)).2 h3 dX0_boil_51 ?_
              refine x_aload_n hc 0 dX0_boil_52 rfl rfl ?_
              refine x_getR (T := TX0) (p0 := o) hc in_X0 rfl (by decide) (kdb k_o) 0 (by decide) tw_92 rfl rfl dX0_boil_53 ?_
              refine x_iload_n hc 2 dX0_boil_56 rfl rfl ?_
              obtain ⟨h4, hf⟩ := chk_ok hf
              refine x_iaload (p0 := o + 1) hc (sh_X0_warmth (kdb k_o)).1 (sh_X0_warmth (kdb k_o)).2 h4 dX0_boil_57 ?_
              refine x_sipush (v := 1000) hc rfl dX0_boil_58 ?_
              refine x_isub hc dX0_boil_61 ?_
              refine x_bipush (v := 50) hc rfl dX0_boil_62 ?_
              refine x_idiv hc (by decide) dX0_boil_64 ?_
              refine x_isub hc dX0_boil_65 ?_
              refine x_iconst (v := 1) hc rfl dX0_boil_66 ?_
              refine x_isub hc dX0_boil_67 ?_
              refine x_iconst (v := 0) hc rfl dX0_boil_68 ?_
              refine x_mmax hc tw_393 tw_394 tw_36 tw_395 (Nat.le_of_ble_eq_true rfl) (Nat.le_of_ble_eq_true rfl) dX0_boil_69 ?_
              obtain ⟨h5, hf⟩ := chk_ok hf
              refine x_iastore (p0 := o + 5) hc (sh_X0_wet (kdb k_o)).1 (sh_X0_wet (kdb k_o)).2 h5 dX0_boil_72 ?_
              refine x_nmg (fun G6 e_G6 => ?_)
              replace hf := nm_ok hf G6 e_G6
              refine x_aload_n hc 0 dX0_boil_73 rfl rfl ?_
              refine x_getR (T := TX0) (p0 := o) hc in_X0 rfl (by decide) (kdb k_o) 0 (by decide) tw_92 rfl rfl dX0_boil_74 ?_
              refine x_iload_n hc 2 dX0_boil_77 rfl rfl ?_
              refine x_sipush (v := 1000) hc rfl dX0_boil_78 ?_
              obtain ⟨h7, hf⟩ := chk_ok hf
              refine x_iastore (p0 := o + 1) hc (sh_X0_warmth (kdb k_o)).1 (sh_X0_warmth (kdb k_o)).2 h7 dX0_boil_81 ?_
              refine x_nmg (fun G8 e_G8 => ?_)
              replace hf := nm_ok hf G8 e_G8
              cases hf
              exact x_vret hc rfl ho dX0_boil_82
        · replace hf := if_n hf c_16
          cases hf
          exact x_vret hc rfl ho dX0_boil_19
def f_X0_warmthAt (o : Nat) (a1 : Int32) (G : G_) : Option Int32 :=
  chk (kd o == 0) <|
  bj1 (f_X0_has o a1 G) fun x1 =>
  if x1 = 0 then (
    some 0)
  else (
    chk (inb a1 20) <|
    some (G.1 (o + 1) (ix a1)))
set_option maxHeartbeats 4000000 in
set_option maxRecDepth 100000 in
theorem c_X0_warmthAt (l : Launch) (V : VT) (o : Nat) (a1 : Int32) (G : G_) (r : Int32) (hf : f_X0_warmthAt o a1 G = some r) : MC l V yX0_warmthAt cX0_warmthAt 2 (some .int) 1 21 [.ref (V.2.2.1 o), .int a1] G (some (.int r)) G := by
  refine mc_of (by decide) (Nat.le_of_ble_eq_true rfl) (fun K hV ho hc hkl => ?_)
  subst hV
  replace hc : Ok K cX0_warmthAt RX0 (Cond.code yX0_warmthAt cX0_warmthAt 2 (some .int) :: TB) (some .int) 1 21 2 := hc
  replace ho : Rets K (some (.int r)) G := ho
  show X K 0 [(0, .ref (kad K o)), (1, .int a1)] [] G
  unfold f_X0_warmthAt at hf
  obtain ⟨k_o, hf⟩ := chk_ok hf
  refine x_aload_n hc 0 dX0_warmthAt_0 rfl rfl ?_
  refine x_iload_n hc 1 dX0_warmthAt_1 rfl rfl ?_
  obtain ⟨x1, r2, hf⟩ := bj1_ok hf
  refine x_callVr (As := [.int a1]) (p0 := o) (v := (.int x1)) (T := TX0) hc (c_X0_has (kl K) (kV K) o a1 G x1 r2) mw_X0_has tw_445 (kdb k_o) (by decide) rfl rfl (Nat.le_of_ble_eq_true rfl) ⟨Nat.le_of_ble_eq_true rfl, Nat.le_of_ble_eq_true rfl⟩ dX0_warmthAt_2 rfl ?_
  refine x_if_eq (tgt := 17) hc dX0_warmthAt_5 rfl (fun c_5 => ?_) (fun c_5 => ?_)
  · replace hf := if_p hf c_5
    refine x_iconst (v := 0) hc rfl dX0_warmthAt_17 ?_
    cases hf
    exact x_iret hc rfl ho dX0_warmthAt_18
  · replace hf := if_n hf c_5
    refine x_aload_n hc 0 dX0_warmthAt_8 rfl rfl ?_
    refine x_getR (T := TX0) (p0 := o) hc in_X0 rfl (by decide) (kdb k_o) 0 (by decide) tw_92 rfl rfl dX0_warmthAt_9 ?_
    refine x_iload_n hc 1 dX0_warmthAt_12 rfl rfl ?_
    obtain ⟨h3, hf⟩ := chk_ok hf
    refine x_iaload (p0 := o + 1) hc (sh_X0_warmth (kdb k_o)).1 (sh_X0_warmth (kdb k_o)).2 h3 dX0_warmthAt_13 ?_
    refine x_goto (tgt := 18) hc dX0_warmthAt_14 rfl ?_
    cases hf
    exact x_iret hc rfl ho dX0_warmthAt_18
def f_X0_mostAt (o : Nat) (a1 : Int32) (G : G_) : Option Int32 :=
  chk (kd o == 0) <|
  bj1 (f_X0_has o a1 G) fun x1 =>
  if x1 = 0 then (
    some 0)
  else (
    chk (inb a1 20) <|
    some (G.1 (o + 3) (ix a1)))
set_option maxHeartbeats 4000000 in
set_option maxRecDepth 100000 in
theorem c_X0_mostAt (l : Launch) (V : VT) (o : Nat) (a1 : Int32) (G : G_) (r : Int32) (hf : f_X0_mostAt o a1 G = some r) : MC l V yX0_mostAt cX0_mostAt 2 (some .int) 1 21 [.ref (V.2.2.1 o), .int a1] G (some (.int r)) G := by
  refine mc_of (by decide) (Nat.le_of_ble_eq_true rfl) (fun K hV ho hc hkl => ?_)
  subst hV
  replace hc : Ok K cX0_mostAt RX0 (Cond.code yX0_mostAt cX0_mostAt 2 (some .int) :: TB) (some .int) 1 21 2 := hc
  replace ho : Rets K (some (.int r)) G := ho
  show X K 0 [(0, .ref (kad K o)), (1, .int a1)] [] G
  unfold f_X0_mostAt at hf
  obtain ⟨k_o, hf⟩ := chk_ok hf
  refine x_aload_n hc 0 dX0_mostAt_0 rfl rfl ?_
  refine x_iload_n hc 1 dX0_mostAt_1 rfl rfl ?_
  obtain ⟨x1, r2, hf⟩ := bj1_ok hf
  refine x_callVr (As := [.int a1]) (p0 := o) (v := (.int x1)) (T := TX0) hc (c_X0_has (kl K) (kV K) o a1 G x1 r2) mw_X0_has tw_445 (kdb k_o) (by decide) rfl rfl (Nat.le_of_ble_eq_true rfl) ⟨Nat.le_of_ble_eq_true rfl, Nat.le_of_ble_eq_true rfl⟩ dX0_mostAt_2 rfl ?_
  refine x_if_eq (tgt := 17) hc dX0_mostAt_5 rfl (fun c_5 => ?_) (fun c_5 => ?_)
  · replace hf := if_p hf c_5
    refine x_iconst (v := 0) hc rfl dX0_mostAt_17 ?_
    cases hf
    exact x_iret hc rfl ho dX0_mostAt_18
  · replace hf := if_n hf c_5
    refine x_aload_n hc 0 dX0_mostAt_8 rfl rfl ?_
    refine x_getR (T := TX0) (p0 := o) hc in_X0 rfl (by decide) (kdb k_o) 2 (by decide) tw_94 rfl rfl dX0_mostAt_9 ?_
    refine x_iload_n hc 1 dX0_mostAt_12 rfl rfl ?_
    obtain ⟨h3, hf⟩ := chk_ok hf
    refine x_iaload (p0 := o + 3) hc (sh_X0_most (kdb k_o)).1 (sh_X0_most (kdb k_o)).2 h3 dX0_mostAt_13 ?_
    refine x_goto (tgt := 18) hc dX0_mostAt_14 rfl ?_
    cases hf
    exact x_iret hc rfl ho dX0_mostAt_18
def f_X0_juiceAt (o : Nat) (a1 : Int32) (G : G_) : Option Int32 :=
  chk (kd o == 0) <|
  bj1 (f_X0_has o a1 G) fun x1 =>
  if x1 = 0 then (
    some 0)
  else (
    chk (inb a1 20) <|
    some (G.1 (o + 4) (ix a1)))
set_option maxHeartbeats 4000000 in
set_option maxRecDepth 100000 in
theorem c_X0_juiceAt (l : Launch) (V : VT) (o : Nat) (a1 : Int32) (G : G_) (r : Int32) (hf : f_X0_juiceAt o a1 G = some r) : MC l V yX0_juiceAt cX0_juiceAt 2 (some .int) 1 21 [.ref (V.2.2.1 o), .int a1] G (some (.int r)) G := by
  refine mc_of (by decide) (Nat.le_of_ble_eq_true rfl) (fun K hV ho hc hkl => ?_)
  subst hV
  replace hc : Ok K cX0_juiceAt RX0 (Cond.code yX0_juiceAt cX0_juiceAt 2 (some .int) :: TB) (some .int) 1 21 2 := hc
  replace ho : Rets K (some (.int r)) G := ho
  show X K 0 [(0, .ref (kad K o)), (1, .int a1)] [] G
  unfold f_X0_juiceAt at hf
  obtain ⟨k_o, hf⟩ := chk_ok hf
  refine x_aload_n hc 0 dX0_juiceAt_0 rfl rfl ?_
  refine x_iload_n hc 1 dX0_juiceAt_1 rfl rfl ?_
  obtain ⟨x1, r2, hf⟩ := bj1_ok hf
  refine x_callVr (As := [.int a1]) (p0 := o) (v := (.int x1)) (T := TX0) hc (c_X0_has (kl K) (kV K) o a1 G x1 r2) mw_X0_has tw_445 (kdb k_o) (by decide) rfl rfl (Nat.le_of_ble_eq_true rfl) ⟨Nat.le_of_ble_eq_true rfl, Nat.le_of_ble_eq_true rfl⟩ dX0_juiceAt_2 rfl ?_
  refine x_if_eq (tgt := 17) hc dX0_juiceAt_5 rfl (fun c_5 => ?_) (fun c_5 => ?_)
  · replace hf := if_p hf c_5
    refine x_iconst (v := 0) hc rfl dX0_juiceAt_17 ?_
    cases hf
    exact x_iret hc rfl ho dX0_juiceAt_18
  · replace hf := if_n hf c_5
    refine x_aload_n hc 0 dX0_juiceAt_8 rfl rfl ?_
    refine x_getR (T := TX0) (p0 := o) hc in_X0 rfl (by decide) (kdb k_o) 3 (by decide) tw_95 rfl rfl dX0_juiceAt_9 ?_
    refine x_iload_n hc 1 dX0_juiceAt_12 rfl rfl ?_
    obtain ⟨h3, hf⟩ := chk_ok hf
    refine x_iaload (p0 := o + 4) hc (sh_X0_juice (kdb k_o)).1 (sh_X0_juice (kdb k_o)).2 h3 dX0_juiceAt_13 ?_
    refine x_goto (tgt := 18) hc dX0_juiceAt_14 rfl ?_
    cases hf
    exact x_iret hc rfl ho dX0_juiceAt_18
def f_X0_kindOf (o : Nat) (a1 : Int32) (G : G_) : Option Int32 :=
  chk (kd o == 0) <|
  bj1 (f_X0_brownOf o a1 G) fun x1 =>
  if x1 < 20 then (
    bj1 (f_X0_wetOf o a1 G) fun x3 =>
    if x3 ≤ 0 then (
      if G.1 o 15 = 4 then (
        some 4)
      else (
        if G.1 o 15 = 1 then (
          if G.1 o 11 = a1 then (
            some 0)
          else (
            some 2))
        else (
          some 0)))
    else (
      if G.1 o 9 ≤ 0 then (
        some 1)
      else (
        some 5)))
  else (
    bj1 (f_X0_brownOf o a1 G) fun x5 =>
    if x5 ≤ 100 then (
      some 3)
    else (
      some 6))
set_option maxHeartbeats 4000000 in
set_option maxRecDepth 100000 in
theorem c_X0_kindOf (l : Launch) (V : VT) (o : Nat) (a1 : Int32) (G : G_) (r : Int32) (hf : f_X0_kindOf o a1 G = some r) : MC l V yX0_kindOf cX0_kindOf 2 (some .int) 1 21 [.ref (V.2.2.1 o), .int a1] G (some (.int r)) G := by
  refine mc_of (by decide) (Nat.le_of_ble_eq_true rfl) (fun K hV ho hc hkl => ?_)
  subst hV
  replace hc : Ok K cX0_kindOf RX0 (Cond.code yX0_kindOf cX0_kindOf 2 (some .int) :: TB) (some .int) 1 21 2 := hc
  replace ho : Rets K (some (.int r)) G := ho
  show X K 0 [(0, .ref (kad K o)), (1, .int a1)] [] G
  unfold f_X0_kindOf at hf
  obtain ⟨k_o, hf⟩ := chk_ok hf
  refine x_aload_n hc 0 dX0_kindOf_0 rfl rfl ?_
  refine x_iload_n hc 1 dX0_kindOf_1 rfl rfl ?_
  obtain ⟨x1, r2, hf⟩ := bj1_ok hf
  refine x_callVr (As := [.int a1]) (p0 := o) (v := (.int x1)) (T := TX0) hc (c_X0_brownOf (kl K) (kV K) o a1 G x1 r2) mw_X0_brownOf tw_473 (kdb k_o) (by decide) rfl rfl (Nat.le_of_ble_eq_true rfl) ⟨Nat.le_of_ble_eq_true rfl, Nat.le_of_ble_eq_true rfl⟩ dX0_kindOf_2 rfl ?_
  refine x_bipush (v := 20) hc rfl dX0_kindOf_5 ?_
  refine x_icmp_lt (tgt := 27) hc dX0_kindOf_7 rfl (fun c_7 => ?_) (fun c_7 => ?_)
  · replace hf := if_p hf c_7
    refine x_aload_n hc 0 dX0_kindOf_27 rfl rfl ?_
    refine x_iload_n hc 1 dX0_kindOf_28 rfl rfl ?_
    obtain ⟨x3, r4, hf⟩ := bj1_ok hf
    refine x_callVr (As := [.int a1]) (p0 := o) (v := (.int x3)) (T := TX0) hc (c_X0_wetOf (kl K) (kV K) o a1 G x3 r4) mw_X0_wetOf tw_477 (kdb k_o) (by decide) rfl rfl (Nat.le_of_ble_eq_true rfl) ⟨Nat.le_of_ble_eq_true rfl, Nat.le_of_ble_eq_true rfl⟩ dX0_kindOf_29 rfl ?_
    refine x_if_le (tgt := 48) hc dX0_kindOf_32 rfl (fun c_32 => ?_) (fun c_32 => ?_)
    · replace hf := if_p hf c_32
      refine x_aload_n hc 0 dX0_kindOf_48 rfl rfl ?_
      refine x_getI (T := TX0) (p0 := o) hc in_X0 rfl (by decide) (kdb k_o) 15 (by decide) tw_111 rfl rfl dX0_kindOf_49 ?_
      refine x_iconst (v := 4) hc rfl dX0_kindOf_52 ?_
      refine x_icmp_ne (tgt := 58) hc dX0_kindOf_53 rfl (fun c_53 => ?_) (fun c_53 => ?_)
      · replace hf := if_n hf c_53
        refine x_aload_n hc 0 dX0_kindOf_58 rfl rfl ?_
        refine x_getI (T := TX0) (p0 := o) hc in_X0 rfl (by decide) (kdb k_o) 15 (by decide) tw_111 rfl rfl dX0_kindOf_59 ?_
        refine x_iconst (v := 1) hc rfl dX0_kindOf_62 ?_
        refine x_icmp_ne (tgt := 78) hc dX0_kindOf_63 rfl (fun c_63 => ?_) (fun c_63 => ?_)
        · replace hf := if_n hf c_63
          refine x_iconst (v := 0) hc rfl dX0_kindOf_78 ?_
          cases hf
          exact x_iret hc rfl ho dX0_kindOf_79
        · replace hf := if_p hf c_63
          refine x_aload_n hc 0 dX0_kindOf_66 rfl rfl ?_
          refine x_getI (T := TX0) (p0 := o) hc in_X0 rfl (by decide) (kdb k_o) 11 (by decide) tw_106 rfl rfl dX0_kindOf_67 ?_
          refine x_iload_n hc 1 dX0_kindOf_70 rfl rfl ?_
          refine x_icmp_eq (tgt := 78) hc dX0_kindOf_71 rfl (fun c_71 => ?_) (fun c_71 => ?_)
          · replace hf := if_p hf c_71
            refine x_iconst (v := 0) hc rfl dX0_kindOf_78 ?_
            cases hf
            exact x_iret hc rfl ho dX0_kindOf_79
          · replace hf := if_n hf c_71
            refine x_iconst (v := 2) hc rfl dX0_kindOf_74 ?_
            refine x_goto (tgt := 79) hc dX0_kindOf_75 rfl ?_
            cases hf
            exact x_iret hc rfl ho dX0_kindOf_79
      · replace hf := if_p hf c_53
        refine x_iconst (v := 4) hc rfl dX0_kindOf_56 ?_
        cases hf
        exact x_iret hc rfl ho dX0_kindOf_57
    · replace hf := if_n hf c_32
      refine x_aload_n hc 0 dX0_kindOf_35 rfl rfl ?_
      refine x_getI (T := TX0) (p0 := o) hc in_X0 rfl (by decide) (kdb k_o) 9 (by decide) tw_104 rfl rfl dX0_kindOf_36 ?_
      refine x_if_le (tgt := 46) hc dX0_kindOf_39 rfl (fun c_39 => ?_) (fun c_39 => ?_)
      · replace hf := if_p hf c_39
        refine x_iconst (v := 1) hc rfl dX0_kindOf_46 ?_
        cases hf
        exact x_iret hc rfl ho dX0_kindOf_47
      · replace hf := if_n hf c_39
        refine x_iconst (v := 5) hc rfl dX0_kindOf_42 ?_
        refine x_goto (tgt := 47) hc dX0_kindOf_43 rfl ?_
        cases hf
        exact x_iret hc rfl ho dX0_kindOf_47
  · replace hf := if_n hf c_7
    refine x_aload_n hc 0 dX0_kindOf_10 rfl rfl ?_
    refine x_iload_n hc 1 dX0_kindOf_11 rfl rfl ?_
    obtain ⟨x5, r6, hf⟩ := bj1_ok hf
    refine x_callVr (As := [.int a1]) (p0 := o) (v := (.int x5)) (T := TX0) hc (c_X0_brownOf (kl K) (kV K) o a1 G x5 r6) mw_X0_brownOf tw_473 (kdb k_o) (by decide) rfl rfl (Nat.le_of_ble_eq_true rfl) ⟨Nat.le_of_ble_eq_true rfl, Nat.le_of_ble_eq_true rfl⟩ dX0_kindOf_12 rfl ?_
    refine x_bipush (v := 100) hc rfl dX0_kindOf_15 ?_
    refine x_icmp_le (tgt := 25) hc dX0_kindOf_17 rfl (fun c_17 => ?_) (fun c_17 => ?_)
    · replace hf := if_p hf c_17
      refine x_iconst (v := 3) hc rfl dX0_kindOf_25 ?_
      cases hf
      exact x_iret hc rfl ho dX0_kindOf_26
    · replace hf := if_n hf c_17
      refine x_bipush (v := 6) hc rfl dX0_kindOf_20 ?_
      refine x_goto (tgt := 26) hc dX0_kindOf_22 rfl ?_
      cases hf
      exact x_iret hc rfl ho dX0_kindOf_26
def f_X0_crust (o : Nat) (G : G_) : Option Int32 :=
  chk (kd o == 0) <|
  chk (inb 0 2) <|
  chk (inb 1 2) <|
  some (mn (G.1 (o + 6) (ix 0)) (G.1 (o + 6) (ix 1)))
set_option maxHeartbeats 4000000 in
set_option maxRecDepth 100000 in
theorem c_X0_crust (l : Launch) (V : VT) (o : Nat) (G : G_) (r : Int32) (hf : f_X0_crust o G = some r) : MC l V yX0_crust cX0_crust 1 (some .int) 1 21 [.ref (V.2.2.1 o)] G (some (.int r)) G := by
  refine mc_of (by decide) (Nat.le_of_ble_eq_true rfl) (fun K hV ho hc hkl => ?_)
  subst hV
  replace hc : Ok K cX0_crust RX0 (Cond.code yX0_crust cX0_crust 1 (some .int) :: TB) (some .int) 1 21 1 := hc
  replace ho : Rets K (some (.int r)) G := ho
  show X K 0 [(0, .ref (kad K o))] [] G
  unfold f_X0_crust at hf
  obtain ⟨k_o, hf⟩ := chk_ok hf
  refine x_aload_n hc 0 dX0_crust_0 rfl rfl ?_
  refine x_getR (T := TX0) (p0 := o) hc in_X0 rfl (by decide) (kdb k_o) 5 (by decide) tw_97 rfl rfl dX0_crust_1 ?_
  refine x_iconst (v := 0) hc rfl dX0_crust_4 ?_
  obtain ⟨h1, hf⟩ := chk_ok hf
  refine x_iaload (p0 := o + 6) hc (sh_X0_brown (kdb k_o)).1 (sh_X0_brown (kdb k_o)).2 h1 dX0_crust_5 ?_
  refine x_aload_n hc 0 dX0_crust_6 rfl rfl ?_
  refine x_getR (T := TX0) (p0 := o) hc in_X0 rfl (by decide) (kdb k_o) 5 (by decide) tw_97 rfl rfl dX0_crust_7 ?_
  refine x_iconst (v := 1) hc rfl dX0_crust_10 ?_
  obtain ⟨h2, hf⟩ := chk_ok hf
  refine x_iaload (p0 := o + 6) hc (sh_X0_brown (kdb k_o)).1 (sh_X0_brown (kdb k_o)).2 h2 dX0_crust_11 ?_
  refine x_mmin hc tw_390 tw_391 tw_36 tw_392 (Nat.le_of_ble_eq_true rfl) (Nat.le_of_ble_eq_true rfl) dX0_crust_12 ?_
  cases hf
  exact x_iret hc rfl ho dX0_crust_15
def f_X0_turnAndDry_l2_3 (o : Nat) : Nat → Int32 → G_ → Option (G_)
  | 0, _, _ => none
  | n3 + 1, v1, G2 =>
    if 12 ≤ v1 then (
      some (G2))
    else (
      bj1 (f_X2_kindAt (o + 7) (G2.1 o 13) G2) fun x4 =>
      if x4 ≤ 4 then (
        some (G2))
      else (
        bj1 (f_X2_kindAt (o + 7) (G2.1 o 13) G2) fun x6 =>
        bj1 (
          if x6 = 5 then (
            nm (sI G2 o 11 (1 - (G2.1 o 11))) fun G13 =>
            some (G13))
          else (
            chk (inb 0 2) <|
            nm (sI G2 (o + 5) (ix 0) 0) fun G10 =>
            chk (inb 1 2) <|
            nm (sI G10 (o + 5) (ix 1) 0) fun G12 =>
            some (G12))) fun (G14 : G_) =>
        nm (sI G14 o 13 ((G14.1 o 13) + 1)) fun G15 =>
        f_X0_turnAndDry_l2_3 o n3 (v1 + 1) G15))
def f_X0_turnAndDry (o : Nat) (G : G_) : Option G_ :=
  chk (kd o == 0) <|
  bj1 (f_X0_turnAndDry_l2_3 o FU 0 G) fun G16 =>
  some G16
set_option maxHeartbeats 4000000 in
set_option maxRecDepth 100000 in
theorem c_X0_turnAndDry_l2_3 {K : CT} (o : Nat) (hc : Ok K cX0_turnAndDry RX0 (Cond.code yX0_turnAndDry cX0_turnAndDry 2 none :: TB) none 2 42 2) (k_o : (kd o == 0) = true) : ∀ (n3 : Nat) (v1 : Int32) (G2 : G_) (G16 : G_), f_X0_turnAndDry_l2_3 o n3 v1 G2 = some (G16) → X K 81 [] [] G16 → X K 2 [(0, .ref (kad K o)), (1, .int v1)] [] G2 := by
  intro n3
  induction n3 with
  | zero =>
    intro v1 G2 G16 hf hk
    cases hf
  | succ n3 ih =>
    intro v1 G2 G16 hf hk
    unfold f_X0_turnAndDry_l2_3 at hf
    refine x_iload_n hc 1 dX0_turnAndDry_2 rfl rfl ?_
    refine x_bipush (v := 12) hc rfl dX0_turnAndDry_3 ?_
    refine x_icmp_ge (tgt := 81) hc dX0_turnAndDry_5 rfl (fun c_5 => ?_) (fun c_5 => ?_)
    · replace hf := if_p hf c_5
      cases hf
      exact x_sub [] hk rfl
    · replace hf := if_n hf c_5
      refine x_aload_n hc 0 dX0_turnAndDry_8 rfl rfl ?_
      refine x_getR (T := TX0) (p0 := o) hc in_X0 rfl (by decide) (kdb k_o) 6 (by decide) tw_98 rfl rfl dX0_turnAndDry_9 ?_
      refine x_aload_n hc 0 dX0_turnAndDry_12 rfl rfl ?_
      refine x_getI (T := TX0) (p0 := o) hc in_X0 rfl (by decide) (kdb k_o) 13 (by decide) tw_109 rfl rfl dX0_turnAndDry_13 ?_
      obtain ⟨x4, r5, hf⟩ := bj1_ok hf
      refine x_callVr (As := [.int (G2.1 o 13)]) (p0 := o + 7) (v := (.int x4)) (T := TX2) hc (c_X2_kindAt (kl K) (kV K) (o + 7) (G2.1 o 13) G2 x4 r5) mw_X2_kindAt tw_410 (sh_X0_plan (kdb k_o)) (by decide) rfl rfl (Nat.le_of_ble_eq_true rfl) ⟨Nat.le_of_ble_eq_true rfl, Nat.le_of_ble_eq_true rfl⟩ dX0_turnAndDry_16 rfl ?_
      refine x_iconst (v := 4) hc rfl dX0_turnAndDry_19 ?_
      refine x_icmp_le (tgt := 81) hc dX0_turnAndDry_20 rfl (fun c_20 => ?_) (fun c_20 => ?_)
      · replace hf := if_p hf c_20
        cases hf
        exact x_sub [] hk rfl
      · replace hf := if_n hf c_20
        refine x_aload_n hc 0 dX0_turnAndDry_23 rfl rfl ?_
        refine x_getR (T := TX0) (p0 := o) hc in_X0 rfl (by decide) (kdb k_o) 6 (by decide) tw_98 rfl rfl dX0_turnAndDry_24 ?_
        refine x_aload_n hc 0 dX0_turnAndDry_27 rfl rfl ?_
        refine x_getI (T := TX0) (p0 := o) hc in_X0 rfl (by decide) (kdb k_o) 13 (by decide) tw_109 rfl rfl dX0_turnAndDry_28 ?_
        obtain ⟨x6, r7, hf⟩ := bj1_ok hf
        refine x_callVr (As := [.int (G2.1 o 13)]) (p0 := o + 7) (v := (.int x6)) (T := TX2) hc (c_X2_kindAt (kl K) (kV K) (o + 7) (G2.1 o 13) G2 x6 r7) mw_X2_kindAt tw_410 (sh_X0_plan (kdb k_o)) (by decide) rfl rfl (Nat.le_of_ble_eq_true rfl) ⟨Nat.le_of_ble_eq_true rfl, Nat.le_of_ble_eq_true rfl⟩ dX0_turnAndDry_31 rfl ?_
        refine x_iconst (v := 5) hc rfl dX0_turnAndDry_34 ?_
        obtain ⟨G14, hr, hf⟩ := bj1_ok hf
        have hj_65_8 : X K 65 [(0, .ref (kad K o)), (1, .int v1)] [] G14 := by
          clear hr
          refine x_aload_n hc 0 dX0_turnAndDry_65 rfl rfl ?_
          refine x_dup hc rfl dX0_turnAndDry_66 ?_
          refine x_getI (T := TX0) (p0 := o) hc in_X0 rfl (by decide) (kdb k_o) 13 (by decide) tw_109 rfl rfl dX0_turnAndDry_67 ?_
          refine x_iconst (v := 1) hc rfl dX0_turnAndDry_70 ?_
          refine x_iadd hc dX0_turnAndDry_71 ?_
          refine x_putI (T := TX0) (p0 := o) hc tyX0 tyX0_ok nmX0 in_X0 rfl (by decide) (kdb k_o) 13 (by decide) tw_109 rfl rfl rfl (by decide +kernel) dX0_turnAndDry_72 ?_
          refine x_nmg (fun G15 e_G15 => ?_)
          replace hf := nm_ok hf G15 e_G15
          refine x_iinc (v := v1 + 1) (L' := [(0, .ref (kad K o)), (1, .int (v1 + 1))]) hc 1 [1, 0] dX0_turnAndDry_75 rfl rfl (by decide) rfl ?_
          refine x_goto (tgt := 2) hc dX0_turnAndDry_78 rfl ?_
          exact x_sub [0, 1] (ih _ _ _ hf hk) rfl
        replace hf := hr
        clear hr
        refine x_icmp_ne (tgt := 51) hc dX0_turnAndDry_35 rfl (fun c_35 => ?_) (fun c_35 => ?_)
        · replace hf := if_n hf c_35
          refine x_aload_n hc 0 dX0_turnAndDry_51 rfl rfl ?_
          refine x_getR (T := TX0) (p0 := o) hc in_X0 rfl (by decide) (kdb k_o) 4 (by decide) tw_96 rfl rfl dX0_turnAndDry_52 ?_
          refine x_iconst (v := 0) hc rfl dX0_turnAndDry_55 ?_
          refine x_iconst (v := 0) hc rfl dX0_turnAndDry_56 ?_
          obtain ⟨h9, hf⟩ := chk_ok hf
          refine x_iastore (p0 := o + 5) hc (sh_X0_wet (kdb k_o)).1 (sh_X0_wet (kdb k_o)).2 h9 dX0_turnAndDry_57 ?_
          refine x_nmg (fun G10 e_G10 => ?_)
          replace hf := nm_ok hf G10 e_G10
          refine x_aload_n hc 0 dX0_turnAndDry_58 rfl rfl ?_
          refine x_getR (T := TX0) (p0 := o) hc in_X0 rfl (by decide) (kdb k_o) 4 (by decide) tw_96 rfl rfl dX0_turnAndDry_59 ?_
          refine x_iconst (v := 1) hc rfl dX0_turnAndDry_62 ?_
          refine x_iconst (v := 0) hc rfl dX0_turnAndDry_63 ?_
          obtain ⟨h11, hf⟩ := chk_ok hf
          refine x_iastore (p0 := o + 5) hc (sh_X0_wet (kdb k_o)).1 (sh_X0_wet (kdb k_o)).2 h11 dX0_turnAndDry_64 ?_
          refine x_nmg (fun G12 e_G12 => ?_)
          replace hf := nm_ok hf G12 e_G12
          cases hf
          exact x_sub [0, 1] hj_65_8 rfl
        · replace hf := if_p hf c_35
          refine x_aload_n hc 0 dX0_turnAndDry_38 rfl rfl ?_
          refine x_iconst (v := 1) hc rfl dX0_turnAndDry_39 ?_
          refine x_aload_n hc 0 dX0_turnAndDry_40 rfl rfl ?_
          refine x_getI (T := TX0) (p0 := o) hc in_X0 rfl (by decide) (kdb k_o) 11 (by decide) tw_106 rfl rfl dX0_turnAndDry_41 ?_
          refine x_isub hc dX0_turnAndDry_44 ?_
          refine x_putI (T := TX0) (p0 := o) hc tyX0 tyX0_ok nmX0 in_X0 rfl (by decide) (kdb k_o) 11 (by decide) tw_106 rfl rfl rfl (by decide +kernel) dX0_turnAndDry_45 ?_
          refine x_nmg (fun G13 e_G13 => ?_)
          replace hf := nm_ok hf G13 e_G13
          refine x_goto (tgt := 65) hc dX0_turnAndDry_48 rfl ?_
          cases hf
          exact x_sub [0, 1] hj_65_8 rfl
set_option maxHeartbeats 4000000 in
set_option maxRecDepth 100000 in
theorem c_X0_turnAndDry (l : Launch) (V : VT) (o : Nat) (G : G_) (G' : G_) (hf : f_X0_turnAndDry o G = some G') : MC l V yX0_turnAndDry cX0_turnAndDry 2 none 2 42 [.ref (V.2.2.1 o)] G none G' := by
  refine mc_of (by decide) (Nat.le_of_ble_eq_true rfl) (fun K hV ho hc hkl => ?_)
  subst hV
  replace hc : Ok K cX0_turnAndDry RX0 (Cond.code yX0_turnAndDry cX0_turnAndDry 2 none :: TB) none 2 42 2 := hc
  replace ho : Rets K none G' := ho
  show X K 0 [(0, .ref (kad K o))] [] G
  unfold f_X0_turnAndDry at hf
  obtain ⟨k_o, hf⟩ := chk_ok hf
  refine x_iconst (v := 0) hc rfl dX0_turnAndDry_0 ?_
  refine x_istore_n (L' := [(0, .ref (kad K o)), (1, .int 0)]) hc [1, 0] dX0_turnAndDry_1 rfl (by decide) rfl ?_
  obtain ⟨G16, hl_2, hf⟩ := bj1_ok hf
  have he_81_n3 : X K 81 [] [] G16 := by
    clear hl_2
    cases hf
    exact x_vret hc rfl ho dX0_turnAndDry_81
  exact x_sub [0, 1] (c_X0_turnAndDry_l2_3 o hc k_o FU 0 G G16 hl_2 he_81_n3) rfl
def f_X0_heat_l46_15 (o : Nat) (a1 : Int32) : Nat → Int32 → G_ → Option (G_)
  | 0, _, _ => none
  | n15 + 1, v13, G14 =>
    if G14.1 o 8 ≤ v13 then (
      some (G14))
    else (
      if 20 ≤ v13 then (
        some (G14))
      else (
        chk (inb v13 20) <|
        chk (inb v13 20) <|
        chk (inb v13 20) <|
        nm (sI G14 (o + 3) (ix v13) (mx (G14.1 (o + 3) (ix v13)) (G14.1 (o + 1) (ix v13)))) fun G19 =>
        chk (inb v13 20) <|
        chk (inb v13 20) <|
        nm (sI G19 (o + 4) (ix v13) (mx ((G19.1 (o + 4) (ix v13)) - ((mx ((G14.1 (o + 1) (ix v13)) - 550) 0) / 100)) 0)) fun G22 =>
        f_X0_heat_l46_15 o a1 n15 (v13 + 1) G22))
def f_X0_heat (o : Nat) (a1 : Int32) (a2 : Int32) (G : G_) : Option G_ :=
  chk (kd o == 0) <|
  bj1 (f_X0_spread o a1 a2 G) fun G1 =>
  bj1 (f_X0_boil o 0 0 G1) fun G3 =>
  bj1 (f_X0_boil o 1 ((G3.1 o 8) - 1) G3) fun G5 =>
  bj1 (
    if a1 = 3 then (
      chk (inb 0 2) <|
      nm (sI G5 (o + 5) (ix 0) 30) fun G9 =>
      chk (inb 1 2) <|
      nm (sI G9 (o + 5) (ix 1) 30) fun G11 =>
      some (G11))
    else (
      some (G5))) fun (G12 : G_) =>
  bj1 (f_X0_heat_l46_15 o a1 FU 0 G12) fun G23 =>
  bj1 (f_X0_browns o 0 0 G23) fun G24 =>
  bj1 (f_X0_browns o 1 ((G24.1 o 8) - 1) G24) fun G26 =>
  nm (sI G26 o 15 a1) fun G28 =>
  if a1 = 4 then (
    nm (sI G28 o 16 ((G28.1 o 16) + 1)) fun G31 =>
    nm (sI G31 o 12 ((G31.1 o 12) + 1)) fun G32 =>
    some G32)
  else (
    nm (sI G28 o 16 0) fun G29 =>
    nm (sI G29 o 12 ((G29.1 o 12) + 1)) fun G30 =>
    some G30)
set_option maxHeartbeats 4000000 in
set_option maxRecDepth 100000 in
theorem c_X0_heat_l46_15 {K : CT} (o : Nat) (a1 : Int32) (hc : Ok K cX0_heat RX0 (Cond.code yX0_heat cX0_heat 5 none :: TB) none 2 47 5) (k_o : (kd o == 0) = true) : ∀ (n15 : Nat) (v13 : Int32) (G14 : G_) (G23 : G_), f_X0_heat_l46_15 o a1 n15 v13 G14 = some (G23) → X K 121 [(0, .ref (kad K o)), (1, .int a1)] [] G23 → X K 46 [(0, .ref (kad K o)), (1, .int a1), (3, .int v13)] [] G14 := by
  intro n15
  induction n15 with
  | zero =>
    intro v13 G14 G23 hf hk
    cases hf
  | succ n15 ih =>
    intro v13 G14 G23 hf hk
    unfold f_X0_heat_l46_15 at hf
    refine x_iload_n hc 2 dX0_heat_46 rfl rfl ?_
    refine x_aload_n hc 0 dX0_heat_47 rfl rfl ?_
    refine x_getI (T := TX0) (p0 := o) hc in_X0 rfl (by decide) (kdb k_o) 8 (by decide) tw_102 rfl rfl dX0_heat_48 ?_
    refine x_icmp_ge (tgt := 121) hc dX0_heat_51 rfl (fun c_51 => ?_) (fun c_51 => ?_)
    · replace hf := if_p hf c_51
      cases hf
      exact x_sub [0, 1] hk rfl
    · replace hf := if_n hf c_51
      refine x_iload_n hc 2 dX0_heat_54 rfl rfl ?_
      refine x_bipush (v := 20) hc rfl dX0_heat_55 ?_
      refine x_icmp_ge (tgt := 121) hc dX0_heat_57 rfl (fun c_57 => ?_) (fun c_57 => ?_)
      · replace hf := if_p hf c_57
        cases hf
        exact x_sub [0, 1] hk rfl
      · replace hf := if_n hf c_57
        refine x_aload_n hc 0 dX0_heat_60 rfl rfl ?_
        refine x_getR (T := TX0) (p0 := o) hc in_X0 rfl (by decide) (kdb k_o) 0 (by decide) tw_92 rfl rfl dX0_heat_61 ?_
        refine x_iload_n hc 2 dX0_heat_64 rfl rfl ?_
        obtain ⟨h16, hf⟩ := chk_ok hf
        refine x_iaload (p0 := o + 1) hc (sh_X0_warmth (kdb k_o)).1 (sh_X0_warmth (kdb k_o)).2 h16 dX0_heat_65 ?_
        refine x_istore (L' := [(0, .ref (kad K o)), (1, .int a1), (3, .int v13), (4, .int (G14.1 (o + 1) (ix v13)))]) hc [1, 2, 3, 0] dX0_heat_66 (by decide) rfl ?_
        refine x_aload_n hc 0 dX0_heat_68 rfl rfl ?_
        refine x_getR (T := TX0) (p0 := o) hc in_X0 rfl (by decide) (kdb k_o) 2 (by decide) tw_94 rfl rfl dX0_heat_69 ?_
        refine x_iload_n hc 2 dX0_heat_72 rfl rfl ?_
        refine x_aload_n hc 0 dX0_heat_73 rfl rfl ?_
        refine x_getR (T := TX0) (p0 := o) hc in_X0 rfl (by decide) (kdb k_o) 2 (by decide) tw_94 rfl rfl dX0_heat_74 ?_
        refine x_iload_n hc 2 dX0_heat_77 rfl rfl ?_
        obtain ⟨h17, hf⟩ := chk_ok hf
        refine x_iaload (p0 := o + 3) hc (sh_X0_most (kdb k_o)).1 (sh_X0_most (kdb k_o)).2 h17 dX0_heat_78 ?_
        refine x_iload hc 3 dX0_heat_79 rfl ?_
        refine x_mmax hc tw_393 tw_394 tw_36 tw_395 (Nat.le_of_ble_eq_true rfl) (Nat.le_of_ble_eq_true rfl) dX0_heat_81 ?_
        obtain ⟨h18, hf⟩ := chk_ok hf
        refine x_iastore (p0 := o + 3) hc (sh_X0_most (kdb k_o)).1 (sh_X0_most (kdb k_o)).2 h18 dX0_heat_84 ?_
        refine x_nmg (fun G19 e_G19 => ?_)
        replace hf := nm_ok hf G19 e_G19
        refine x_aload_n hc 0 dX0_heat_85 rfl rfl ?_
        refine x_getR (T := TX0) (p0 := o) hc in_X0 rfl (by decide) (kdb k_o) 3 (by decide) tw_95 rfl rfl dX0_heat_86 ?_
        refine x_iload_n hc 2 dX0_heat_89 rfl rfl ?_
        refine x_aload_n hc 0 dX0_heat_90 rfl rfl ?_
        refine x_getR (T := TX0) (p0 := o) hc in_X0 rfl (by decide) (kdb k_o) 3 (by decide) tw_95 rfl rfl dX0_heat_91 ?_
        refine x_iload_n hc 2 dX0_heat_94 rfl rfl ?_
        obtain ⟨h20, hf⟩ := chk_ok hf
        refine x_iaload (p0 := o + 4) hc (sh_X0_juice (kdb k_o)).1 (sh_X0_juice (kdb k_o)).2 h20 dX0_heat_95 ?_
        refine x_iload hc 3 dX0_heat_96 rfl ?_
        refine x_sipush (v := 550) hc rfl dX0_heat_98 ?_
        refine x_isub hc dX0_heat_101 ?_
        refine x_iconst (v := 0) hc rfl dX0_heat_102 ?_
        refine x_mmax hc tw_393 tw_394 tw_36 tw_395 (Nat.le_of_ble_eq_true rfl) (Nat.le_of_ble_eq_true rfl) dX0_heat_103 ?_
        refine x_bipush (v := 100) hc rfl dX0_heat_106 ?_
        refine x_idiv hc (by decide) dX0_heat_108 ?_
        refine x_isub hc dX0_heat_109 ?_
        refine x_iconst (v := 0) hc rfl dX0_heat_110 ?_
        refine x_mmax hc tw_393 tw_394 tw_36 tw_395 (Nat.le_of_ble_eq_true rfl) (Nat.le_of_ble_eq_true rfl) dX0_heat_111 ?_
        obtain ⟨h21, hf⟩ := chk_ok hf
        refine x_iastore (p0 := o + 4) hc (sh_X0_juice (kdb k_o)).1 (sh_X0_juice (kdb k_o)).2 h21 dX0_heat_114 ?_
        refine x_nmg (fun G22 e_G22 => ?_)
        replace hf := nm_ok hf G22 e_G22
        refine x_iinc (v := v13 + 1) (L' := [(0, .ref (kad K o)), (1, .int a1), (3, .int (v13 + 1))]) hc 2 [1, 2, 0] dX0_heat_115 rfl rfl (by decide) rfl ?_
        refine x_goto (tgt := 46) hc dX0_heat_118 rfl ?_
        exact x_sub [0, 1, 2] (ih _ _ _ hf hk) rfl
set_option maxHeartbeats 4000000 in
set_option maxRecDepth 100000 in
theorem c_X0_heat (l : Launch) (V : VT) (o : Nat) (a1 : Int32) (a2 : Int32) (G : G_) (G' : G_) (hf : f_X0_heat o a1 a2 G = some G') : MC l V yX0_heat cX0_heat 5 none 2 47 [.ref (V.2.2.1 o), .int a1, .int a2] G none G' := by
  refine mc_of (by decide) (Nat.le_of_ble_eq_true rfl) (fun K hV ho hc hkl => ?_)
  subst hV
  replace hc : Ok K cX0_heat RX0 (Cond.code yX0_heat cX0_heat 5 none :: TB) none 2 47 5 := hc
  replace ho : Rets K none G' := ho
  show X K 0 [(0, .ref (kad K o)), (1, .int a1), (2, .int a2)] [] G
  unfold f_X0_heat at hf
  obtain ⟨k_o, hf⟩ := chk_ok hf
  refine x_aload_n hc 0 dX0_heat_0 rfl rfl ?_
  refine x_iload_n hc 1 dX0_heat_1 rfl rfl ?_
  refine x_iload_n hc 2 dX0_heat_2 rfl rfl ?_
  obtain ⟨G1, r2, hf⟩ := bj1_ok hf
  refine x_callVv (As := [.int a1, .int a2]) (p0 := o) (T := TX0) hc (c_X0_spread (kl K) (kV K) o a1 a2 G G1 r2) mw_X0_spread tw_417 (kdb k_o) (by decide) rfl rfl (Nat.le_of_ble_eq_true rfl) ⟨Nat.le_of_ble_eq_true rfl, Nat.le_of_ble_eq_true rfl⟩ dX0_heat_3 rfl ?_
  refine x_aload_n hc 0 dX0_heat_6 rfl rfl ?_
  refine x_iconst (v := 0) hc rfl dX0_heat_7 ?_
  refine x_iconst (v := 0) hc rfl dX0_heat_8 ?_
  obtain ⟨G3, r4, hf⟩ := bj1_ok hf
  refine x_callVv (As := [.int 0, .int 0]) (p0 := o) (T := TX0) hc (c_X0_boil (kl K) (kV K) o 0 0 G1 G3 r4) mw_X0_boil tw_424 (kdb k_o) (by decide) rfl rfl (Nat.le_of_ble_eq_true rfl) ⟨Nat.le_of_ble_eq_true rfl, Nat.le_of_ble_eq_true rfl⟩ dX0_heat_9 rfl ?_
  refine x_aload_n hc 0 dX0_heat_12 rfl rfl ?_
  refine x_iconst (v := 1) hc rfl dX0_heat_13 ?_
  refine x_aload_n hc 0 dX0_heat_14 rfl rfl ?_
  refine x_getI (T := TX0) (p0 := o) hc in_X0 rfl (by decide) (kdb k_o) 8 (by decide) tw_102 rfl rfl dX0_heat_15 ?_
  refine x_iconst (v := 1) hc rfl dX0_heat_18 ?_
  refine x_isub hc dX0_heat_19 ?_
  obtain ⟨G5, r6, hf⟩ := bj1_ok hf
  refine x_callVv (As := [.int 1, .int ((G3.1 o 8) - 1)]) (p0 := o) (T := TX0) hc (c_X0_boil (kl K) (kV K) o 1 ((G3.1 o 8) - 1) G3 G5 r6) mw_X0_boil tw_424 (kdb k_o) (by decide) rfl rfl (Nat.le_of_ble_eq_true rfl) ⟨Nat.le_of_ble_eq_true rfl, Nat.le_of_ble_eq_true rfl⟩ dX0_heat_20 rfl ?_
  refine x_iload_n hc 1 dX0_heat_23 rfl rfl ?_
  refine x_iconst (v := 3) hc rfl dX0_heat_24 ?_
  obtain ⟨G12, hr, hf⟩ := bj1_ok hf
  have hj_44_7 : X K 44 [(0, .ref (kad K o)), (1, .int a1)] [] G12 := by
    clear hr
    refine x_iconst (v := 0) hc rfl dX0_heat_44 ?_
    refine x_istore_n (L' := [(0, .ref (kad K o)), (1, .int a1), (3, .int 0)]) hc [1, 2, 0] dX0_heat_45 rfl (by decide) rfl ?_
    obtain ⟨G23, hl_46, hf⟩ := bj1_ok hf
    have he_121_n15 : X K 121 [(0, .ref (kad K o)), (1, .int a1)] [] G23 := by
      clear hl_46
      refine x_aload_n hc 0 dX0_heat_121 rfl rfl ?_
      refine x_iconst (v := 0) hc rfl dX0_heat_122 ?_
      refine x_iconst (v := 0) hc rfl dX0_heat_123 ?_
      obtain ⟨G24, r25, hf⟩ := bj1_ok hf
      refine x_callVv (As := [.int 0, .int 0]) (p0 := o) (T := TX0) hc (c_X0_browns (kl K) (kV K) o 0 0 G23 G24 r25) mw_X0_browns tw_428 (kdb k_o) (by decide) rfl rfl (Nat.le_of_ble_eq_true rfl) ⟨Nat.le_of_ble_eq_true rfl, Nat.le_of_ble_eq_true rfl⟩ dX0_heat_124 rfl ?_
      refine x_aload_n hc 0 dX0_heat_127 rfl rfl ?_
      refine x_iconst (v := 1) hc rfl dX0_heat_128 ?_
      refine x_aload_n hc 0 dX0_heat_129 rfl rfl ?_
      refine x_getI (T := TX0) (p0 := o) hc in_X0 rfl (by decide) (kdb k_o) 8 (by decide) tw_102 rfl rfl dX0_heat_130 ?_
      refine x_iconst (v := 1) hc rfl dX0_heat_133 ?_
      refine x_isub hc dX0_heat_134 ?_
      obtain ⟨G26, r27, hf⟩ := bj1_ok hf
      refine x_callVv (As := [.int 1, .int ((G24.1 o 8) - 1)]) (p0 := o) (T := TX0) hc (c_X0_browns (kl K) (kV K) o 1 ((G24.1 o 8) - 1) G24 G26 r27) mw_X0_browns tw_428 (kdb k_o) (by decide) rfl rfl (Nat.le_of_ble_eq_true rfl) ⟨Nat.le_of_ble_eq_true rfl, Nat.le_of_ble_eq_true rfl⟩ dX0_heat_135 rfl ?_
      refine x_aload_n hc 0 dX0_heat_138 rfl rfl ?_
      refine x_iload_n hc 1 dX0_heat_139 rfl rfl ?_
      refine x_putI (T := TX0) (p0 := o) hc tyX0 tyX0_ok nmX0 in_X0 rfl (by decide) (kdb k_o) 15 (by decide) tw_111 rfl rfl rfl (by decide +kernel) dX0_heat_140 ?_
      refine x_nmg (fun G28 e_G28 => ?_)
      replace hf := nm_ok hf G28 e_G28
      refine x_aload_n hc 0 dX0_heat_143 rfl rfl ?_
      refine x_iload_n hc 1 dX0_heat_144 rfl rfl ?_
      refine x_iconst (v := 4) hc rfl dX0_heat_145 ?_
      refine x_icmp_ne (tgt := 158) hc dX0_heat_146 rfl (fun c_146 => ?_) (fun c_146 => ?_)
      · replace hf := if_n hf c_146
        refine x_iconst (v := 0) hc rfl dX0_heat_158 ?_
        refine x_putI (T := TX0) (p0 := o) hc tyX0 tyX0_ok nmX0 in_X0 rfl (by decide) (kdb k_o) 16 (by decide) tw_112 rfl rfl rfl (by decide +kernel) dX0_heat_159 ?_
        refine x_nmg (fun G29 e_G29 => ?_)
        replace hf := nm_ok hf G29 e_G29
        refine x_aload_n hc 0 dX0_heat_162 rfl rfl ?_
        refine x_dup hc rfl dX0_heat_163 ?_
        refine x_getI (T := TX0) (p0 := o) hc in_X0 rfl (by decide) (kdb k_o) 12 (by decide) tw_107 rfl rfl dX0_heat_164 ?_
        refine x_iconst (v := 1) hc rfl dX0_heat_167 ?_
        refine x_iadd hc dX0_heat_168 ?_
        refine x_putI (T := TX0) (p0 := o) hc tyX0 tyX0_ok nmX0 in_X0 rfl (by decide) (kdb k_o) 12 (by decide) tw_107 rfl rfl rfl (by decide +kernel) dX0_heat_169 ?_
        refine x_nmg (fun G30 e_G30 => ?_)
        replace hf := nm_ok hf G30 e_G30
        cases hf
        exact x_vret hc rfl ho dX0_heat_172
      · replace hf := if_p hf c_146
        refine x_aload_n hc 0 dX0_heat_149 rfl rfl ?_
        refine x_getI (T := TX0) (p0 := o) hc in_X0 rfl (by decide) (kdb k_o) 16 (by decide) tw_112 rfl rfl dX0_heat_150 ?_
        refine x_iconst (v := 1) hc rfl dX0_heat_153 ?_
        refine x_iadd hc dX0_heat_154 ?_
        refine x_goto (tgt := 159) hc dX0_heat_155 rfl ?_
        refine x_putI (T := TX0) (p0 := o) hc tyX0 tyX0_ok nmX0 in_X0 rfl (by decide) (kdb k_o) 16 (by decide) tw_112 rfl rfl rfl (by decide +kernel) dX0_heat_159 ?_
        refine x_nmg (fun G31 e_G31 => ?_)
        replace hf := nm_ok hf G31 e_G31
        refine x_aload_n hc 0 dX0_heat_162 rfl rfl ?_
        refine x_dup hc rfl dX0_heat_163 ?_
        refine x_getI (T := TX0) (p0 := o) hc in_X0 rfl (by decide) (kdb k_o) 12 (by decide) tw_107 rfl rfl dX0_heat_164 ?_
        refine x_iconst (v := 1) hc rfl dX0_heat_167 ?_
        refine x_iadd hc dX0_heat_168 ?_
        refine x_putI (T := TX0) (p0 := o) hc tyX0 tyX0_ok nmX0 in_X0 rfl (by decide) (kdb k_o) 12 (by decide) tw_107 rfl rfl rfl (by decide +kernel) dX0_heat_169 ?_
        refine x_nmg (fun G32 e_G32 => ?_)
        replace hf := nm_ok hf G32 e_G32
        cases hf
        exact x_vret hc rfl ho dX0_heat_172
    exact x_sub [0, 1, 2] (c_X0_heat_l46_15 o a1 hc k_o FU 0 G12 G23 hl_46 he_121_n15) rfl
  replace hf := hr
  clear hr
  refine x_icmp_ne (tgt := 44) hc dX0_heat_25 rfl (fun c_25 => ?_) (fun c_25 => ?_)
  · replace hf := if_n hf c_25
    cases hf
    exact x_sub [0, 1] hj_44_7 rfl
  · replace hf := if_p hf c_25
    refine x_aload_n hc 0 dX0_heat_28 rfl rfl ?_
    refine x_getR (T := TX0) (p0 := o) hc in_X0 rfl (by decide) (kdb k_o) 4 (by decide) tw_96 rfl rfl dX0_heat_29 ?_
    refine x_iconst (v := 0) hc rfl dX0_heat_32 ?_
    refine x_bipush (v := 30) hc rfl dX0_heat_33 ?_
    obtain ⟨h8, hf⟩ := chk_ok hf
    refine x_iastore (p0 := o + 5) hc (sh_X0_wet (kdb k_o)).1 (sh_X0_wet (kdb k_o)).2 h8 dX0_heat_35 ?_
    refine x_nmg (fun G9 e_G9 => ?_)
    replace hf := nm_ok hf G9 e_G9
    refine x_aload_n hc 0 dX0_heat_36 rfl rfl ?_
    refine x_getR (T := TX0) (p0 := o) hc in_X0 rfl (by decide) (kdb k_o) 4 (by decide) tw_96 rfl rfl dX0_heat_37 ?_
    refine x_iconst (v := 1) hc rfl dX0_heat_40 ?_
    refine x_bipush (v := 30) hc rfl dX0_heat_41 ?_
    obtain ⟨h10, hf⟩ := chk_ok hf
    refine x_iastore (p0 := o + 5) hc (sh_X0_wet (kdb k_o)).1 (sh_X0_wet (kdb k_o)).2 h10 dX0_heat_43 ?_
    refine x_nmg (fun G11 e_G11 => ?_)
    replace hf := nm_ok hf G11 e_G11
    cases hf
    exact x_sub [0, 1] hj_44_7 rfl
def f_X0_middleWarmth (o : Nat) (G : G_) : Option Int32 :=
  chk (kd o == 0) <|
  bj1 (f_X0_middle o G) fun x1 =>
  bj1 (f_X0_warmthAt o x1 G) fun x3 =>
  some x3
set_option maxHeartbeats 4000000 in
set_option maxRecDepth 100000 in
theorem c_X0_middleWarmth (l : Launch) (V : VT) (o : Nat) (G : G_) (r : Int32) (hf : f_X0_middleWarmth o G = some r) : MC l V yX0_middleWarmth cX0_middleWarmth 1 (some .int) 2 42 [.ref (V.2.2.1 o)] G (some (.int r)) G := by
  refine mc_of (by decide) (Nat.le_of_ble_eq_true rfl) (fun K hV ho hc hkl => ?_)
  subst hV
  replace hc : Ok K cX0_middleWarmth RX0 (Cond.code yX0_middleWarmth cX0_middleWarmth 1 (some .int) :: TB) (some .int) 2 42 1 := hc
  replace ho : Rets K (some (.int r)) G := ho
  show X K 0 [(0, .ref (kad K o))] [] G
  unfold f_X0_middleWarmth at hf
  obtain ⟨k_o, hf⟩ := chk_ok hf
  refine x_aload_n hc 0 dX0_middleWarmth_0 rfl rfl ?_
  refine x_aload_n hc 0 dX0_middleWarmth_1 rfl rfl ?_
  obtain ⟨x1, r2, hf⟩ := bj1_ok hf
  refine x_callVr (As := []) (p0 := o) (v := (.int x1)) (T := TX0) hc (c_X0_middle (kl K) (kV K) o G x1 r2) mw_X0_middle tw_553 (kdb k_o) (by decide) rfl rfl (Nat.le_of_ble_eq_true rfl) ⟨Nat.le_of_ble_eq_true rfl, Nat.le_of_ble_eq_true rfl⟩ dX0_middleWarmth_2 rfl ?_
  obtain ⟨x3, r4, hf⟩ := bj1_ok hf
  refine x_callVr (As := [.int x1]) (p0 := o) (v := (.int x3)) (T := TX0) hc (c_X0_warmthAt (kl K) (kV K) o x1 G x3 r4) mw_X0_warmthAt tw_441 (kdb k_o) (by decide) rfl rfl (Nat.le_of_ble_eq_true rfl) ⟨Nat.le_of_ble_eq_true rfl, Nat.le_of_ble_eq_true rfl⟩ dX0_middleWarmth_5 rfl ?_
  cases hf
  exact x_iret hc rfl ho dX0_middleWarmth_8
def f_X0_middleMost (o : Nat) (G : G_) : Option Int32 :=
  chk (kd o == 0) <|
  bj1 (f_X0_middle o G) fun x1 =>
  bj1 (f_X0_mostAt o x1 G) fun x3 =>
  some x3
set_option maxHeartbeats 4000000 in
set_option maxRecDepth 100000 in
theorem c_X0_middleMost (l : Launch) (V : VT) (o : Nat) (G : G_) (r : Int32) (hf : f_X0_middleMost o G = some r) : MC l V yX0_middleMost cX0_middleMost 1 (some .int) 2 42 [.ref (V.2.2.1 o)] G (some (.int r)) G := by
  refine mc_of (by decide) (Nat.le_of_ble_eq_true rfl) (fun K hV ho hc hkl => ?_)
  subst hV
  replace hc : Ok K cX0_middleMost RX0 (Cond.code yX0_middleMost cX0_middleMost 1 (some .int) :: TB) (some .int) 2 42 1 := hc
  replace ho : Rets K (some (.int r)) G := ho
  show X K 0 [(0, .ref (kad K o))] [] G
  unfold f_X0_middleMost at hf
  obtain ⟨k_o, hf⟩ := chk_ok hf
  refine x_aload_n hc 0 dX0_middleMost_0 rfl rfl ?_
  refine x_aload_n hc 0 dX0_middleMost_1 rfl rfl ?_
  obtain ⟨x1, r2, hf⟩ := bj1_ok hf
  refine x_callVr (As := []) (p0 := o) (v := (.int x1)) (T := TX0) hc (c_X0_middle (kl K) (kV K) o G x1 r2) mw_X0_middle tw_553 (kdb k_o) (by decide) rfl rfl (Nat.le_of_ble_eq_true rfl) ⟨Nat.le_of_ble_eq_true rfl, Nat.le_of_ble_eq_true rfl⟩ dX0_middleMost_2 rfl ?_
  obtain ⟨x3, r4, hf⟩ := bj1_ok hf
  refine x_callVr (As := [.int x1]) (p0 := o) (v := (.int x3)) (T := TX0) hc (c_X0_mostAt (kl K) (kV K) o x1 G x3 r4) mw_X0_mostAt tw_449 (kdb k_o) (by decide) rfl rfl (Nat.le_of_ble_eq_true rfl) ⟨Nat.le_of_ble_eq_true rfl, Nat.le_of_ble_eq_true rfl⟩ dX0_middleMost_5 rfl ?_
  cases hf
  exact x_iret hc rfl ho dX0_middleMost_8
def f_X0_depthTells (o : Nat) (a1 : Int32) (a2 : Int32) (G : G_) : Option Int32 :=
  chk (kd o == 0) <|
  if a2 = 0 then (
    bj1 (f_X0_warmthAt o a1 G) fun x1 =>
    some x1)
  else if a2 = 1 then (
    bj1 (f_X0_mostAt o a1 G) fun x3 =>
    some x3)
  else (
    bj1 (f_X0_juiceAt o a1 G) fun x5 =>
    some x5)
set_option maxHeartbeats 4000000 in
set_option maxRecDepth 100000 in
theorem c_X0_depthTells (l : Launch) (V : VT) (o : Nat) (a1 : Int32) (a2 : Int32) (G : G_) (r : Int32) (hf : f_X0_depthTells o a1 a2 G = some r) : MC l V yX0_depthTells cX0_depthTells 3 (some .int) 2 42 [.ref (V.2.2.1 o), .int a1, .int a2] G (some (.int r)) G := by
  refine mc_of (by decide) (Nat.le_of_ble_eq_true rfl) (fun K hV ho hc hkl => ?_)
  subst hV
  replace hc : Ok K cX0_depthTells RX0 (Cond.code yX0_depthTells cX0_depthTells 3 (some .int) :: TB) (some .int) 2 42 3 := hc
  replace ho : Rets K (some (.int r)) G := ho
  show X K 0 [(0, .ref (kad K o)), (1, .int a1), (2, .int a2)] [] G
  unfold f_X0_depthTells at hf
  obtain ⟨k_o, hf⟩ := chk_ok hf
  refine x_iload_n hc 2 dX0_depthTells_0 rfl rfl ?_
  by_cases s_1_0 : a2 = 0
  · replace hf := if_p hf s_1_0
    refine x_lsw (off := 27) (tgt := 28) hc dX0_depthTells_1 rfl (by first | (rw [s_1_0]; done) | (rw [s_1_0]; rfl)) rfl ?_
    refine x_aload_n hc 0 dX0_depthTells_28 rfl rfl ?_
    refine x_iload_n hc 1 dX0_depthTells_29 rfl rfl ?_
    obtain ⟨x1, r2, hf⟩ := bj1_ok hf
    refine x_callVr (As := [.int a1]) (p0 := o) (v := (.int x1)) (T := TX0) hc (c_X0_warmthAt (kl K) (kV K) o a1 G x1 r2) mw_X0_warmthAt tw_441 (kdb k_o) (by decide) rfl rfl (Nat.le_of_ble_eq_true rfl) ⟨Nat.le_of_ble_eq_true rfl, Nat.le_of_ble_eq_true rfl⟩ dX0_depthTells_30 rfl ?_
    cases hf
    exact x_iret hc rfl ho dX0_depthTells_33
  replace hf := if_n hf s_1_0
  by_cases s_1_1 : a2 = 1
  · replace hf := if_p hf s_1_1
    refine x_lsw (off := 33) (tgt := 34) hc dX0_depthTells_1 rfl (by first | (rw [s_1_1]; done) | (rw [s_1_1]; rfl)) rfl ?_
    refine x_aload_n hc 0 dX0_depthTells_34 rfl rfl ?_
    refine x_iload_n hc 1 dX0_depthTells_35 rfl rfl ?_
    obtain ⟨x3, r4, hf⟩ := bj1_ok hf
    refine x_callVr (As := [.int a1]) (p0 := o) (v := (.int x3)) (T := TX0) hc (c_X0_mostAt (kl K) (kV K) o a1 G x3 r4) mw_X0_mostAt tw_449 (kdb k_o) (by decide) rfl rfl (Nat.le_of_ble_eq_true rfl) ⟨Nat.le_of_ble_eq_true rfl, Nat.le_of_ble_eq_true rfl⟩ dX0_depthTells_36 rfl ?_
    cases hf
    exact x_iret hc rfl ho dX0_depthTells_39
  replace hf := if_n hf s_1_1
  refine x_lsw (off := 39) (tgt := 40) hc dX0_depthTells_1 rfl (by refine (lv_osw s_1_0 rfl).trans ?_; refine (lv_osw s_1_1 rfl).trans ?_; rfl) rfl ?_
  refine x_aload_n hc 0 dX0_depthTells_40 rfl rfl ?_
  refine x_iload_n hc 1 dX0_depthTells_41 rfl rfl ?_
  obtain ⟨x5, r6, hf⟩ := bj1_ok hf
  refine x_callVr (As := [.int a1]) (p0 := o) (v := (.int x5)) (T := TX0) hc (c_X0_juiceAt (kl K) (kV K) o a1 G x5 r6) mw_X0_juiceAt tw_453 (kdb k_o) (by decide) rfl rfl (Nat.le_of_ble_eq_true rfl) ⟨Nat.le_of_ble_eq_true rfl, Nat.le_of_ble_eq_true rfl⟩ dX0_depthTells_42 rfl ?_
  cases hf
  exact x_iret hc rfl ho dX0_depthTells_45
def f_X0_skinTells (o : Nat) (a1 : Int32) (a2 : Int32) (G : G_) : Option Int32 :=
  chk (kd o == 0) <|
  if a2 = 0 then (
    bj1 (f_X0_kindOf o a1 G) fun x1 =>
    some x1)
  else if a2 = 1 then (
    bj1 (f_X0_wetOf o a1 G) fun x3 =>
    some x3)
  else if a2 = 2 then (
    bj1 (f_X0_brownOf o a1 G) fun x5 =>
    some x5)
  else (
    if G.1 o 11 = a1 then (
      some 1)
    else (
      some 0))
set_option maxHeartbeats 4000000 in
set_option maxRecDepth 100000 in
theorem c_X0_skinTells (l : Launch) (V : VT) (o : Nat) (a1 : Int32) (a2 : Int32) (G : G_) (r : Int32) (hf : f_X0_skinTells o a1 a2 G = some r) : MC l V yX0_skinTells cX0_skinTells 3 (some .int) 2 42 [.ref (V.2.2.1 o), .int a1, .int a2] G (some (.int r)) G := by
  refine mc_of (by decide) (Nat.le_of_ble_eq_true rfl) (fun K hV ho hc hkl => ?_)
  subst hV
  replace hc : Ok K cX0_skinTells RX0 (Cond.code yX0_skinTells cX0_skinTells 3 (some .int) :: TB) (some .int) 2 42 3 := hc
  replace ho : Rets K (some (.int r)) G := ho
  show X K 0 [(0, .ref (kad K o)), (1, .int a1), (2, .int a2)] [] G
  unfold f_X0_skinTells at hf
  obtain ⟨k_o, hf⟩ := chk_ok hf
  refine x_iload_n hc 2 dX0_skinTells_0 rfl rfl ?_
  by_cases s_1_0 : a2 = 0
  · replace hf := if_p hf s_1_0
    refine x_tsIn (tgt := 28) hc dX0_skinTells_1 0 s_1_0 (by decide) (by decide) rfl rfl ?_
    refine x_aload_n hc 0 dX0_skinTells_28 rfl rfl ?_
    refine x_iload_n hc 1 dX0_skinTells_29 rfl rfl ?_
    obtain ⟨x1, r2, hf⟩ := bj1_ok hf
    refine x_callVr (As := [.int a1]) (p0 := o) (v := (.int x1)) (T := TX0) hc (c_X0_kindOf (kl K) (kV K) o a1 G x1 r2) mw_X0_kindOf tw_469 (kdb k_o) (by decide) rfl rfl (Nat.le_of_ble_eq_true rfl) ⟨Nat.le_of_ble_eq_true rfl, Nat.le_of_ble_eq_true rfl⟩ dX0_skinTells_30 rfl ?_
    cases hf
    exact x_iret hc rfl ho dX0_skinTells_33
  replace hf := if_n hf s_1_0
  by_cases s_1_1 : a2 = 1
  · replace hf := if_p hf s_1_1
    refine x_tsIn (tgt := 34) hc dX0_skinTells_1 1 s_1_1 (by decide) (by decide) rfl rfl ?_
    refine x_aload_n hc 0 dX0_skinTells_34 rfl rfl ?_
    refine x_iload_n hc 1 dX0_skinTells_35 rfl rfl ?_
    obtain ⟨x3, r4, hf⟩ := bj1_ok hf
    refine x_callVr (As := [.int a1]) (p0 := o) (v := (.int x3)) (T := TX0) hc (c_X0_wetOf (kl K) (kV K) o a1 G x3 r4) mw_X0_wetOf tw_477 (kdb k_o) (by decide) rfl rfl (Nat.le_of_ble_eq_true rfl) ⟨Nat.le_of_ble_eq_true rfl, Nat.le_of_ble_eq_true rfl⟩ dX0_skinTells_36 rfl ?_
    cases hf
    exact x_iret hc rfl ho dX0_skinTells_39
  replace hf := if_n hf s_1_1
  by_cases s_1_2 : a2 = 2
  · replace hf := if_p hf s_1_2
    refine x_tsIn (tgt := 40) hc dX0_skinTells_1 2 s_1_2 (by decide) (by decide) rfl rfl ?_
    refine x_aload_n hc 0 dX0_skinTells_40 rfl rfl ?_
    refine x_iload_n hc 1 dX0_skinTells_41 rfl rfl ?_
    obtain ⟨x5, r6, hf⟩ := bj1_ok hf
    refine x_callVr (As := [.int a1]) (p0 := o) (v := (.int x5)) (T := TX0) hc (c_X0_brownOf (kl K) (kV K) o a1 G x5 r6) mw_X0_brownOf tw_473 (kdb k_o) (by decide) rfl rfl (Nat.le_of_ble_eq_true rfl) ⟨Nat.le_of_ble_eq_true rfl, Nat.le_of_ble_eq_true rfl⟩ dX0_skinTells_42 rfl ?_
    cases hf
    exact x_iret hc rfl ho dX0_skinTells_45
  replace hf := if_n hf s_1_2
  refine x_tsDef (tgt := 46) hc dX0_skinTells_1 [0, 1, 2] 3 rfl (by decide +kernel) (List.forall_mem_cons.mpr ⟨s_1_0, List.forall_mem_cons.mpr ⟨s_1_1, List.forall_mem_cons.mpr ⟨s_1_2, fun _ h => absurd h List.not_mem_nil⟩⟩⟩) rfl ?_
  refine x_aload_n hc 0 dX0_skinTells_46 rfl rfl ?_
  refine x_getI (T := TX0) (p0 := o) hc in_X0 rfl (by decide) (kdb k_o) 11 (by decide) tw_106 rfl rfl dX0_skinTells_47 ?_
  refine x_iload_n hc 1 dX0_skinTells_50 rfl rfl ?_
  refine x_icmp_ne (tgt := 58) hc dX0_skinTells_51 rfl (fun c_51 => ?_) (fun c_51 => ?_)
  · replace hf := if_n hf c_51
    refine x_iconst (v := 0) hc rfl dX0_skinTells_58 ?_
    cases hf
    exact x_iret hc rfl ho dX0_skinTells_59
  · replace hf := if_p hf c_51
    refine x_iconst (v := 1) hc rfl dX0_skinTells_54 ?_
    refine x_goto (tgt := 59) hc dX0_skinTells_55 rfl ?_
    cases hf
    exact x_iret hc rfl ho dX0_skinTells_59
def f_X0_justSo_l5_3 (o : Nat) (a1 : Int32) (a2 : Int32) (G : G_) : Nat → Int32 → Int32 → Option (Int32)
  | 0, _, _ => none
  | n3 + 1, v1, v2 =>
    if G.1 o 8 ≤ v2 then (
      some (v1))
    else (
      bj1 (f_X0_mostAt o v2 G) fun x4 =>
      bj1 (f_X7_within x4 a1 a2) fun x6 =>
      bj1 (
        if x6 = 0 then (
          some (0))
        else (
          some (1))) fun (x9 : Int32) =>
      f_X0_justSo_l5_3 o a1 a2 G n3 (v1 + x9) (v2 + 1))
def f_X0_justSo (o : Nat) (a1 : Int32) (a2 : Int32) (G : G_) : Option Int32 :=
  chk (kd o == 0) <|
  bj1 (f_X0_justSo_l5_3 o a1 a2 G FU 0 0) fun x10 =>
  some x10
set_option maxHeartbeats 4000000 in
set_option maxRecDepth 100000 in
theorem c_X0_justSo_l5_3 {K : CT} (o : Nat) (a1 : Int32) (a2 : Int32) (G : G_) (hc : Ok K cX0_justSo RX0 (Cond.code yX0_justSo cX0_justSo 5 (some .int) :: TB) (some .int) 2 42 5) (k_o : (kd o == 0) = true) : ∀ (n3 : Nat) (v1 : Int32) (v2 : Int32) (x10 : Int32), f_X0_justSo_l5_3 o a1 a2 G n3 v1 v2 = some (x10) → X K 42 [(3, .int x10)] [] G → X K 5 [(0, .ref (kad K o)), (1, .int a1), (2, .int a2), (3, .int v1), (4, .int v2)] [] G := by
  intro n3
  induction n3 with
  | zero =>
    intro v1 v2 x10 hf hk
    cases hf
  | succ n3 ih =>
    intro v1 v2 x10 hf hk
    unfold f_X0_justSo_l5_3 at hf
    refine x_iload hc 4 dX0_justSo_5 rfl ?_
    refine x_aload_n hc 0 dX0_justSo_7 rfl rfl ?_
    refine x_getI (T := TX0) (p0 := o) hc in_X0 rfl (by decide) (kdb k_o) 8 (by decide) tw_102 rfl rfl dX0_justSo_8 ?_
    refine x_icmp_ge (tgt := 42) hc dX0_justSo_11 rfl (fun c_11 => ?_) (fun c_11 => ?_)
    · replace hf := if_p hf c_11
      cases hf
      exact x_sub [3] hk rfl
    · replace hf := if_n hf c_11
      refine x_iload_n hc 3 dX0_justSo_14 rfl rfl ?_
      refine x_aload_n hc 0 dX0_justSo_15 rfl rfl ?_
      refine x_iload hc 4 dX0_justSo_16 rfl ?_
      obtain ⟨x4, r5, hf⟩ := bj1_ok hf
      refine x_callVr (As := [.int v2]) (p0 := o) (v := (.int x4)) (T := TX0) hc (c_X0_mostAt (kl K) (kV K) o v2 G x4 r5) mw_X0_mostAt tw_449 (kdb k_o) (by decide) rfl rfl (Nat.le_of_ble_eq_true rfl) ⟨Nat.le_of_ble_eq_true rfl, Nat.le_of_ble_eq_true rfl⟩ dX0_justSo_18 rfl ?_
      refine x_iload_n hc 1 dX0_justSo_21 rfl rfl ?_
      refine x_iload_n hc 2 dX0_justSo_22 rfl rfl ?_
      obtain ⟨x6, r7, hf⟩ := bj1_ok hf
      refine x_callSNr (As := [.int x4, .int a1, .int a2]) (v := (.int x6)) (host := "SlabTurn") hc (c_X7_within (kl K) (kV K) x4 a1 a2 G x6 r7) mw_X7_within (List.mem_of_getElem? (i := 9) rfl) rfl (Nat.le_of_ble_eq_true rfl) ⟨Nat.le_of_ble_eq_true rfl, Nat.le_of_ble_eq_true rfl⟩ dX0_justSo_23 rfl ?_
      obtain ⟨x9, hr, hf⟩ := bj1_ok hf
      have hj_34_8 : X K 34 [(0, .ref (kad K o)), (1, .int a1), (2, .int a2), (4, .int v2)] [.int x9, .int v1] G := by
        clear hr
        refine x_iadd hc dX0_justSo_34 ?_
        refine x_istore_n (L' := [(0, .ref (kad K o)), (1, .int a1), (2, .int a2), (3, .int (v1 + x9)), (4, .int v2)]) hc [1, 2, 3, 0, 4] dX0_justSo_35 rfl (by decide) rfl ?_
        refine x_iinc (v := v2 + 1) (L' := [(0, .ref (kad K o)), (1, .int a1), (2, .int a2), (3, .int (v1 + x9)), (4, .int (v2 + 1))]) hc 4 [1, 2, 3, 4, 0] dX0_justSo_36 rfl rfl (by decide) rfl ?_
        refine x_goto (tgt := 5) hc dX0_justSo_39 rfl ?_
        exact x_sub [0, 1, 2, 3, 4] (ih _ _ _ hf hk) rfl
      replace hf := hr
      clear hr
      refine x_if_eq (tgt := 33) hc dX0_justSo_26 rfl (fun c_26 => ?_) (fun c_26 => ?_)
      · replace hf := if_p hf c_26
        refine x_iconst (v := 0) hc rfl dX0_justSo_33 ?_
        cases hf
        exact x_sub [0, 1, 2, 4] hj_34_8 rfl
      · replace hf := if_n hf c_26
        refine x_iconst (v := 1) hc rfl dX0_justSo_29 ?_
        refine x_goto (tgt := 34) hc dX0_justSo_30 rfl ?_
        cases hf
        exact x_sub [0, 1, 2, 4] hj_34_8 rfl
set_option maxHeartbeats 4000000 in
set_option maxRecDepth 100000 in
theorem c_X0_justSo (l : Launch) (V : VT) (o : Nat) (a1 : Int32) (a2 : Int32) (G : G_) (r : Int32) (hf : f_X0_justSo o a1 a2 G = some r) : MC l V yX0_justSo cX0_justSo 5 (some .int) 2 42 [.ref (V.2.2.1 o), .int a1, .int a2] G (some (.int r)) G := by
  refine mc_of (by decide) (Nat.le_of_ble_eq_true rfl) (fun K hV ho hc hkl => ?_)
  subst hV
  replace hc : Ok K cX0_justSo RX0 (Cond.code yX0_justSo cX0_justSo 5 (some .int) :: TB) (some .int) 2 42 5 := hc
  replace ho : Rets K (some (.int r)) G := ho
  show X K 0 [(0, .ref (kad K o)), (1, .int a1), (2, .int a2)] [] G
  unfold f_X0_justSo at hf
  obtain ⟨k_o, hf⟩ := chk_ok hf
  refine x_iconst (v := 0) hc rfl dX0_justSo_0 ?_
  refine x_istore_n (L' := [(0, .ref (kad K o)), (1, .int a1), (2, .int a2), (3, .int 0)]) hc [1, 2, 3, 0] dX0_justSo_1 rfl (by decide) rfl ?_
  refine x_iconst (v := 0) hc rfl dX0_justSo_2 ?_
  refine x_istore (L' := [(0, .ref (kad K o)), (1, .int a1), (2, .int a2), (3, .int 0), (4, .int 0)]) hc [1, 2, 3, 4, 0] dX0_justSo_3 (by decide) rfl ?_
  obtain ⟨x10, hl_5, hf⟩ := bj1_ok hf
  have he_42_n3 : X K 42 [(3, .int x10)] [] G := by
    clear hl_5
    refine x_iload_n hc 0 dX0_justSo_42 rfl rfl ?_
    cases hf
    exact x_iret hc rfl ho dX0_justSo_43
  exact x_sub [0, 1, 2, 3, 4] (c_X0_justSo_l5_3 o a1 a2 G hc k_o FU 0 0 x10 hl_5 he_42_n3) rfl
def f_X0_colour (o : Nat) (a1 : Int32) (G : G_) : Option Int32 :=
  chk (kd o == 0) <|
  bj1 (f_X0_mostAt o a1 G) fun x1 =>
  if x1 < 650 then (
    bj1 (f_X0_mostAt o a1 G) fun x3 =>
    if x3 < 500 then (
      some 0)
    else (
      some 1))
  else (
    some 2)
set_option maxHeartbeats 4000000 in
set_option maxRecDepth 100000 in
theorem c_X0_colour (l : Launch) (V : VT) (o : Nat) (a1 : Int32) (G : G_) (r : Int32) (hf : f_X0_colour o a1 G = some r) : MC l V yX0_colour cX0_colour 2 (some .int) 2 42 [.ref (V.2.2.1 o), .int a1] G (some (.int r)) G := by
  refine mc_of (by decide) (Nat.le_of_ble_eq_true rfl) (fun K hV ho hc hkl => ?_)
  subst hV
  replace hc : Ok K cX0_colour RX0 (Cond.code yX0_colour cX0_colour 2 (some .int) :: TB) (some .int) 2 42 2 := hc
  replace ho : Rets K (some (.int r)) G := ho
  show X K 0 [(0, .ref (kad K o)), (1, .int a1)] [] G
  unfold f_X0_colour at hf
  obtain ⟨k_o, hf⟩ := chk_ok hf
  refine x_aload_n hc 0 dX0_colour_0 rfl rfl ?_
  refine x_iload_n hc 1 dX0_colour_1 rfl rfl ?_
  obtain ⟨x1, r2, hf⟩ := bj1_ok hf
  refine x_callVr (As := [.int a1]) (p0 := o) (v := (.int x1)) (T := TX0) hc (c_X0_mostAt (kl K) (kV K) o a1 G x1 r2) mw_X0_mostAt tw_449 (kdb k_o) (by decide) rfl rfl (Nat.le_of_ble_eq_true rfl) ⟨Nat.le_of_ble_eq_true rfl, Nat.le_of_ble_eq_true rfl⟩ dX0_colour_2 rfl ?_
  refine x_sipush (v := 650) hc rfl dX0_colour_5 ?_
  refine x_icmp_lt (tgt := 13) hc dX0_colour_8 rfl (fun c_8 => ?_) (fun c_8 => ?_)
  · replace hf := if_p hf c_8
    refine x_aload_n hc 0 dX0_colour_13 rfl rfl ?_
    refine x_iload_n hc 1 dX0_colour_14 rfl rfl ?_
    obtain ⟨x3, r4, hf⟩ := bj1_ok hf
    refine x_callVr (As := [.int a1]) (p0 := o) (v := (.int x3)) (T := TX0) hc (c_X0_mostAt (kl K) (kV K) o a1 G x3 r4) mw_X0_mostAt tw_449 (kdb k_o) (by decide) rfl rfl (Nat.le_of_ble_eq_true rfl) ⟨Nat.le_of_ble_eq_true rfl, Nat.le_of_ble_eq_true rfl⟩ dX0_colour_15 rfl ?_
    refine x_sipush (v := 500) hc rfl dX0_colour_18 ?_
    refine x_icmp_lt (tgt := 28) hc dX0_colour_21 rfl (fun c_21 => ?_) (fun c_21 => ?_)
    · replace hf := if_p hf c_21
      refine x_iconst (v := 0) hc rfl dX0_colour_28 ?_
      cases hf
      exact x_iret hc rfl ho dX0_colour_29
    · replace hf := if_n hf c_21
      refine x_iconst (v := 1) hc rfl dX0_colour_24 ?_
      refine x_goto (tgt := 29) hc dX0_colour_25 rfl ?_
      cases hf
      exact x_iret hc rfl ho dX0_colour_29
  · replace hf := if_n hf c_8
    refine x_iconst (v := 2) hc rfl dX0_colour_11 ?_
    cases hf
    exact x_iret hc rfl ho dX0_colour_12
def f_X0_allJuice_l4_3 (o : Nat) (G : G_) : Nat → Int32 → Int32 → Option (Int32)
  | 0, _, _ => none
  | n3 + 1, v1, v2 =>
    if G.1 o 8 ≤ v2 then (
      some (v1))
    else (
      bj1 (f_X0_juiceAt o v2 G) fun x4 =>
      f_X0_allJuice_l4_3 o G n3 (v1 + x4) (v2 + 1))
def f_X0_allJuice (o : Nat) (G : G_) : Option Int32 :=
  chk (kd o == 0) <|
  bj1 (f_X0_allJuice_l4_3 o G FU 0 0) fun x6 =>
  some x6
set_option maxHeartbeats 4000000 in
set_option maxRecDepth 100000 in
theorem c_X0_allJuice_l4_3 {K : CT} (o : Nat) (G : G_) (hc : Ok K cX0_allJuice RX0 (Cond.code yX0_allJuice cX0_allJuice 3 (some .int) :: TB) (some .int) 2 42 3) (k_o : (kd o == 0) = true) : ∀ (n3 : Nat) (v1 : Int32) (v2 : Int32) (x6 : Int32), f_X0_allJuice_l4_3 o G n3 v1 v2 = some (x6) → X K 26 [(1, .int x6)] [] G → X K 4 [(0, .ref (kad K o)), (1, .int v1), (2, .int v2)] [] G := by
  intro n3
  induction n3 with
  | zero =>
    intro v1 v2 x6 hf hk
    cases hf
  | succ n3 ih =>
    intro v1 v2 x6 hf hk
    unfold f_X0_allJuice_l4_3 at hf
    refine x_iload_n hc 2 dX0_allJuice_4 rfl rfl ?_
    refine x_aload_n hc 0 dX0_allJuice_5 rfl rfl ?_
    refine x_getI (T := TX0) (p0 := o) hc in_X0 rfl (by decide) (kdb k_o) 8 (by decide) tw_102 rfl rfl dX0_allJuice_6 ?_
    refine x_icmp_ge (tgt := 26) hc dX0_allJuice_9 rfl (fun c_9 => ?_) (fun c_9 => ?_)
    · replace hf := if_p hf c_9
      cases hf
      exact x_sub [1] hk rfl
    · replace hf := if_n hf c_9
      refine x_iload_n hc 1 dX0_allJuice_12 rfl rfl ?_
      refine x_aload_n hc 0 dX0_allJuice_13 rfl rfl ?_
      refine x_iload_n hc 2 dX0_allJuice_14 rfl rfl ?_
      obtain ⟨x4, r5, hf⟩ := bj1_ok hf
      refine x_callVr (As := [.int v2]) (p0 := o) (v := (.int x4)) (T := TX0) hc (c_X0_juiceAt (kl K) (kV K) o v2 G x4 r5) mw_X0_juiceAt tw_453 (kdb k_o) (by decide) rfl rfl (Nat.le_of_ble_eq_true rfl) ⟨Nat.le_of_ble_eq_true rfl, Nat.le_of_ble_eq_true rfl⟩ dX0_allJuice_15 rfl ?_
      refine x_iadd hc dX0_allJuice_18 ?_
      refine x_istore_n (L' := [(0, .ref (kad K o)), (1, .int (v1 + x4)), (2, .int v2)]) hc [1, 0, 2] dX0_allJuice_19 rfl (by decide) rfl ?_
      refine x_iinc (v := v2 + 1) (L' := [(0, .ref (kad K o)), (1, .int (v1 + x4)), (2, .int (v2 + 1))]) hc 2 [1, 2, 0] dX0_allJuice_20 rfl rfl (by decide) rfl ?_
      refine x_goto (tgt := 4) hc dX0_allJuice_23 rfl ?_
      exact x_sub [0, 1, 2] (ih _ _ _ hf hk) rfl
set_option maxHeartbeats 4000000 in
set_option maxRecDepth 100000 in
theorem c_X0_allJuice (l : Launch) (V : VT) (o : Nat) (G : G_) (r : Int32) (hf : f_X0_allJuice o G = some r) : MC l V yX0_allJuice cX0_allJuice 3 (some .int) 2 42 [.ref (V.2.2.1 o)] G (some (.int r)) G := by
  refine mc_of (by decide) (Nat.le_of_ble_eq_true rfl) (fun K hV ho hc hkl => ?_)
  subst hV
  replace hc : Ok K cX0_allJuice RX0 (Cond.code yX0_allJuice cX0_allJuice 3 (some .int) :: TB) (some .int) 2 42 3 := hc
  replace ho : Rets K (some (.int r)) G := ho
  show X K 0 [(0, .ref (kad K o))] [] G
  unfold f_X0_allJuice at hf
  obtain ⟨k_o, hf⟩ := chk_ok hf
  refine x_iconst (v := 0) hc rfl dX0_allJuice_0 ?_
  refine x_istore_n (L' := [(0, .ref (kad K o)), (1, .int 0)]) hc [1, 0] dX0_allJuice_1 rfl (by decide) rfl ?_
  refine x_iconst (v := 0) hc rfl dX0_allJuice_2 ?_
  refine x_istore_n (L' := [(0, .ref (kad K o)), (1, .int 0), (2, .int 0)]) hc [1, 2, 0] dX0_allJuice_3 rfl (by decide) rfl ?_
  obtain ⟨x6, hl_4, hf⟩ := bj1_ok hf
  have he_26_n3 : X K 26 [(1, .int x6)] [] G := by
    clear hl_4
    refine x_iload_n hc 0 dX0_allJuice_26 rfl rfl ?_
    cases hf
    exact x_iret hc rfl ho dX0_allJuice_27
  exact x_sub [0, 1, 2] (c_X0_allJuice_l4_3 o G hc k_o FU 0 0 x6 hl_4 he_26_n3) rfl
def f_X0_lossNow_l4_3 (o : Nat) (G : G_) : Nat → Int32 → Int32 → Option (Int32)
  | 0, _, _ => none
  | n3 + 1, v1, v2 =>
    if G.1 o 8 ≤ v2 then (
      some (v1))
    else (
      bj1 (f_X0_warmthAt o v2 G) fun x4 =>
      bj1 (f_X0_juiceAt o v2 G) fun x6 =>
      bj1 (f_X0_juiceAt o v2 G) fun x8 =>
      nm (v1 + (mn x6 ((x8 * ((mx (x4 - 400) 0) / 100)) / 20))) fun x10 =>
      f_X0_lossNow_l4_3 o G n3 x10 (v2 + 1))
def f_X0_lossNow (o : Nat) (G : G_) : Option Int32 :=
  chk (kd o == 0) <|
  bj1 (f_X0_lossNow_l4_3 o G FU 0 0) fun x11 =>
  some x11
set_option maxHeartbeats 4000000 in
set_option maxRecDepth 100000 in
theorem c_X0_lossNow_l4_3 {K : CT} (o : Nat) (G : G_) (hc : Ok K cX0_lossNow RX0 (Cond.code yX0_lossNow cX0_lossNow 4 (some .int) :: TB) (some .int) 2 42 4) (k_o : (kd o == 0) = true) : ∀ (n3 : Nat) (v1 : Int32) (v2 : Int32) (x11 : Int32), f_X0_lossNow_l4_3 o G n3 v1 v2 = some (x11) → X K 56 [(1, .int x11)] [] G → X K 4 [(0, .ref (kad K o)), (1, .int v1), (2, .int v2)] [] G := by
  intro n3
  induction n3 with
  | zero =>
    intro v1 v2 x11 hf hk
    cases hf
  | succ n3 ih =>
    intro v1 v2 x11 hf hk
    unfold f_X0_lossNow_l4_3 at hf
    refine x_iload_n hc 2 dX0_lossNow_4 rfl rfl ?_
    refine x_aload_n hc 0 dX0_lossNow_5 rfl rfl ?_
    refine x_getI (T := TX0) (p0 := o) hc in_X0 rfl (by decide) (kdb k_o) 8 (by decide) tw_102 rfl rfl dX0_lossNow_6 ?_
    refine x_icmp_ge (tgt := 56) hc dX0_lossNow_9 rfl (fun c_9 => ?_) (fun c_9 => ?_)
    · replace hf := if_p hf c_9
      cases hf
      exact x_sub [1] hk rfl
    · replace hf := if_n hf c_9
      refine x_aload_n hc 0 dX0_lossNow_12 rfl rfl ?_
      refine x_iload_n hc 2 dX0_lossNow_13 rfl rfl ?_
      obtain ⟨x4, r5, hf⟩ := bj1_ok hf
      refine x_callVr (As := [.int v2]) (p0 := o) (v := (.int x4)) (T := TX0) hc (c_X0_warmthAt (kl K) (kV K) o v2 G x4 r5) mw_X0_warmthAt tw_441 (kdb k_o) (by decide) rfl rfl (Nat.le_of_ble_eq_true rfl) ⟨Nat.le_of_ble_eq_true rfl, Nat.le_of_ble_eq_true rfl⟩ dX0_lossNow_14 rfl ?_
      refine x_sipush (v := 400) hc rfl dX0_lossNow_17 ?_
      refine x_isub hc dX0_lossNow_20 ?_
      refine x_iconst (v := 0) hc rfl dX0_lossNow_21 ?_
      refine x_mmax hc tw_393 tw_394 tw_36 tw_395 (Nat.le_of_ble_eq_true rfl) (Nat.le_of_ble_eq_true rfl) dX0_lossNow_22 ?_
      refine x_bipush (v := 100) hc rfl dX0_lossNow_25 ?_
      refine x_idiv hc (by decide) dX0_lossNow_27 ?_
      refine x_istore_n (L' := [(0, .ref (kad K o)), (1, .int v1), (2, .int v2), (3, .int ((mx (x4 - 400) 0) / 100))]) hc [1, 2, 3, 0] dX0_lossNow_28 rfl (by decide) rfl ?_
      refine x_iload_n hc 1 dX0_lossNow_29 rfl rfl ?_
      refine x_aload_n hc 0 dX0_lossNow_30 rfl rfl ?_
      refine x_iload_n hc 2 dX0_lossNow_31 rfl rfl ?_
      obtain ⟨x6, r7, hf⟩ := bj1_ok hf
      refine x_callVr (As := [.int v2]) (p0 := o) (v := (.int x6)) (T := TX0) hc (c_X0_juiceAt (kl K) (kV K) o v2 G x6 r7) mw_X0_juiceAt tw_453 (kdb k_o) (by decide) rfl rfl (Nat.le_of_ble_eq_true rfl) ⟨Nat.le_of_ble_eq_true rfl, Nat.le_of_ble_eq_true rfl⟩ dX0_lossNow_32 rfl ?_
      refine x_aload_n hc 0 dX0_lossNow_35 rfl rfl ?_
      refine x_iload_n hc 2 dX0_lossNow_36 rfl rfl ?_
      obtain ⟨x8, r9, hf⟩ := bj1_ok hf
      refine x_callVr (As := [.int v2]) (p0 := o) (v := (.int x8)) (T := TX0) hc (c_X0_juiceAt (kl K) (kV K) o v2 G x8 r9) mw_X0_juiceAt tw_453 (kdb k_o) (by decide) rfl rfl (Nat.le_of_ble_eq_true rfl) ⟨Nat.le_of_ble_eq_true rfl, Nat.le_of_ble_eq_true rfl⟩ dX0_lossNow_37 rfl ?_
      refine x_iload_n hc 3 dX0_lossNow_40 rfl rfl ?_
      refine x_imul hc dX0_lossNow_41 ?_
      refine x_bipush (v := 20) hc rfl dX0_lossNow_42 ?_
      refine x_idiv hc (by decide) dX0_lossNow_44 ?_
      refine x_mmin hc tw_390 tw_391 tw_36 tw_392 (Nat.le_of_ble_eq_true rfl) (Nat.le_of_ble_eq_true rfl) dX0_lossNow_45 ?_
      refine x_iadd hc dX0_lossNow_48 ?_
      refine x_nmi (fun x10 e_x10 => ?_)
      replace hf := nm_ok hf x10 e_x10
      refine x_istore_n (L' := [(0, .ref (kad K o)), (1, .int x10), (2, .int v2)]) hc [1, 0, 2] dX0_lossNow_49 rfl (by decide) rfl ?_
      refine x_iinc (v := v2 + 1) (L' := [(0, .ref (kad K o)), (1, .int x10), (2, .int (v2 + 1))]) hc 2 [1, 2, 0] dX0_lossNow_50 rfl rfl (by decide) rfl ?_
      refine x_goto (tgt := 4) hc dX0_lossNow_53 rfl ?_
      exact x_sub [0, 1, 2] (ih _ _ _ hf hk) rfl
set_option maxHeartbeats 4000000 in
set_option maxRecDepth 100000 in
theorem c_X0_lossNow (l : Launch) (V : VT) (o : Nat) (G : G_) (r : Int32) (hf : f_X0_lossNow o G = some r) : MC l V yX0_lossNow cX0_lossNow 4 (some .int) 2 42 [.ref (V.2.2.1 o)] G (some (.int r)) G := by
  refine mc_of (by decide) (Nat.le_of_ble_eq_true rfl) (fun K hV ho hc hkl => ?_)
  subst hV
  replace hc : Ok K cX0_lossNow RX0 (Cond.code yX0_lossNow cX0_lossNow 4 (some .int) :: TB) (some .int) 2 42 4 := hc
  replace ho : Rets K (some (.int r)) G := ho
  show X K 0 [(0, .ref (kad K o))] [] G
  unfold f_X0_lossNow at hf
  obtain ⟨k_o, hf⟩ := chk_ok hf
  refine x_iconst (v := 0) hc rfl dX0_lossNow_0 ?_
  refine x_istore_n (L' := [(0, .ref (kad K o)), (1, .int 0)]) hc [1, 0] dX0_lossNow_1 rfl (by decide) rfl ?_
  refine x_iconst (v := 0) hc rfl dX0_lossNow_2 ?_
  refine x_istore_n (L' := [(0, .ref (kad K o)), (1, .int 0), (2, .int 0)]) hc [1, 2, 0] dX0_lossNow_3 rfl (by decide) rfl ?_
  obtain ⟨x11, hl_4, hf⟩ := bj1_ok hf
  have he_56_n3 : X K 56 [(1, .int x11)] [] G := by
    clear hl_4
    refine x_iload_n hc 0 dX0_lossNow_56 rfl rfl ?_
    cases hf
    exact x_iret hc rfl ho dX0_lossNow_57
  exact x_sub [0, 1, 2] (c_X0_lossNow_l4_3 o G hc k_o FU 0 0 x11 hl_4 he_56_n3) rfl
def f_X0_become_l2_3 (o : Nat) (a1 : Nat) : Nat → Int32 → G_ → Option (G_)
  | 0, _, _ => none
  | n3 + 1, v1, G2 =>
    if 20 ≤ v1 then (
      some (G2))
    else (
      chk (inb v1 20) <|
      chk (inb v1 20) <|
      nm (sI G2 (o + 1) (ix v1) (G2.1 (a1 + 1) (ix v1))) fun G6 =>
      chk (inb v1 20) <|
      chk (inb v1 20) <|
      nm (sI G6 (o + 3) (ix v1) (G6.1 (a1 + 3) (ix v1))) fun G9 =>
      chk (inb v1 20) <|
      chk (inb v1 20) <|
      nm (sI G9 (o + 4) (ix v1) (G9.1 (a1 + 4) (ix v1))) fun G12 =>
      f_X0_become_l2_3 o a1 n3 (v1 + 1) G12)
def f_X0_become_l52_16 (o : Nat) (a1 : Nat) : Nat → Int32 → G_ → Option (G_)
  | 0, _, _ => none
  | n16 + 1, v14, G15 =>
    if 2 ≤ v14 then (
      some (G15))
    else (
      chk (inb v14 2) <|
      chk (inb v14 2) <|
      nm (sI G15 (o + 5) (ix v14) (G15.1 (a1 + 5) (ix v14))) fun G19 =>
      chk (inb v14 2) <|
      chk (inb v14 2) <|
      nm (sI G19 (o + 6) (ix v14) (G19.1 (a1 + 6) (ix v14))) fun G22 =>
      f_X0_become_l52_16 o a1 n16 (v14 + 1) G22)
def f_X0_become (o : Nat) (a1 : Nat) (G : G_) : Option G_ :=
  chk (kd o == 0) <|
  chk (kd a1 == 0) <|
  bj1 (f_X0_become_l2_3 o a1 FU 0 G) fun G13 =>
  bj1 (f_X0_become_l52_16 o a1 FU 0 G13) fun G23 =>
  bj1 (f_X2_become (o + 7) (a1 + 7) G23) fun G24 =>
  chk (isZ (G24.1 a1 7)) <|
  nm (sI G24 o 7 (G24.1 a1 7)) fun G27 =>
  nm (sI G27 o 8 (G27.1 a1 8)) fun G28 =>
  nm (sI G28 o 9 (G28.1 a1 9)) fun G29 =>
  nm (sI G29 o 10 (G29.1 a1 10)) fun G30 =>
  nm (sI G30 o 11 (G30.1 a1 11)) fun G31 =>
  nm (sI G31 o 12 (G31.1 a1 12)) fun G32 =>
  nm (sI G32 o 13 (G32.1 a1 13)) fun G33 =>
  nm (sI G33 o 14 (G33.1 a1 14)) fun G34 =>
  nm (sI G34 o 15 (G34.1 a1 15)) fun G35 =>
  nm (sI G35 o 16 (G35.1 a1 16)) fun G36 =>
  some G36
set_option maxHeartbeats 4000000 in
set_option maxRecDepth 100000 in
theorem c_X0_become_l2_3 {K : CT} (o : Nat) (a1 : Nat) (hc : Ok K cX0_become RX0 (Cond.code yX0_become cX0_become 3 none :: TB) none 3 64 3) (k_o : (kd o == 0) = true) (k_a1 : (kd a1 == 0) = true) : ∀ (n3 : Nat) (v1 : Int32) (G2 : G_) (G13 : G_), f_X0_become_l2_3 o a1 n3 v1 G2 = some (G13) → X K 50 [(0, .ref (kad K o)), (1, .ref (kad K a1))] [] G13 → X K 2 [(0, .ref (kad K o)), (1, .ref (kad K a1)), (2, .int v1)] [] G2 := by
  intro n3
  induction n3 with
  | zero =>
    intro v1 G2 G13 hf hk
    cases hf
  | succ n3 ih =>
    intro v1 G2 G13 hf hk
    unfold f_X0_become_l2_3 at hf
    refine x_iload_n hc 2 dX0_become_2 rfl rfl ?_
    refine x_bipush (v := 20) hc rfl dX0_become_3 ?_
    refine x_icmp_ge (tgt := 50) hc dX0_become_5 rfl (fun c_5 => ?_) (fun c_5 => ?_)
    · replace hf := if_p hf c_5
      cases hf
      exact x_sub [0, 1] hk rfl
    · replace hf := if_n hf c_5
      refine x_aload_n hc 0 dX0_become_8 rfl rfl ?_
      refine x_getR (T := TX0) (p0 := o) hc in_X0 rfl (by decide) (kdb k_o) 0 (by decide) tw_92 rfl rfl dX0_become_9 ?_
      refine x_iload_n hc 2 dX0_become_12 rfl rfl ?_
      refine x_aload_n hc 1 dX0_become_13 rfl rfl ?_
      refine x_getR (T := TX0) (p0 := a1) hc in_X0 rfl (by decide) (kdb k_a1) 0 (by decide) tw_92 rfl rfl dX0_become_14 ?_
      refine x_iload_n hc 2 dX0_become_17 rfl rfl ?_
      obtain ⟨h4, hf⟩ := chk_ok hf
      refine x_iaload (p0 := a1 + 1) hc (sh_X0_warmth (kdb k_a1)).1 (sh_X0_warmth (kdb k_a1)).2 h4 dX0_become_18 ?_
      obtain ⟨h5, hf⟩ := chk_ok hf
      refine x_iastore (p0 := o + 1) hc (sh_X0_warmth (kdb k_o)).1 (sh_X0_warmth (kdb k_o)).2 h5 dX0_become_19 ?_
      refine x_nmg (fun G6 e_G6 => ?_)
      replace hf := nm_ok hf G6 e_G6
      refine x_aload_n hc 0 dX0_become_20 rfl rfl ?_
      refine x_getR (T := TX0) (p0 := o) hc in_X0 rfl (by decide) (kdb k_o) 2 (by decide) tw_94 rfl rfl dX0_become_21 ?_
      refine x_iload_n hc 2 dX0_become_24 rfl rfl ?_
      refine x_aload_n hc 1 dX0_become_25 rfl rfl ?_
      refine x_getR (T := TX0) (p0 := a1) hc in_X0 rfl (by decide) (kdb k_a1) 2 (by decide) tw_94 rfl rfl dX0_become_26 ?_
      refine x_iload_n hc 2 dX0_become_29 rfl rfl ?_
      obtain ⟨h7, hf⟩ := chk_ok hf
      refine x_iaload (p0 := a1 + 3) hc (sh_X0_most (kdb k_a1)).1 (sh_X0_most (kdb k_a1)).2 h7 dX0_become_30 ?_
      obtain ⟨h8, hf⟩ := chk_ok hf
      refine x_iastore (p0 := o + 3) hc (sh_X0_most (kdb k_o)).1 (sh_X0_most (kdb k_o)).2 h8 dX0_become_31 ?_
      refine x_nmg (fun G9 e_G9 => ?_)
      replace hf := nm_ok hf G9 e_G9
      refine x_aload_n hc 0 dX0_become_32 rfl rfl ?_
      refine x_getR (T := TX0) (p0 := o) hc in_X0 rfl (by decide) (kdb k_o) 3 (by decide) tw_95 rfl rfl dX0_become_33 ?_
      refine x_iload_n hc 2 dX0_become_36 rfl rfl ?_
      refine x_aload_n hc 1 dX0_become_37 rfl rfl ?_
      refine x_getR (T := TX0) (p0 := a1) hc in_X0 rfl (by decide) (kdb k_a1) 3 (by decide) tw_95 rfl rfl dX0_become_38 ?_
      refine x_iload_n hc 2 dX0_become_41 rfl rfl ?_
      obtain ⟨h10, hf⟩ := chk_ok hf
      refine x_iaload (p0 := a1 + 4) hc (sh_X0_juice (kdb k_a1)).1 (sh_X0_juice (kdb k_a1)).2 h10 dX0_become_42 ?_
      obtain ⟨h11, hf⟩ := chk_ok hf
      refine x_iastore (p0 := o + 4) hc (sh_X0_juice (kdb k_o)).1 (sh_X0_juice (kdb k_o)).2 h11 dX0_become_43 ?_
      refine x_nmg (fun G12 e_G12 => ?_)
      replace hf := nm_ok hf G12 e_G12
      refine x_iinc (v := v1 + 1) (L' := [(0, .ref (kad K o)), (1, .ref (kad K a1)), (2, .int (v1 + 1))]) hc 2 [1, 2, 0] dX0_become_44 rfl rfl (by decide) rfl ?_
      refine x_goto (tgt := 2) hc dX0_become_47 rfl ?_
      exact x_sub [0, 1, 2] (ih _ _ _ hf hk) rfl
set_option maxHeartbeats 4000000 in
set_option maxRecDepth 100000 in
theorem c_X0_become_l52_16 {K : CT} (o : Nat) (a1 : Nat) (hc : Ok K cX0_become RX0 (Cond.code yX0_become cX0_become 3 none :: TB) none 3 64 3) (k_o : (kd o == 0) = true) (k_a1 : (kd a1 == 0) = true) : ∀ (n16 : Nat) (v14 : Int32) (G15 : G_) (G23 : G_), f_X0_become_l52_16 o a1 n16 v14 G15 = some (G23) → X K 87 [(0, .ref (kad K o)), (1, .ref (kad K a1))] [] G23 → X K 52 [(0, .ref (kad K o)), (1, .ref (kad K a1)), (2, .int v14)] [] G15 := by
  intro n16
  induction n16 with
  | zero =>
    intro v14 G15 G23 hf hk
    cases hf
  | succ n16 ih =>
    intro v14 G15 G23 hf hk
    unfold f_X0_become_l52_16 at hf
    refine x_iload_n hc 2 dX0_become_52 rfl rfl ?_
    refine x_iconst (v := 2) hc rfl dX0_become_53 ?_
    refine x_icmp_ge (tgt := 87) hc dX0_become_54 rfl (fun c_54 => ?_) (fun c_54 => ?_)
    · replace hf := if_p hf c_54
      cases hf
      exact x_sub [0, 1] hk rfl
    · replace hf := if_n hf c_54
      refine x_aload_n hc 0 dX0_become_57 rfl rfl ?_
      refine x_getR (T := TX0) (p0 := o) hc in_X0 rfl (by decide) (kdb k_o) 4 (by decide) tw_96 rfl rfl dX0_become_58 ?_
      refine x_iload_n hc 2 dX0_become_61 rfl rfl ?_
      refine x_aload_n hc 1 dX0_become_62 rfl rfl ?_
      refine x_getR (T := TX0) (p0 := a1) hc in_X0 rfl (by decide) (kdb k_a1) 4 (by decide) tw_96 rfl rfl dX0_become_63 ?_
      refine x_iload_n hc 2 dX0_become_66 rfl rfl ?_
      obtain ⟨h17, hf⟩ := chk_ok hf
      refine x_iaload (p0 := a1 + 5) hc (sh_X0_wet (kdb k_a1)).1 (sh_X0_wet (kdb k_a1)).2 h17 dX0_become_67 ?_
      obtain ⟨h18, hf⟩ := chk_ok hf
      refine x_iastore (p0 := o + 5) hc (sh_X0_wet (kdb k_o)).1 (sh_X0_wet (kdb k_o)).2 h18 dX0_become_68 ?_
      refine x_nmg (fun G19 e_G19 => ?_)
      replace hf := nm_ok hf G19 e_G19
      refine x_aload_n hc 0 dX0_become_69 rfl rfl ?_
      refine x_getR (T := TX0) (p0 := o) hc in_X0 rfl (by decide) (kdb k_o) 5 (by decide) tw_97 rfl rfl dX0_become_70 ?_
      refine x_iload_n hc 2 dX0_become_73 rfl rfl ?_
      refine x_aload_n hc 1 dX0_become_74 rfl rfl ?_
      refine x_getR (T := TX0) (p0 := a1) hc in_X0 rfl (by decide) (kdb k_a1) 5 (by decide) tw_97 rfl rfl dX0_become_75 ?_
      refine x_iload_n hc 2 dX0_become_78 rfl rfl ?_
      obtain ⟨h20, hf⟩ := chk_ok hf
      refine x_iaload (p0 := a1 + 6) hc (sh_X0_brown (kdb k_a1)).1 (sh_X0_brown (kdb k_a1)).2 h20 dX0_become_79 ?_
      obtain ⟨h21, hf⟩ := chk_ok hf
      refine x_iastore (p0 := o + 6) hc (sh_X0_brown (kdb k_o)).1 (sh_X0_brown (kdb k_o)).2 h21 dX0_become_80 ?_
      refine x_nmg (fun G22 e_G22 => ?_)
      replace hf := nm_ok hf G22 e_G22
      refine x_iinc (v := v14 + 1) (L' := [(0, .ref (kad K o)), (1, .ref (kad K a1)), (2, .int (v14 + 1))]) hc 2 [1, 2, 0] dX0_become_81 rfl rfl (by decide) rfl ?_
      refine x_goto (tgt := 52) hc dX0_become_84 rfl ?_
      exact x_sub [0, 1, 2] (ih _ _ _ hf hk) rfl
set_option maxHeartbeats 4000000 in
set_option maxRecDepth 100000 in
theorem c_X0_become (l : Launch) (V : VT) (o : Nat) (a1 : Nat) (G : G_) (G' : G_) (hf : f_X0_become o a1 G = some G') : MC l V yX0_become cX0_become 3 none 3 64 [.ref (V.2.2.1 o), .ref (V.2.2.1 a1)] G none G' := by
  refine mc_of (by decide) (Nat.le_of_ble_eq_true rfl) (fun K hV ho hc hkl => ?_)
  subst hV
  replace hc : Ok K cX0_become RX0 (Cond.code yX0_become cX0_become 3 none :: TB) none 3 64 3 := hc
  replace ho : Rets K none G' := ho
  show X K 0 [(0, .ref (kad K o)), (1, .ref (kad K a1))] [] G
  unfold f_X0_become at hf
  obtain ⟨k_o, hf⟩ := chk_ok hf
  obtain ⟨k_a1, hf⟩ := chk_ok hf
  refine x_iconst (v := 0) hc rfl dX0_become_0 ?_
  refine x_istore_n (L' := [(0, .ref (kad K o)), (1, .ref (kad K a1)), (2, .int 0)]) hc [1, 2, 0] dX0_become_1 rfl (by decide) rfl ?_
  obtain ⟨G13, hl_2, hf⟩ := bj1_ok hf
  have he_50_n3 : X K 50 [(0, .ref (kad K o)), (1, .ref (kad K a1))] [] G13 := by
    clear hl_2
    refine x_iconst (v := 0) hc rfl dX0_become_50 ?_
    refine x_istore_n (L' := [(0, .ref (kad K o)), (1, .ref (kad K a1)), (2, .int 0)]) hc [1, 2, 0] dX0_become_51 rfl (by decide) rfl ?_
    obtain ⟨G23, hl_52, hf⟩ := bj1_ok hf
    have he_87_n16 : X K 87 [(0, .ref (kad K o)), (1, .ref (kad K a1))] [] G23 := by
      clear hl_52
      refine x_aload_n hc 0 dX0_become_87 rfl rfl ?_
      refine x_getR (T := TX0) (p0 := o) hc in_X0 rfl (by decide) (kdb k_o) 6 (by decide) tw_98 rfl rfl dX0_become_88 ?_
      refine x_aload_n hc 1 dX0_become_91 rfl rfl ?_
      refine x_getR (T := TX0) (p0 := a1) hc in_X0 rfl (by decide) (kdb k_a1) 6 (by decide) tw_98 rfl rfl dX0_become_92 ?_
      obtain ⟨G24, r25, hf⟩ := bj1_ok hf
      refine x_callVv (As := [.ref (kad K (a1 + 7))]) (p0 := o + 7) (T := TX2) hc (c_X2_become (kl K) (kV K) (o + 7) (a1 + 7) G23 G24 r25) mw_X2_become tw_536 (sh_X0_plan (kdb k_o)) (by decide) rfl rfl (Nat.le_of_ble_eq_true rfl) ⟨Nat.le_of_ble_eq_true rfl, Nat.le_of_ble_eq_true rfl⟩ dX0_become_95 rfl ?_
      refine x_aload_n hc 0 dX0_become_98 rfl rfl ?_
      refine x_aload_n hc 1 dX0_become_99 rfl rfl ?_
      refine x_getI (T := TX0) (p0 := a1) hc in_X0 rfl (by decide) (kdb k_a1) 7 (by decide) tw_100 rfl rfl dX0_become_100 ?_
      obtain ⟨h26, hf⟩ := chk_ok hf
      refine x_putZ (T := TX0) (p0 := o) hc tyX0 tyX0_ok nmX0 in_X0 rfl (by decide) (kdb k_o) 7 (by decide) tw_100 rfl rfl rfl h26 (by decide +kernel) dX0_become_103 ?_
      refine x_nmg (fun G27 e_G27 => ?_)
      replace hf := nm_ok hf G27 e_G27
      refine x_aload_n hc 0 dX0_become_106 rfl rfl ?_
      refine x_aload_n hc 1 dX0_become_107 rfl rfl ?_
      refine x_getI (T := TX0) (p0 := a1) hc in_X0 rfl (by decide) (kdb k_a1) 8 (by decide) tw_102 rfl rfl dX0_become_108 ?_
      refine x_putI (T := TX0) (p0 := o) hc tyX0 tyX0_ok nmX0 in_X0 rfl (by decide) (kdb k_o) 8 (by decide) tw_102 rfl rfl rfl (by decide +kernel) dX0_become_111 ?_
      refine x_nmg (fun G28 e_G28 => ?_)
      replace hf := nm_ok hf G28 e_G28
      refine x_aload_n hc 0 dX0_become_114 rfl rfl ?_
      refine x_aload_n hc 1 dX0_become_115 rfl rfl ?_
      refine x_getI (T := TX0) (p0 := a1) hc in_X0 rfl (by decide) (kdb k_a1) 9 (by decide) tw_104 rfl rfl dX0_become_116 ?_
      refine x_putI (T := TX0) (p0 := o) hc tyX0 tyX0_ok nmX0 in_X0 rfl (by decide) (kdb k_o) 9 (by decide) tw_104 rfl rfl rfl (by decide +kernel) dX0_become_119 ?_
      refine x_nmg (fun G29 e_G29 => ?_)
      replace hf := nm_ok hf G29 e_G29
      refine x_aload_n hc 0 dX0_become_122 rfl rfl ?_
      refine x_aload_n hc 1 dX0_become_123 rfl rfl ?_
      refine x_getI (T := TX0) (p0 := a1) hc in_X0 rfl (by decide) (kdb k_a1) 10 (by decide) tw_105 rfl rfl dX0_become_124 ?_
      refine x_putI (T := TX0) (p0 := o) hc tyX0 tyX0_ok nmX0 in_X0 rfl (by decide) (kdb k_o) 10 (by decide) tw_105 rfl rfl rfl (by decide +kernel) dX0_become_127 ?_
      refine x_nmg (fun G30 e_G30 => ?_)
      replace hf := nm_ok hf G30 e_G30
      refine x_aload_n hc 0 dX0_become_130 rfl rfl ?_
      refine x_aload_n hc 1 dX0_become_131 rfl rfl ?_
      refine x_getI (T := TX0) (p0 := a1) hc in_X0 rfl (by decide) (kdb k_a1) 11 (by decide) tw_106 rfl rfl dX0_become_132 ?_
      refine x_putI (T := TX0) (p0 := o) hc tyX0 tyX0_ok nmX0 in_X0 rfl (by decide) (kdb k_o) 11 (by decide) tw_106 rfl rfl rfl (by decide +kernel) dX0_become_135 ?_
      refine x_nmg (fun G31 e_G31 => ?_)
      replace hf := nm_ok hf G31 e_G31
      refine x_aload_n hc 0 dX0_become_138 rfl rfl ?_
      refine x_aload_n hc 1 dX0_become_139 rfl rfl ?_
      refine x_getI (T := TX0) (p0 := a1) hc in_X0 rfl (by decide) (kdb k_a1) 12 (by decide) tw_107 rfl rfl dX0_become_140 ?_
      refine x_putI (T := TX0) (p0 := o) hc tyX0 tyX0_ok nmX0 in_X0 rfl (by decide) (kdb k_o) 12 (by decide) tw_107 rfl rfl rfl (by decide +kernel) dX0_become_143 ?_
      refine x_nmg (fun G32 e_G32 => ?_)
      replace hf := nm_ok hf G32 e_G32
      refine x_aload_n hc 0 dX0_become_146 rfl rfl ?_
      refine x_aload_n hc 1 dX0_become_147 rfl rfl ?_
      refine x_getI (T := TX0) (p0 := a1) hc in_X0 rfl (by decide) (kdb k_a1) 13 (by decide) tw_109 rfl rfl dX0_become_148 ?_
      refine x_putI (T := TX0) (p0 := o) hc tyX0 tyX0_ok nmX0 in_X0 rfl (by decide) (kdb k_o) 13 (by decide) tw_109 rfl rfl rfl (by decide +kernel) dX0_become_151 ?_
      refine x_nmg (fun G33 e_G33 => ?_)
      replace hf := nm_ok hf G33 e_G33
      refine x_aload_n hc 0 dX0_become_154 rfl rfl ?_
      refine x_aload_n hc 1 dX0_become_155 rfl rfl ?_
      refine x_getI (T := TX0) (p0 := a1) hc in_X0 rfl (by decide) (kdb k_a1) 14 (by decide) tw_110 rfl rfl dX0_become_156 ?_
      refine x_putI (T := TX0) (p0 := o) hc tyX0 tyX0_ok nmX0 in_X0 rfl (by decide) (kdb k_o) 14 (by decide) tw_110 rfl rfl rfl (by decide +kernel) dX0_become_159 ?_
      refine x_nmg (fun G34 e_G34 => ?_)
      replace hf := nm_ok hf G34 e_G34
      refine x_aload_n hc 0 dX0_become_162 rfl rfl ?_
      refine x_aload_n hc 1 dX0_become_163 rfl rfl ?_
      refine x_getI (T := TX0) (p0 := a1) hc in_X0 rfl (by decide) (kdb k_a1) 15 (by decide) tw_111 rfl rfl dX0_become_164 ?_
      refine x_putI (T := TX0) (p0 := o) hc tyX0 tyX0_ok nmX0 in_X0 rfl (by decide) (kdb k_o) 15 (by decide) tw_111 rfl rfl rfl (by decide +kernel) dX0_become_167 ?_
      refine x_nmg (fun G35 e_G35 => ?_)
      replace hf := nm_ok hf G35 e_G35
      refine x_aload_n hc 0 dX0_become_170 rfl rfl ?_
      refine x_aload_n hc 1 dX0_become_171 rfl rfl ?_
      refine x_getI (T := TX0) (p0 := a1) hc in_X0 rfl (by decide) (kdb k_a1) 16 (by decide) tw_112 rfl rfl dX0_become_172 ?_
      refine x_putI (T := TX0) (p0 := o) hc tyX0 tyX0_ok nmX0 in_X0 rfl (by decide) (kdb k_o) 16 (by decide) tw_112 rfl rfl rfl (by decide +kernel) dX0_become_175 ?_
      refine x_nmg (fun G36 e_G36 => ?_)
      replace hf := nm_ok hf G36 e_G36
      cases hf
      exact x_vret hc rfl ho dX0_become_178
    exact x_sub [0, 1, 2] (c_X0_become_l52_16 o a1 hc k_o k_a1 FU 0 G13 G23 hl_52 he_87_n16) rfl
  exact x_sub [0, 1, 2] (c_X0_become_l2_3 o a1 hc k_o k_a1 FU 0 G G13 hl_2 he_50_n3) rfl
def f_X0_goByWay (o : Nat) (a1 : Int32) (a2 : Int32) (G : G_) : Option G_ :=
  chk (kd o == 0) <|
  if a2 ≤ 0 then (
    bj1 (f_X0_heat o 1 a1 G) fun G1 =>
    some G1)
  else (
    if G.1 o 12 ≤ 0 then (
      bj1 (f_X0_heat o 1 a1 G) fun G3 =>
      some G3)
    else (
      chk (a2 != 0) <|
      if (G.1 o 12) - (G.1 o 12) / a2 * a2 = 0 then (
        nm (sI G o 11 (1 - (G.1 o 11))) fun G8 =>
        bj1 (f_X0_heat o 1 a1 G8) fun G9 =>
        some G9)
      else (
        bj1 (f_X0_heat o 1 a1 G) fun G6 =>
        some G6)))
set_option maxHeartbeats 4000000 in
set_option maxRecDepth 100000 in
theorem c_X0_goByWay (l : Launch) (V : VT) (o : Nat) (a1 : Int32) (a2 : Int32) (G : G_) (G' : G_) (hf : f_X0_goByWay o a1 a2 G = some G') : MC l V yX0_goByWay cX0_goByWay 3 none 3 71 [.ref (V.2.2.1 o), .int a1, .int a2] G none G' := by
  refine mc_of (by decide) (Nat.le_of_ble_eq_true rfl) (fun K hV ho hc hkl => ?_)
  subst hV
  replace hc : Ok K cX0_goByWay RX0 (Cond.code yX0_goByWay cX0_goByWay 3 none :: TB) none 3 71 3 := hc
  replace ho : Rets K none G' := ho
  show X K 0 [(0, .ref (kad K o)), (1, .int a1), (2, .int a2)] [] G
  unfold f_X0_goByWay at hf
  obtain ⟨k_o, hf⟩ := chk_ok hf
  refine x_iload_n hc 2 dX0_goByWay_0 rfl rfl ?_
  refine x_if_le (tgt := 30) hc dX0_goByWay_1 rfl (fun c_1 => ?_) (fun c_1 => ?_)
  · replace hf := if_p hf c_1
    refine x_aload_n hc 0 dX0_goByWay_30 rfl rfl ?_
    refine x_iconst (v := 1) hc rfl dX0_goByWay_31 ?_
    refine x_iload_n hc 1 dX0_goByWay_32 rfl rfl ?_
    obtain ⟨G1, r2, hf⟩ := bj1_ok hf
    refine x_callVv (As := [.int 1, .int a1]) (p0 := o) (T := TX0) hc (c_X0_heat (kl K) (kV K) o 1 a1 G G1 r2) mw_X0_heat tw_413 (kdb k_o) (by decide) rfl rfl (Nat.le_of_ble_eq_true rfl) ⟨Nat.le_of_ble_eq_true rfl, Nat.le_of_ble_eq_true rfl⟩ dX0_goByWay_33 rfl ?_
    cases hf
    exact x_vret hc rfl ho dX0_goByWay_36
  · replace hf := if_n hf c_1
    refine x_aload_n hc 0 dX0_goByWay_4 rfl rfl ?_
    refine x_getI (T := TX0) (p0 := o) hc in_X0 rfl (by decide) (kdb k_o) 12 (by decide) tw_107 rfl rfl dX0_goByWay_5 ?_
    refine x_if_le (tgt := 30) hc dX0_goByWay_8 rfl (fun c_8 => ?_) (fun c_8 => ?_)
    · replace hf := if_p hf c_8
      refine x_aload_n hc 0 dX0_goByWay_30 rfl rfl ?_
      refine x_iconst (v := 1) hc rfl dX0_goByWay_31 ?_
      refine x_iload_n hc 1 dX0_goByWay_32 rfl rfl ?_
      obtain ⟨G3, r4, hf⟩ := bj1_ok hf
      refine x_callVv (As := [.int 1, .int a1]) (p0 := o) (T := TX0) hc (c_X0_heat (kl K) (kV K) o 1 a1 G G3 r4) mw_X0_heat tw_413 (kdb k_o) (by decide) rfl rfl (Nat.le_of_ble_eq_true rfl) ⟨Nat.le_of_ble_eq_true rfl, Nat.le_of_ble_eq_true rfl⟩ dX0_goByWay_33 rfl ?_
      cases hf
      exact x_vret hc rfl ho dX0_goByWay_36
    · replace hf := if_n hf c_8
      refine x_aload_n hc 0 dX0_goByWay_11 rfl rfl ?_
      refine x_getI (T := TX0) (p0 := o) hc in_X0 rfl (by decide) (kdb k_o) 12 (by decide) tw_107 rfl rfl dX0_goByWay_12 ?_
      refine x_iload_n hc 2 dX0_goByWay_15 rfl rfl ?_
      obtain ⟨h5, hf⟩ := chk_ok hf
      refine x_irem hc (by simpa using h5) dX0_goByWay_16 ?_
      refine x_if_ne (tgt := 30) hc dX0_goByWay_17 rfl (fun c_17 => ?_) (fun c_17 => ?_)
      · replace hf := if_n hf c_17
        refine x_aload_n hc 0 dX0_goByWay_30 rfl rfl ?_
        refine x_iconst (v := 1) hc rfl dX0_goByWay_31 ?_
        refine x_iload_n hc 1 dX0_goByWay_32 rfl rfl ?_
        obtain ⟨G6, r7, hf⟩ := bj1_ok hf
        refine x_callVv (As := [.int 1, .int a1]) (p0 := o) (T := TX0) hc (c_X0_heat (kl K) (kV K) o 1 a1 G G6 r7) mw_X0_heat tw_413 (kdb k_o) (by decide) rfl rfl (Nat.le_of_ble_eq_true rfl) ⟨Nat.le_of_ble_eq_true rfl, Nat.le_of_ble_eq_true rfl⟩ dX0_goByWay_33 rfl ?_
        cases hf
        exact x_vret hc rfl ho dX0_goByWay_36
      · replace hf := if_p hf c_17
        refine x_aload_n hc 0 dX0_goByWay_20 rfl rfl ?_
        refine x_iconst (v := 1) hc rfl dX0_goByWay_21 ?_
        refine x_aload_n hc 0 dX0_goByWay_22 rfl rfl ?_
        refine x_getI (T := TX0) (p0 := o) hc in_X0 rfl (by decide) (kdb k_o) 11 (by decide) tw_106 rfl rfl dX0_goByWay_23 ?_
        refine x_isub hc dX0_goByWay_26 ?_
        refine x_putI (T := TX0) (p0 := o) hc tyX0 tyX0_ok nmX0 in_X0 rfl (by decide) (kdb k_o) 11 (by decide) tw_106 rfl rfl rfl (by decide +kernel) dX0_goByWay_27 ?_
        refine x_nmg (fun G8 e_G8 => ?_)
        replace hf := nm_ok hf G8 e_G8
        refine x_aload_n hc 0 dX0_goByWay_30 rfl rfl ?_
        refine x_iconst (v := 1) hc rfl dX0_goByWay_31 ?_
        refine x_iload_n hc 1 dX0_goByWay_32 rfl rfl ?_
        obtain ⟨G9, r10, hf⟩ := bj1_ok hf
        refine x_callVv (As := [.int 1, .int a1]) (p0 := o) (T := TX0) hc (c_X0_heat (kl K) (kV K) o 1 a1 G8 G9 r10) mw_X0_heat tw_413 (kdb k_o) (by decide) rfl rfl (Nat.le_of_ble_eq_true rfl) ⟨Nat.le_of_ble_eq_true rfl, Nat.le_of_ble_eq_true rfl⟩ dX0_goByWay_33 rfl ?_
        cases hf
        exact x_vret hc rfl ho dX0_goByWay_36
def f_X0_goOn_l2_3 (o : Nat) (a1 : Int32) : Nat → Int32 → G_ → Option (G_)
  | 0, _, _ => none
  | n3 + 1, v1, G2 =>
    if a1 ≤ v1 then (
      some (G2))
    else (
      bj1 (f_X0_turnAndDry o G2) fun G4 =>
      bj1 (f_X2_has (o + 7) (G4.1 o 13) G4) fun x6 =>
      bj1 (
        if x6 = 0 then (
          bj1 (f_X0_heat o 4 0 G4) fun G9 =>
          some (G9))
        else (
          bj1 (f_X2_kindAt (o + 7) (G4.1 o 13) G4) fun x11 =>
          bj1 (f_X2_heatAt (o + 7) (G4.1 o 13) G4) fun x13 =>
          bj1 (f_X0_heat o x11 x13 G4) fun G15 =>
          nm (sI G15 o 14 ((G15.1 o 14) + 1)) fun G17 =>
          bj1 (f_X2_lengthAt (o + 7) (G17.1 o 13) G17) fun x18 =>
          if G17.1 o 14 < x18 then (
            some (G17))
          else (
            nm (sI G17 o 13 ((G17.1 o 13) + 1)) fun G20 =>
            nm (sI G20 o 14 0) fun G21 =>
            some (G21)))) fun (G22 : G_) =>
      f_X0_goOn_l2_3 o a1 n3 (v1 + 1) G22)
def f_X0_goOn (o : Nat) (a1 : Int32) (G : G_) : Option G_ :=
  chk (kd o == 0) <|
  bj1 (f_X0_goOn_l2_3 o a1 FU 0 G) fun G23 =>
  some G23
set_option maxHeartbeats 4000000 in
set_option maxRecDepth 100000 in
theorem c_X0_goOn_l2_3 {K : CT} (o : Nat) (a1 : Int32) (hc : Ok K cX0_goOn RX0 (Cond.code yX0_goOn cX0_goOn 3 none :: TB) none 3 71 3) (k_o : (kd o == 0) = true) : ∀ (n3 : Nat) (v1 : Int32) (G2 : G_) (G23 : G_), f_X0_goOn_l2_3 o a1 n3 v1 G2 = some (G23) → X K 109 [] [] G23 → X K 2 [(0, .ref (kad K o)), (1, .int a1), (2, .int v1)] [] G2 := by
  intro n3
  induction n3 with
  | zero =>
    intro v1 G2 G23 hf hk
    cases hf
  | succ n3 ih =>
    intro v1 G2 G23 hf hk
    unfold f_X0_goOn_l2_3 at hf
    refine x_iload_n hc 2 dX0_goOn_2 rfl rfl ?_
    refine x_iload_n hc 1 dX0_goOn_3 rfl rfl ?_
    refine x_icmp_ge (tgt := 109) hc dX0_goOn_4 rfl (fun c_4 => ?_) (fun c_4 => ?_)
    · replace hf := if_p hf c_4
      cases hf
      exact x_sub [] hk rfl
    · replace hf := if_n hf c_4
      refine x_aload_n hc 0 dX0_goOn_7 rfl rfl ?_
      obtain ⟨G4, r5, hf⟩ := bj1_ok hf
      refine x_callVv (As := []) (p0 := o) (T := TX0) hc (c_X0_turnAndDry (kl K) (kV K) o G2 G4 r5) mw_X0_turnAndDry tw_406 (kdb k_o) (by decide) rfl rfl (Nat.le_of_ble_eq_true rfl) ⟨Nat.le_of_ble_eq_true rfl, Nat.le_of_ble_eq_true rfl⟩ dX0_goOn_8 rfl ?_
      refine x_aload_n hc 0 dX0_goOn_11 rfl rfl ?_
      refine x_getR (T := TX0) (p0 := o) hc in_X0 rfl (by decide) (kdb k_o) 6 (by decide) tw_98 rfl rfl dX0_goOn_12 ?_
      refine x_aload_n hc 0 dX0_goOn_15 rfl rfl ?_
      refine x_getI (T := TX0) (p0 := o) hc in_X0 rfl (by decide) (kdb k_o) 13 (by decide) tw_109 rfl rfl dX0_goOn_16 ?_
      obtain ⟨x6, r7, hf⟩ := bj1_ok hf
      refine x_callVr (As := [.int (G4.1 o 13)]) (p0 := o + 7) (v := (.int x6)) (T := TX2) hc (c_X2_has (kl K) (kV K) (o + 7) (G4.1 o 13) G4 x6 r7) mw_X2_has tw_411 (sh_X0_plan (kdb k_o)) (by decide) rfl rfl (Nat.le_of_ble_eq_true rfl) ⟨Nat.le_of_ble_eq_true rfl, Nat.le_of_ble_eq_true rfl⟩ dX0_goOn_19 rfl ?_
      obtain ⟨G22, hr, hf⟩ := bj1_ok hf
      have hj_103_8 : X K 103 [(0, .ref (kad K o)), (1, .int a1), (2, .int v1)] [] G22 := by
        clear hr
        refine x_iinc (v := v1 + 1) (L' := [(0, .ref (kad K o)), (1, .int a1), (2, .int (v1 + 1))]) hc 2 [1, 2, 0] dX0_goOn_103 rfl rfl (by decide) rfl ?_
        refine x_goto (tgt := 2) hc dX0_goOn_106 rfl ?_
        exact x_sub [0, 1, 2] (ih _ _ _ hf hk) rfl
      replace hf := hr
      clear hr
      refine x_if_eq (tgt := 97) hc dX0_goOn_22 rfl (fun c_22 => ?_) (fun c_22 => ?_)
      · replace hf := if_p hf c_22
        refine x_aload_n hc 0 dX0_goOn_97 rfl rfl ?_
        refine x_iconst (v := 4) hc rfl dX0_goOn_98 ?_
        refine x_iconst (v := 0) hc rfl dX0_goOn_99 ?_
        obtain ⟨G9, r10, hf⟩ := bj1_ok hf
        refine x_callVv (As := [.int 4, .int 0]) (p0 := o) (T := TX0) hc (c_X0_heat (kl K) (kV K) o 4 0 G4 G9 r10) mw_X0_heat tw_413 (kdb k_o) (by decide) rfl rfl (Nat.le_of_ble_eq_true rfl) ⟨Nat.le_of_ble_eq_true rfl, Nat.le_of_ble_eq_true rfl⟩ dX0_goOn_100 rfl ?_
        cases hf
        exact x_sub [0, 1, 2] hj_103_8 rfl
      · replace hf := if_n hf c_22
        refine x_aload_n hc 0 dX0_goOn_25 rfl rfl ?_
        refine x_aload_n hc 0 dX0_goOn_26 rfl rfl ?_
        refine x_getR (T := TX0) (p0 := o) hc in_X0 rfl (by decide) (kdb k_o) 6 (by decide) tw_98 rfl rfl dX0_goOn_27 ?_
        refine x_aload_n hc 0 dX0_goOn_30 rfl rfl ?_
        refine x_getI (T := TX0) (p0 := o) hc in_X0 rfl (by decide) (kdb k_o) 13 (by decide) tw_109 rfl rfl dX0_goOn_31 ?_
        obtain ⟨x11, r12, hf⟩ := bj1_ok hf
        refine x_callVr (As := [.int (G4.1 o 13)]) (p0 := o + 7) (v := (.int x11)) (T := TX2) hc (c_X2_kindAt (kl K) (kV K) (o + 7) (G4.1 o 13) G4 x11 r12) mw_X2_kindAt tw_410 (sh_X0_plan (kdb k_o)) (by decide) rfl rfl (Nat.le_of_ble_eq_true rfl) ⟨Nat.le_of_ble_eq_true rfl, Nat.le_of_ble_eq_true rfl⟩ dX0_goOn_34 rfl ?_
        refine x_aload_n hc 0 dX0_goOn_37 rfl rfl ?_
        refine x_getR (T := TX0) (p0 := o) hc in_X0 rfl (by decide) (kdb k_o) 6 (by decide) tw_98 rfl rfl dX0_goOn_38 ?_
        refine x_aload_n hc 0 dX0_goOn_41 rfl rfl ?_
        refine x_getI (T := TX0) (p0 := o) hc in_X0 rfl (by decide) (kdb k_o) 13 (by decide) tw_109 rfl rfl dX0_goOn_42 ?_
        obtain ⟨x13, r14, hf⟩ := bj1_ok hf
        refine x_callVr (As := [.int (G4.1 o 13)]) (p0 := o + 7) (v := (.int x13)) (T := TX2) hc (c_X2_heatAt (kl K) (kV K) (o + 7) (G4.1 o 13) G4 x13 r14) mw_X2_heatAt tw_412 (sh_X0_plan (kdb k_o)) (by decide) rfl rfl (Nat.le_of_ble_eq_true rfl) ⟨Nat.le_of_ble_eq_true rfl, Nat.le_of_ble_eq_true rfl⟩ dX0_goOn_45 rfl ?_
        obtain ⟨G15, r16, hf⟩ := bj1_ok hf
        refine x_callVv (As := [.int x11, .int x13]) (p0 := o) (T := TX0) hc (c_X0_heat (kl K) (kV K) o x11 x13 G4 G15 r16) mw_X0_heat tw_413 (kdb k_o) (by decide) rfl rfl (Nat.le_of_ble_eq_true rfl) ⟨Nat.le_of_ble_eq_true rfl, Nat.le_of_ble_eq_true rfl⟩ dX0_goOn_48 rfl ?_
        refine x_aload_n hc 0 dX0_goOn_51 rfl rfl ?_
        refine x_dup hc rfl dX0_goOn_52 ?_
        refine x_getI (T := TX0) (p0 := o) hc in_X0 rfl (by decide) (kdb k_o) 14 (by decide) tw_110 rfl rfl dX0_goOn_53 ?_
        refine x_iconst (v := 1) hc rfl dX0_goOn_56 ?_
        refine x_iadd hc dX0_goOn_57 ?_
        refine x_putI (T := TX0) (p0 := o) hc tyX0 tyX0_ok nmX0 in_X0 rfl (by decide) (kdb k_o) 14 (by decide) tw_110 rfl rfl rfl (by decide +kernel) dX0_goOn_58 ?_
        refine x_nmg (fun G17 e_G17 => ?_)
        replace hf := nm_ok hf G17 e_G17
        refine x_aload_n hc 0 dX0_goOn_61 rfl rfl ?_
        refine x_getI (T := TX0) (p0 := o) hc in_X0 rfl (by decide) (kdb k_o) 14 (by decide) tw_110 rfl rfl dX0_goOn_62 ?_
        refine x_aload_n hc 0 dX0_goOn_65 rfl rfl ?_
        refine x_getR (T := TX0) (p0 := o) hc in_X0 rfl (by decide) (kdb k_o) 6 (by decide) tw_98 rfl rfl dX0_goOn_66 ?_
        refine x_aload_n hc 0 dX0_goOn_69 rfl rfl ?_
        refine x_getI (T := TX0) (p0 := o) hc in_X0 rfl (by decide) (kdb k_o) 13 (by decide) tw_109 rfl rfl dX0_goOn_70 ?_
        obtain ⟨x18, r19, hf⟩ := bj1_ok hf
        refine x_callVr (As := [.int (G17.1 o 13)]) (p0 := o + 7) (v := (.int x18)) (T := TX2) hc (c_X2_lengthAt (kl K) (kV K) (o + 7) (G17.1 o 13) G17 x18 r19) mw_X2_lengthAt tw_432 (sh_X0_plan (kdb k_o)) (by decide) rfl rfl (Nat.le_of_ble_eq_true rfl) ⟨Nat.le_of_ble_eq_true rfl, Nat.le_of_ble_eq_true rfl⟩ dX0_goOn_73 rfl ?_
        refine x_icmp_lt (tgt := 103) hc dX0_goOn_76 rfl (fun c_76 => ?_) (fun c_76 => ?_)
        · replace hf := if_p hf c_76
          cases hf
          exact x_sub [0, 1, 2] hj_103_8 rfl
        · replace hf := if_n hf c_76
          refine x_aload_n hc 0 dX0_goOn_79 rfl rfl ?_
          refine x_dup hc rfl dX0_goOn_80 ?_
          refine x_getI (T := TX0) (p0 := o) hc in_X0 rfl (by decide) (kdb k_o) 13 (by decide) tw_109 rfl rfl dX0_goOn_81 ?_
          refine x_iconst (v := 1) hc rfl dX0_goOn_84 ?_
          refine x_iadd hc dX0_goOn_85 ?_
          refine x_putI (T := TX0) (p0 := o) hc tyX0 tyX0_ok nmX0 in_X0 rfl (by decide) (kdb k_o) 13 (by decide) tw_109 rfl rfl rfl (by decide +kernel) dX0_goOn_86 ?_
          refine x_nmg (fun G20 e_G20 => ?_)
          replace hf := nm_ok hf G20 e_G20
          refine x_aload_n hc 0 dX0_goOn_89 rfl rfl ?_
          refine x_iconst (v := 0) hc rfl dX0_goOn_90 ?_
          refine x_putI (T := TX0) (p0 := o) hc tyX0 tyX0_ok nmX0 in_X0 rfl (by decide) (kdb k_o) 14 (by decide) tw_110 rfl rfl rfl (by decide +kernel) dX0_goOn_91 ?_
          refine x_nmg (fun G21 e_G21 => ?_)
          replace hf := nm_ok hf G21 e_G21
          refine x_goto (tgt := 103) hc dX0_goOn_94 rfl ?_
          cases hf
          exact x_sub [0, 1, 2] hj_103_8 rfl
set_option maxHeartbeats 4000000 in
set_option maxRecDepth 100000 in
theorem c_X0_goOn (l : Launch) (V : VT) (o : Nat) (a1 : Int32) (G : G_) (G' : G_) (hf : f_X0_goOn o a1 G = some G') : MC l V yX0_goOn cX0_goOn 3 none 3 71 [.ref (V.2.2.1 o), .int a1] G none G' := by
  refine mc_of (by decide) (Nat.le_of_ble_eq_true rfl) (fun K hV ho hc hkl => ?_)
  subst hV
  replace hc : Ok K cX0_goOn RX0 (Cond.code yX0_goOn cX0_goOn 3 none :: TB) none 3 71 3 := hc
  replace ho : Rets K none G' := ho
  show X K 0 [(0, .ref (kad K o)), (1, .int a1)] [] G
  unfold f_X0_goOn at hf
  obtain ⟨k_o, hf⟩ := chk_ok hf
  refine x_iconst (v := 0) hc rfl dX0_goOn_0 ?_
  refine x_istore_n (L' := [(0, .ref (kad K o)), (1, .int a1), (2, .int 0)]) hc [1, 2, 0] dX0_goOn_1 rfl (by decide) rfl ?_
  obtain ⟨G23, hl_2, hf⟩ := bj1_ok hf
  have he_109_n3 : X K 109 [] [] G23 := by
    clear hl_2
    cases hf
    exact x_vret hc rfl ho dX0_goOn_109
  exact x_sub [0, 1, 2] (c_X0_goOn_l2_3 o a1 hc k_o FU 0 G G23 hl_2 he_109_n3) rfl
def f_X0_restFor_l2_3 (o : Nat) (a1 : Int32) : Nat → Int32 → G_ → Option (G_)
  | 0, _, _ => none
  | n3 + 1, v1, G2 =>
    if a1 ≤ v1 then (
      some (G2))
    else (
      bj1 (f_X0_heat o 4 0 G2) fun G4 =>
      f_X0_restFor_l2_3 o a1 n3 (v1 + 1) G4)
def f_X0_restFor (o : Nat) (a1 : Int32) (G : G_) : Option G_ :=
  chk (kd o == 0) <|
  bj1 (f_X0_restFor_l2_3 o a1 FU 0 G) fun G6 =>
  some G6
set_option maxHeartbeats 4000000 in
set_option maxRecDepth 100000 in
theorem c_X0_restFor_l2_3 {K : CT} (o : Nat) (a1 : Int32) (hc : Ok K cX0_restFor RX0 (Cond.code yX0_restFor cX0_restFor 3 none :: TB) none 3 71 3) (k_o : (kd o == 0) = true) : ∀ (n3 : Nat) (v1 : Int32) (G2 : G_) (G6 : G_), f_X0_restFor_l2_3 o a1 n3 v1 G2 = some (G6) → X K 19 [] [] G6 → X K 2 [(0, .ref (kad K o)), (1, .int a1), (2, .int v1)] [] G2 := by
  intro n3
  induction n3 with
  | zero =>
    intro v1 G2 G6 hf hk
    cases hf
  | succ n3 ih =>
    intro v1 G2 G6 hf hk
    unfold f_X0_restFor_l2_3 at hf
    refine x_iload_n hc 2 dX0_restFor_2 rfl rfl ?_
    refine x_iload_n hc 1 dX0_restFor_3 rfl rfl ?_
    refine x_icmp_ge (tgt := 19) hc dX0_restFor_4 rfl (fun c_4 => ?_) (fun c_4 => ?_)
    · replace hf := if_p hf c_4
      cases hf
      exact x_sub [] hk rfl
    · replace hf := if_n hf c_4
      refine x_aload_n hc 0 dX0_restFor_7 rfl rfl ?_
      refine x_iconst (v := 4) hc rfl dX0_restFor_8 ?_
      refine x_iconst (v := 0) hc rfl dX0_restFor_9 ?_
      obtain ⟨G4, r5, hf⟩ := bj1_ok hf
      refine x_callVv (As := [.int 4, .int 0]) (p0 := o) (T := TX0) hc (c_X0_heat (kl K) (kV K) o 4 0 G2 G4 r5) mw_X0_heat tw_413 (kdb k_o) (by decide) rfl rfl (Nat.le_of_ble_eq_true rfl) ⟨Nat.le_of_ble_eq_true rfl, Nat.le_of_ble_eq_true rfl⟩ dX0_restFor_10 rfl ?_
      refine x_iinc (v := v1 + 1) (L' := [(0, .ref (kad K o)), (1, .int a1), (2, .int (v1 + 1))]) hc 2 [1, 2, 0] dX0_restFor_13 rfl rfl (by decide) rfl ?_
      refine x_goto (tgt := 2) hc dX0_restFor_16 rfl ?_
      exact x_sub [0, 1, 2] (ih _ _ _ hf hk) rfl
set_option maxHeartbeats 4000000 in
set_option maxRecDepth 100000 in
theorem c_X0_restFor (l : Launch) (V : VT) (o : Nat) (a1 : Int32) (G : G_) (G' : G_) (hf : f_X0_restFor o a1 G = some G') : MC l V yX0_restFor cX0_restFor 3 none 3 71 [.ref (V.2.2.1 o), .int a1] G none G' := by
  refine mc_of (by decide) (Nat.le_of_ble_eq_true rfl) (fun K hV ho hc hkl => ?_)
  subst hV
  replace hc : Ok K cX0_restFor RX0 (Cond.code yX0_restFor cX0_restFor 3 none :: TB) none 3 71 3 := hc
  replace ho : Rets K none G' := ho
  show X K 0 [(0, .ref (kad K o)), (1, .int a1)] [] G
  unfold f_X0_restFor at hf
  obtain ⟨k_o, hf⟩ := chk_ok hf
  refine x_iconst (v := 0) hc rfl dX0_restFor_0 ?_
  refine x_istore_n (L' := [(0, .ref (kad K o)), (1, .int a1), (2, .int 0)]) hc [1, 2, 0] dX0_restFor_1 rfl (by decide) rfl ?_
  obtain ⟨G6, hl_2, hf⟩ := bj1_ok hf
  have he_19_n3 : X K 19 [] [] G6 := by
    clear hl_2
    cases hf
    exact x_vret hc rfl ho dX0_restFor_19
  exact x_sub [0, 1, 2] (c_X0_restFor_l2_3 o a1 hc k_o FU 0 G G6 hl_2 he_19_n3) rfl
def f_X0_greatestAtRest_l7_6 (o : Nat) (a1 : Int32) : Nat → Int32 → Int32 → G_ → Option (Int32 × G_)
  | 0, _, _, _ => none
  | n6 + 1, v3, v4, G5 =>
    if a1 ≤ v4 then (
      some (v3, G5))
    else (
      bj1 (f_X0_heat o 4 0 G5) fun G7 =>
      bj1 (f_X0_middleWarmth o G7) fun x9 =>
      f_X0_greatestAtRest_l7_6 o a1 n6 (mx v3 x9) (v4 + 1) G7)
def f_X0_greatestAtRest (o : Nat) (a1 : Int32) (G : G_) : Option (Int32 × G_) :=
  chk (kd o == 0) <|
  bj1 (f_X0_middleWarmth o G) fun x1 =>
  bj2 (f_X0_greatestAtRest_l7_6 o a1 FU x1 0 G) fun x11 G12 =>
  some (x11, G12)
set_option maxHeartbeats 4000000 in
set_option maxRecDepth 100000 in
theorem c_X0_greatestAtRest_l7_6 {K : CT} (o : Nat) (a1 : Int32) (hc : Ok K cX0_greatestAtRest RX0 (Cond.code yX0_greatestAtRest cX0_greatestAtRest 4 (some .int) :: TB) (some .int) 3 71 4) (k_o : (kd o == 0) = true) : ∀ (n6 : Nat) (v3 : Int32) (v4 : Int32) (G5 : G_) (x11 : Int32) (G12 : G_), f_X0_greatestAtRest_l7_6 o a1 n6 v3 v4 G5 = some (x11, G12) → X K 33 [(2, .int x11)] [] G12 → X K 7 [(0, .ref (kad K o)), (1, .int a1), (2, .int v3), (3, .int v4)] [] G5 := by
  intro n6
  induction n6 with
  | zero =>
    intro v3 v4 G5 x11 G12 hf hk
    cases hf
  | succ n6 ih =>
    intro v3 v4 G5 x11 G12 hf hk
    unfold f_X0_greatestAtRest_l7_6 at hf
    refine x_iload_n hc 3 dX0_greatestAtRest_7 rfl rfl ?_
    refine x_iload_n hc 1 dX0_greatestAtRest_8 rfl rfl ?_
    refine x_icmp_ge (tgt := 33) hc dX0_greatestAtRest_9 rfl (fun c_9 => ?_) (fun c_9 => ?_)
    · replace hf := if_p hf c_9
      cases hf
      exact x_sub [2] hk rfl
    · replace hf := if_n hf c_9
      refine x_aload_n hc 0 dX0_greatestAtRest_12 rfl rfl ?_
      refine x_iconst (v := 4) hc rfl dX0_greatestAtRest_13 ?_
      refine x_iconst (v := 0) hc rfl dX0_greatestAtRest_14 ?_
      obtain ⟨G7, r8, hf⟩ := bj1_ok hf
      refine x_callVv (As := [.int 4, .int 0]) (p0 := o) (T := TX0) hc (c_X0_heat (kl K) (kV K) o 4 0 G5 G7 r8) mw_X0_heat tw_413 (kdb k_o) (by decide) rfl rfl (Nat.le_of_ble_eq_true rfl) ⟨Nat.le_of_ble_eq_true rfl, Nat.le_of_ble_eq_true rfl⟩ dX0_greatestAtRest_15 rfl ?_
      refine x_iload_n hc 2 dX0_greatestAtRest_18 rfl rfl ?_
      refine x_aload_n hc 0 dX0_greatestAtRest_19 rfl rfl ?_
      obtain ⟨x9, r10, hf⟩ := bj1_ok hf
      refine x_callVr (As := []) (p0 := o) (v := (.int x9)) (T := TX0) hc (c_X0_middleWarmth (kl K) (kV K) o G7 x9 r10) mw_X0_middleWarmth tw_808 (kdb k_o) (by decide) rfl rfl (Nat.le_of_ble_eq_true rfl) ⟨Nat.le_of_ble_eq_true rfl, Nat.le_of_ble_eq_true rfl⟩ dX0_greatestAtRest_20 rfl ?_
      refine x_mmax hc tw_393 tw_394 tw_36 tw_395 (Nat.le_of_ble_eq_true rfl) (Nat.le_of_ble_eq_true rfl) dX0_greatestAtRest_23 ?_
      refine x_istore_n (L' := [(0, .ref (kad K o)), (1, .int a1), (2, .int (mx v3 x9)), (3, .int v4)]) hc [1, 2, 0, 3] dX0_greatestAtRest_26 rfl (by decide) rfl ?_
      refine x_iinc (v := v4 + 1) (L' := [(0, .ref (kad K o)), (1, .int a1), (2, .int (mx v3 x9)), (3, .int (v4 + 1))]) hc 3 [1, 2, 3, 0] dX0_greatestAtRest_27 rfl rfl (by decide) rfl ?_
      refine x_goto (tgt := 7) hc dX0_greatestAtRest_30 rfl ?_
      exact x_sub [0, 1, 2, 3] (ih _ _ _ _ _ hf hk) rfl
set_option maxHeartbeats 4000000 in
set_option maxRecDepth 100000 in
theorem c_X0_greatestAtRest (l : Launch) (V : VT) (o : Nat) (a1 : Int32) (G : G_) (r : Int32) (G' : G_) (hf : f_X0_greatestAtRest o a1 G = some (r, G')) : MC l V yX0_greatestAtRest cX0_greatestAtRest 4 (some .int) 3 71 [.ref (V.2.2.1 o), .int a1] G (some (.int r)) G' := by
  refine mc_of (by decide) (Nat.le_of_ble_eq_true rfl) (fun K hV ho hc hkl => ?_)
  subst hV
  replace hc : Ok K cX0_greatestAtRest RX0 (Cond.code yX0_greatestAtRest cX0_greatestAtRest 4 (some .int) :: TB) (some .int) 3 71 4 := hc
  replace ho : Rets K (some (.int r)) G' := ho
  show X K 0 [(0, .ref (kad K o)), (1, .int a1)] [] G
  unfold f_X0_greatestAtRest at hf
  obtain ⟨k_o, hf⟩ := chk_ok hf
  refine x_aload_n hc 0 dX0_greatestAtRest_0 rfl rfl ?_
  obtain ⟨x1, r2, hf⟩ := bj1_ok hf
  refine x_callVr (As := []) (p0 := o) (v := (.int x1)) (T := TX0) hc (c_X0_middleWarmth (kl K) (kV K) o G x1 r2) mw_X0_middleWarmth tw_808 (kdb k_o) (by decide) rfl rfl (Nat.le_of_ble_eq_true rfl) ⟨Nat.le_of_ble_eq_true rfl, Nat.le_of_ble_eq_true rfl⟩ dX0_greatestAtRest_1 rfl ?_
  refine x_istore_n (L' := [(0, .ref (kad K o)), (1, .int a1), (2, .int x1)]) hc [1, 2, 0] dX0_greatestAtRest_4 rfl (by decide) rfl ?_
  refine x_iconst (v := 0) hc rfl dX0_greatestAtRest_5 ?_
  refine x_istore_n (L' := [(0, .ref (kad K o)), (1, .int a1), (2, .int x1), (3, .int 0)]) hc [1, 2, 3, 0] dX0_greatestAtRest_6 rfl (by decide) rfl ?_
  obtain ⟨x11, G12, hl_7, hf⟩ := bj2_ok hf
  have he_33_n6 : X K 33 [(2, .int x11)] [] G12 := by
    clear hl_7
    refine x_iload_n hc 0 dX0_greatestAtRest_33 rfl rfl ?_
    cases hf
    exact x_iret hc rfl ho dX0_greatestAtRest_34
  exact x_sub [0, 1, 2, 3] (c_X0_greatestAtRest_l7_6 o a1 hc k_o FU x1 0 G x11 G12 hl_7 he_33_n6) rfl
def f_X0_pink (o : Nat) (G : G_) : Option Int32 :=
  chk (kd o == 0) <|
  bj1 (f_X0_justSo o 500 649 G) fun x1 =>
  some x1
set_option maxHeartbeats 4000000 in
set_option maxRecDepth 100000 in
theorem c_X0_pink (l : Launch) (V : VT) (o : Nat) (G : G_) (r : Int32) (hf : f_X0_pink o G = some r) : MC l V yX0_pink cX0_pink 1 (some .int) 3 66 [.ref (V.2.2.1 o)] G (some (.int r)) G := by
  refine mc_of (by decide) (Nat.le_of_ble_eq_true rfl) (fun K hV ho hc hkl => ?_)
  subst hV
  replace hc : Ok K cX0_pink RX0 (Cond.code yX0_pink cX0_pink 1 (some .int) :: TB) (some .int) 3 66 1 := hc
  replace ho : Rets K (some (.int r)) G := ho
  show X K 0 [(0, .ref (kad K o))] [] G
  unfold f_X0_pink at hf
  obtain ⟨k_o, hf⟩ := chk_ok hf
  refine x_aload_n hc 0 dX0_pink_0 rfl rfl ?_
  refine x_sipush (v := 500) hc rfl dX0_pink_1 ?_
  refine x_sipush (v := 649) hc rfl dX0_pink_4 ?_
  obtain ⟨x1, r2, hf⟩ := bj1_ok hf
  refine x_callVr (As := [.int 500, .int 649]) (p0 := o) (v := (.int x1)) (T := TX0) hc (c_X0_justSo (kl K) (kV K) o 500 649 G x1 r2) mw_X0_justSo tw_527 (kdb k_o) (by decide) rfl rfl (Nat.le_of_ble_eq_true rfl) ⟨Nat.le_of_ble_eq_true rfl, Nat.le_of_ble_eq_true rfl⟩ dX0_pink_7 rfl ?_
  cases hf
  exact x_iret hc rfl ho dX0_pink_10
def f_X0_unlikeRow_l4_3 (o : Nat) (a1 : Nat) (G : G_) : Nat → Int32 → Int32 → Option (Int32)
  | 0, _, _ => none
  | n3 + 1, v1, v2 =>
    if G.1 o 8 ≤ v2 then (
      some (v1))
    else (
      bj1 (f_X4_value a1 v2 G) fun x4 =>
      bj1 (f_X0_colour o v2 G) fun x6 =>
      bj1 (
        if x4 = x6 then (
          some (0))
        else (
          some (1))) fun (x9 : Int32) =>
      f_X0_unlikeRow_l4_3 o a1 G n3 (v1 + x9) (v2 + 1))
def f_X0_unlikeRow (o : Nat) (a1 : Nat) (G : G_) : Option Int32 :=
  chk (kd o == 0) <|
  chk (kd a1 == 4) <|
  bj1 (f_X0_unlikeRow_l4_3 o a1 G FU 0 0) fun x10 =>
  some x10
set_option maxHeartbeats 4000000 in
set_option maxRecDepth 100000 in
theorem c_X0_unlikeRow_l4_3 {K : CT} (o : Nat) (a1 : Nat) (G : G_) (hc : Ok K cX0_unlikeRow RX0 (Cond.code yX0_unlikeRow cX0_unlikeRow 4 (some .int) :: TB) (some .int) 3 63 4) (k_o : (kd o == 0) = true) (k_a1 : (kd a1 == 4) = true) : ∀ (n3 : Nat) (v1 : Int32) (v2 : Int32) (x10 : Int32), f_X0_unlikeRow_l4_3 o a1 G n3 v1 v2 = some (x10) → X K 39 [(2, .int x10)] [] G → X K 4 [(0, .ref (kad K o)), (1, .ref (kad K a1)), (2, .int v1), (3, .int v2)] [] G := by
  intro n3
  induction n3 with
  | zero =>
    intro v1 v2 x10 hf hk
    cases hf
  | succ n3 ih =>
    intro v1 v2 x10 hf hk
    unfold f_X0_unlikeRow_l4_3 at hf
    refine x_iload_n hc 3 dX0_unlikeRow_4 rfl rfl ?_
    refine x_aload_n hc 0 dX0_unlikeRow_5 rfl rfl ?_
    refine x_getI (T := TX0) (p0 := o) hc in_X0 rfl (by decide) (kdb k_o) 8 (by decide) tw_102 rfl rfl dX0_unlikeRow_6 ?_
    refine x_icmp_ge (tgt := 39) hc dX0_unlikeRow_9 rfl (fun c_9 => ?_) (fun c_9 => ?_)
    · replace hf := if_p hf c_9
      cases hf
      exact x_sub [2] hk rfl
    · replace hf := if_n hf c_9
      refine x_iload_n hc 2 dX0_unlikeRow_12 rfl rfl ?_
      refine x_aload_n hc 1 dX0_unlikeRow_13 rfl rfl ?_
      refine x_iload_n hc 3 dX0_unlikeRow_14 rfl rfl ?_
      obtain ⟨x4, r5, hf⟩ := bj1_ok hf
      refine x_callVr (As := [.int v2]) (p0 := a1) (v := (.int x4)) (T := TX4) hc (c_X4_value (kl K) (kV K) a1 v2 G x4 r5) mw_X4_value tw_591 (kdb k_a1) (by decide) rfl rfl (Nat.le_of_ble_eq_true rfl) ⟨Nat.le_of_ble_eq_true rfl, Nat.le_of_ble_eq_true rfl⟩ dX0_unlikeRow_15 rfl ?_
      refine x_aload_n hc 0 dX0_unlikeRow_18 rfl rfl ?_
      refine x_iload_n hc 3 dX0_unlikeRow_19 rfl rfl ?_
      obtain ⟨x6, r7, hf⟩ := bj1_ok hf
      refine x_callVr (As := [.int v2]) (p0 := o) (v := (.int x6)) (T := TX0) hc (c_X0_colour (kl K) (kV K) o v2 G x6 r7) mw_X0_colour tw_592 (kdb k_o) (by decide) rfl rfl (Nat.le_of_ble_eq_true rfl) ⟨Nat.le_of_ble_eq_true rfl, Nat.le_of_ble_eq_true rfl⟩ dX0_unlikeRow_20 rfl ?_
      obtain ⟨x9, hr, hf⟩ := bj1_ok hf
      have hj_31_8 : X K 31 [(0, .ref (kad K o)), (1, .ref (kad K a1)), (3, .int v2)] [.int x9, .int v1] G := by
        clear hr
        refine x_iadd hc dX0_unlikeRow_31 ?_
        refine x_istore_n (L' := [(0, .ref (kad K o)), (1, .ref (kad K a1)), (2, .int (v1 + x9)), (3, .int v2)]) hc [1, 2, 0, 3] dX0_unlikeRow_32 rfl (by decide) rfl ?_
        refine x_iinc (v := v2 + 1) (L' := [(0, .ref (kad K o)), (1, .ref (kad K a1)), (2, .int (v1 + x9)), (3, .int (v2 + 1))]) hc 3 [1, 2, 3, 0] dX0_unlikeRow_33 rfl rfl (by decide) rfl ?_
        refine x_goto (tgt := 4) hc dX0_unlikeRow_36 rfl ?_
        exact x_sub [0, 1, 2, 3] (ih _ _ _ hf hk) rfl
      replace hf := hr
      clear hr
      refine x_icmp_eq (tgt := 30) hc dX0_unlikeRow_23 rfl (fun c_23 => ?_) (fun c_23 => ?_)
      · replace hf := if_p hf c_23
        refine x_iconst (v := 0) hc rfl dX0_unlikeRow_30 ?_
        cases hf
        exact x_sub [0, 1, 3] hj_31_8 rfl
      · replace hf := if_n hf c_23
        refine x_iconst (v := 1) hc rfl dX0_unlikeRow_26 ?_
        refine x_goto (tgt := 31) hc dX0_unlikeRow_27 rfl ?_
        cases hf
        exact x_sub [0, 1, 3] hj_31_8 rfl
set_option maxHeartbeats 4000000 in
set_option maxRecDepth 100000 in
theorem c_X0_unlikeRow (l : Launch) (V : VT) (o : Nat) (a1 : Nat) (G : G_) (r : Int32) (hf : f_X0_unlikeRow o a1 G = some r) : MC l V yX0_unlikeRow cX0_unlikeRow 4 (some .int) 3 63 [.ref (V.2.2.1 o), .ref (V.2.2.1 a1)] G (some (.int r)) G := by
  refine mc_of (by decide) (Nat.le_of_ble_eq_true rfl) (fun K hV ho hc hkl => ?_)
  subst hV
  replace hc : Ok K cX0_unlikeRow RX0 (Cond.code yX0_unlikeRow cX0_unlikeRow 4 (some .int) :: TB) (some .int) 3 63 4 := hc
  replace ho : Rets K (some (.int r)) G := ho
  show X K 0 [(0, .ref (kad K o)), (1, .ref (kad K a1))] [] G
  unfold f_X0_unlikeRow at hf
  obtain ⟨k_o, hf⟩ := chk_ok hf
  obtain ⟨k_a1, hf⟩ := chk_ok hf
  refine x_iconst (v := 0) hc rfl dX0_unlikeRow_0 ?_
  refine x_istore_n (L' := [(0, .ref (kad K o)), (1, .ref (kad K a1)), (2, .int 0)]) hc [1, 2, 0] dX0_unlikeRow_1 rfl (by decide) rfl ?_
  refine x_iconst (v := 0) hc rfl dX0_unlikeRow_2 ?_
  refine x_istore_n (L' := [(0, .ref (kad K o)), (1, .ref (kad K a1)), (2, .int 0), (3, .int 0)]) hc [1, 2, 3, 0] dX0_unlikeRow_3 rfl (by decide) rfl ?_
  obtain ⟨x10, hl_4, hf⟩ := bj1_ok hf
  have he_39_n3 : X K 39 [(2, .int x10)] [] G := by
    clear hl_4
    refine x_iload_n hc 0 dX0_unlikeRow_39 rfl rfl ?_
    cases hf
    exact x_iret hc rfl ho dX0_unlikeRow_40
  exact x_sub [0, 1, 2, 3] (c_X0_unlikeRow_l4_3 o a1 G hc k_o k_a1 FU 0 0 x10 hl_4 he_39_n3) rfl
def f_X0_digestOn_l32_6 (o : Nat) (v2 : Int32) (G : G_) : Nat → Int64 → Int32 → Option (Int64)
  | 0, _, _ => none
  | n6 + 1, v4, v5 =>
    if 2 < v5 then (
      some (v4))
    else (
      bj1 (f_X0_depthTells o v2 v5 G) fun x7 =>
      f_X0_digestOn_l32_6 o v2 G n6 ((31 * v4) + x7.toInt64) (v5 + 1))
def f_X0_digestOn_l20_3 (o : Nat) (G : G_) : Nat → Int64 → Int32 → Option (Int64)
  | 0, _, _ => none
  | n3 + 1, v1, v2 =>
    if G.1 o 8 ≤ v2 then (
      some (v1))
    else (
      bj1 (f_X0_digestOn_l32_6 o v2 G FU v1 0) fun w9 =>
      f_X0_digestOn_l20_3 o G n3 w9 (v2 + 1))
def f_X0_digestOn_l78_16 (o : Nat) (v12 : Int32) (G : G_) : Nat → Int64 → Int32 → Option (Int64)
  | 0, _, _ => none
  | n16 + 1, v14, v15 =>
    if 3 < v15 then (
      some (v14))
    else (
      bj1 (f_X0_skinTells o v12 v15 G) fun x17 =>
      f_X0_digestOn_l78_16 o v12 G n16 ((31 * v14) + x17.toInt64) (v15 + 1))
def f_X0_digestOn_l69_13 (o : Nat) (G : G_) : Nat → Int64 → Int32 → Option (Int64)
  | 0, _, _ => none
  | n13 + 1, v11, v12 =>
    if 2 ≤ v12 then (
      some (v11))
    else (
      bj1 (f_X0_digestOn_l78_16 o v12 G FU v11 0) fun w19 =>
      f_X0_digestOn_l69_13 o G n13 w19 (v12 + 1))
def f_X0_digestOn (o : Nat) (a1 : Int64) (G : G_) : Option Int64 :=
  chk (kd o == 0) <|
  if G.1 o 7 = 0 then (
    some ((31 * a1) - 1))
  else (
    bj1 (f_X0_digestOn_l20_3 o G FU a1 0) fun w10 =>
    bj1 (f_X0_digestOn_l69_13 o G FU w10 0) fun w20 =>
    some w20)
set_option maxHeartbeats 4000000 in
set_option maxRecDepth 100000 in
theorem c_X0_digestOn_l32_6 {K : CT} (o : Nat) (v2 : Int32) (G : G_) (hc : Ok K cX0_digestOn RX0 (Cond.code yX0_digestOn cX0_digestOn 7 (some .long) :: TB) (some .long) 3 64 7) (k_o : (kd o == 0) = true) : ∀ (n6 : Nat) (v4 : Int64) (v5 : Int32) (w9 : Int64), f_X0_digestOn_l32_6 o v2 G n6 v4 v5 = some (w9) → X K 60 [(0, .ref (kad K o)), (3, .long w9), (5, .int v2)] [] G → X K 32 [(0, .ref (kad K o)), (3, .long v4), (5, .int v2), (6, .int v5)] [] G := by
  intro n6
  induction n6 with
  | zero =>
    intro v4 v5 w9 hf hk
    cases hf
  | succ n6 ih =>
    intro v4 v5 w9 hf hk
    unfold f_X0_digestOn_l32_6 at hf
    refine x_iload hc 3 dX0_digestOn_32 rfl ?_
    refine x_iconst (v := 2) hc rfl dX0_digestOn_34 ?_
    refine x_icmp_gt (tgt := 60) hc dX0_digestOn_35 rfl (fun c_35 => ?_) (fun c_35 => ?_)
    · replace hf := if_p hf c_35
      cases hf
      exact x_sub [0, 1, 2] hk rfl
    · replace hf := if_n hf c_35
      refine x_ldc2 (v := 31) hc dX0_digestOn_38 tw_672 ?_
      refine x_lload_n hc 1 dX0_digestOn_41 rfl rfl ?_
      refine x_lmul hc dX0_digestOn_42 ?_
      refine x_aload_n hc 0 dX0_digestOn_43 rfl rfl ?_
      refine x_iload hc 2 dX0_digestOn_44 rfl ?_
      refine x_iload hc 3 dX0_digestOn_46 rfl ?_
      obtain ⟨x7, r8, hf⟩ := bj1_ok hf
      refine x_callVr (As := [.int v2, .int v5]) (p0 := o) (v := (.int x7)) (T := TX0) hc (c_X0_depthTells (kl K) (kV K) o v2 v5 G x7 r8) mw_X0_depthTells tw_673 (kdb k_o) (by decide) rfl rfl (Nat.le_of_ble_eq_true rfl) ⟨Nat.le_of_ble_eq_true rfl, Nat.le_of_ble_eq_true rfl⟩ dX0_digestOn_48 rfl ?_
      refine x_i2l hc dX0_digestOn_51 ?_
      refine x_ladd hc dX0_digestOn_52 ?_
      refine x_lstore_n (L' := [(0, .ref (kad K o)), (3, .long ((31 * v4) + x7.toInt64)), (5, .int v2), (6, .int v5)]) hc [1, 0, 2, 3] dX0_digestOn_53 rfl (by decide) rfl ?_
      refine x_iinc (v := v5 + 1) (L' := [(0, .ref (kad K o)), (3, .long ((31 * v4) + x7.toInt64)), (5, .int v2), (6, .int (v5 + 1))]) hc 3 [1, 2, 3, 0] dX0_digestOn_54 rfl rfl (by decide) rfl ?_
      refine x_goto (tgt := 32) hc dX0_digestOn_57 rfl ?_
      exact x_sub [0, 1, 2, 3] (ih _ _ _ hf hk) rfl
set_option maxHeartbeats 4000000 in
set_option maxRecDepth 100000 in
theorem c_X0_digestOn_l20_3 {K : CT} (o : Nat) (G : G_) (hc : Ok K cX0_digestOn RX0 (Cond.code yX0_digestOn cX0_digestOn 7 (some .long) :: TB) (some .long) 3 64 7) (k_o : (kd o == 0) = true) : ∀ (n3 : Nat) (v1 : Int64) (v2 : Int32) (w10 : Int64), f_X0_digestOn_l20_3 o G n3 v1 v2 = some (w10) → X K 66 [(0, .ref (kad K o)), (3, .long w10)] [] G → X K 20 [(0, .ref (kad K o)), (3, .long v1), (5, .int v2)] [] G := by
  intro n3
  induction n3 with
  | zero =>
    intro v1 v2 w10 hf hk
    cases hf
  | succ n3 ih =>
    intro v1 v2 w10 hf hk
    unfold f_X0_digestOn_l20_3 at hf
    refine x_iload hc 2 dX0_digestOn_20 rfl ?_
    refine x_aload_n hc 0 dX0_digestOn_22 rfl rfl ?_
    refine x_getI (T := TX0) (p0 := o) hc in_X0 rfl (by decide) (kdb k_o) 8 (by decide) tw_102 rfl rfl dX0_digestOn_23 ?_
    refine x_icmp_ge (tgt := 66) hc dX0_digestOn_26 rfl (fun c_26 => ?_) (fun c_26 => ?_)
    · replace hf := if_p hf c_26
      cases hf
      exact x_sub [0, 1] hk rfl
    · replace hf := if_n hf c_26
      refine x_iconst (v := 0) hc rfl dX0_digestOn_29 ?_
      refine x_istore (L' := [(0, .ref (kad K o)), (3, .long v1), (5, .int v2), (6, .int 0)]) hc [1, 2, 3, 0] dX0_digestOn_30 (by decide) rfl ?_
      obtain ⟨w9, hl_32, hf⟩ := bj1_ok hf
      have he_60_n6 : X K 60 [(0, .ref (kad K o)), (3, .long w9), (5, .int v2)] [] G := by
        clear hl_32
        refine x_iinc (v := v2 + 1) (L' := [(0, .ref (kad K o)), (3, .long w9), (5, .int (v2 + 1))]) hc 2 [1, 2, 0] dX0_digestOn_60 rfl rfl (by decide) rfl ?_
        refine x_goto (tgt := 20) hc dX0_digestOn_63 rfl ?_
        exact x_sub [0, 1, 2] (ih _ _ _ hf hk) rfl
      exact x_sub [0, 1, 2, 3] (c_X0_digestOn_l32_6 o v2 G hc k_o FU v1 0 w9 hl_32 he_60_n6) rfl
set_option maxHeartbeats 4000000 in
set_option maxRecDepth 100000 in
theorem c_X0_digestOn_l78_16 {K : CT} (o : Nat) (v12 : Int32) (G : G_) (hc : Ok K cX0_digestOn RX0 (Cond.code yX0_digestOn cX0_digestOn 7 (some .long) :: TB) (some .long) 3 64 7) (k_o : (kd o == 0) = true) : ∀ (n16 : Nat) (v14 : Int64) (v15 : Int32) (w19 : Int64), f_X0_digestOn_l78_16 o v12 G n16 v14 v15 = some (w19) → X K 106 [(0, .ref (kad K o)), (3, .long w19), (5, .int v12)] [] G → X K 78 [(0, .ref (kad K o)), (3, .long v14), (5, .int v12), (6, .int v15)] [] G := by
  intro n16
  induction n16 with
  | zero =>
    intro v14 v15 w19 hf hk
    cases hf
  | succ n16 ih =>
    intro v14 v15 w19 hf hk
    unfold f_X0_digestOn_l78_16 at hf
    refine x_iload hc 3 dX0_digestOn_78 rfl ?_
    refine x_iconst (v := 3) hc rfl dX0_digestOn_80 ?_
    refine x_icmp_gt (tgt := 106) hc dX0_digestOn_81 rfl (fun c_81 => ?_) (fun c_81 => ?_)
    · replace hf := if_p hf c_81
      cases hf
      exact x_sub [0, 1, 2] hk rfl
    · replace hf := if_n hf c_81
      refine x_ldc2 (v := 31) hc dX0_digestOn_84 tw_672 ?_
      refine x_lload_n hc 1 dX0_digestOn_87 rfl rfl ?_
      refine x_lmul hc dX0_digestOn_88 ?_
      refine x_aload_n hc 0 dX0_digestOn_89 rfl rfl ?_
      refine x_iload hc 2 dX0_digestOn_90 rfl ?_
      refine x_iload hc 3 dX0_digestOn_92 rfl ?_
      obtain ⟨x17, r18, hf⟩ := bj1_ok hf
      refine x_callVr (As := [.int v12, .int v15]) (p0 := o) (v := (.int x17)) (T := TX0) hc (c_X0_skinTells (kl K) (kV K) o v12 v15 G x17 r18) mw_X0_skinTells tw_674 (kdb k_o) (by decide) rfl rfl (Nat.le_of_ble_eq_true rfl) ⟨Nat.le_of_ble_eq_true rfl, Nat.le_of_ble_eq_true rfl⟩ dX0_digestOn_94 rfl ?_
      refine x_i2l hc dX0_digestOn_97 ?_
      refine x_ladd hc dX0_digestOn_98 ?_
      refine x_lstore_n (L' := [(0, .ref (kad K o)), (3, .long ((31 * v14) + x17.toInt64)), (5, .int v12), (6, .int v15)]) hc [1, 0, 2, 3] dX0_digestOn_99 rfl (by decide) rfl ?_
      refine x_iinc (v := v15 + 1) (L' := [(0, .ref (kad K o)), (3, .long ((31 * v14) + x17.toInt64)), (5, .int v12), (6, .int (v15 + 1))]) hc 3 [1, 2, 3, 0] dX0_digestOn_100 rfl rfl (by decide) rfl ?_
      refine x_goto (tgt := 78) hc dX0_digestOn_103 rfl ?_
      exact x_sub [0, 1, 2, 3] (ih _ _ _ hf hk) rfl
set_option maxHeartbeats 4000000 in
set_option maxRecDepth 100000 in
theorem c_X0_digestOn_l69_13 {K : CT} (o : Nat) (G : G_) (hc : Ok K cX0_digestOn RX0 (Cond.code yX0_digestOn cX0_digestOn 7 (some .long) :: TB) (some .long) 3 64 7) (k_o : (kd o == 0) = true) : ∀ (n13 : Nat) (v11 : Int64) (v12 : Int32) (w20 : Int64), f_X0_digestOn_l69_13 o G n13 v11 v12 = some (w20) → X K 112 [(3, .long w20)] [] G → X K 69 [(0, .ref (kad K o)), (3, .long v11), (5, .int v12)] [] G := by
  intro n13
  induction n13 with
  | zero =>
    intro v11 v12 w20 hf hk
    cases hf
  | succ n13 ih =>
    intro v11 v12 w20 hf hk
    unfold f_X0_digestOn_l69_13 at hf
    refine x_iload hc 2 dX0_digestOn_69 rfl ?_
    refine x_iconst (v := 2) hc rfl dX0_digestOn_71 ?_
    refine x_icmp_ge (tgt := 112) hc dX0_digestOn_72 rfl (fun c_72 => ?_) (fun c_72 => ?_)
    · replace hf := if_p hf c_72
      cases hf
      exact x_sub [1] hk rfl
    · replace hf := if_n hf c_72
      refine x_iconst (v := 0) hc rfl dX0_digestOn_75 ?_
      refine x_istore (L' := [(0, .ref (kad K o)), (3, .long v11), (5, .int v12), (6, .int 0)]) hc [1, 2, 3, 0] dX0_digestOn_76 (by decide) rfl ?_
      obtain ⟨w19, hl_78, hf⟩ := bj1_ok hf
      have he_106_n16 : X K 106 [(0, .ref (kad K o)), (3, .long w19), (5, .int v12)] [] G := by
        clear hl_78
        refine x_iinc (v := v12 + 1) (L' := [(0, .ref (kad K o)), (3, .long w19), (5, .int (v12 + 1))]) hc 2 [1, 2, 0] dX0_digestOn_106 rfl rfl (by decide) rfl ?_
        refine x_goto (tgt := 69) hc dX0_digestOn_109 rfl ?_
        exact x_sub [0, 1, 2] (ih _ _ _ hf hk) rfl
      exact x_sub [0, 1, 2, 3] (c_X0_digestOn_l78_16 o v12 G hc k_o FU v11 0 w19 hl_78 he_106_n16) rfl
set_option maxHeartbeats 4000000 in
set_option maxRecDepth 100000 in
theorem c_X0_digestOn (l : Launch) (V : VT) (o : Nat) (a1 : Int64) (G : G_) (r : Int64) (hf : f_X0_digestOn o a1 G = some r) : MC l V yX0_digestOn cX0_digestOn 7 (some .long) 3 64 [.ref (V.2.2.1 o), .long a1] G (some (.long r)) G := by
  refine mc_of (by decide) (Nat.le_of_ble_eq_true rfl) (fun K hV ho hc hkl => ?_)
  subst hV
  replace hc : Ok K cX0_digestOn RX0 (Cond.code yX0_digestOn cX0_digestOn 7 (some .long) :: TB) (some .long) 3 64 7 := hc
  replace ho : Rets K (some (.long r)) G := ho
  show X K 0 [(0, .ref (kad K o)), (1, .long a1)] [] G
  unfold f_X0_digestOn at hf
  obtain ⟨k_o, hf⟩ := chk_ok hf
  refine x_aload_n hc 0 dX0_digestOn_0 rfl rfl ?_
  refine x_getI (T := TX0) (p0 := o) hc in_X0 rfl (by decide) (kdb k_o) 7 (by decide) tw_100 rfl rfl dX0_digestOn_1 ?_
  refine x_if_ne (tgt := 15) hc dX0_digestOn_4 rfl (fun c_4 => ?_) (fun c_4 => ?_)
  · replace hf := if_n hf c_4
    refine x_lload_n hc 1 dX0_digestOn_15 rfl rfl ?_
    refine x_lstore_n (L' := [(0, .ref (kad K o)), (3, .long a1)]) hc [1, 0] dX0_digestOn_16 rfl (by decide) rfl ?_
    refine x_iconst (v := 0) hc rfl dX0_digestOn_17 ?_
    refine x_istore (L' := [(0, .ref (kad K o)), (3, .long a1), (5, .int 0)]) hc [1, 2, 0] dX0_digestOn_18 (by decide) rfl ?_
    obtain ⟨w10, hl_20, hf⟩ := bj1_ok hf
    have he_66_n3 : X K 66 [(0, .ref (kad K o)), (3, .long w10)] [] G := by
      clear hl_20
      refine x_iconst (v := 0) hc rfl dX0_digestOn_66 ?_
      refine x_istore (L' := [(0, .ref (kad K o)), (3, .long w10), (5, .int 0)]) hc [1, 2, 0] dX0_digestOn_67 (by decide) rfl ?_
      obtain ⟨w20, hl_69, hf⟩ := bj1_ok hf
      have he_112_n13 : X K 112 [(3, .long w20)] [] G := by
        clear hl_69
        refine x_lload_n hc 0 dX0_digestOn_112 rfl rfl ?_
        cases hf
        exact x_lret hc rfl ho dX0_digestOn_113
      exact x_sub [0, 1, 2] (c_X0_digestOn_l69_13 o G hc k_o FU w10 0 w20 hl_69 he_112_n13) rfl
    exact x_sub [0, 1, 2] (c_X0_digestOn_l20_3 o G hc k_o FU a1 0 w10 hl_20 he_66_n3) rfl
  · replace hf := if_p hf c_4
    refine x_ldc2 (v := 31) hc dX0_digestOn_7 tw_672 ?_
    refine x_lload_n hc 1 dX0_digestOn_10 rfl rfl ?_
    refine x_lmul hc dX0_digestOn_11 ?_
    refine x_lconst (v := 1) hc rfl dX0_digestOn_12 ?_
    refine x_lsub hc dX0_digestOn_13 ?_
    cases hf
    exact x_lret hc rfl ho dX0_digestOn_14
def f_X0_makeByPlan (o : Nat) (a1 : Nat) (a2 : Int32) (a3 : Int32) (a4 : Nat) (G : G_) : Option G_ :=
  chk (kd o == 0) <|
  chk (kd a1 == 5) <|
  chk (kd a4 == 2) <|
  bj1 (f_X0_begin o a1 a2 a3 G) fun G1 =>
  bj1 (f_X2_become (o + 7) a4 G1) fun G3 =>
  bj1 (f_X0_goOn o (G3.1 a4 5) G3) fun G5 =>
  bj1 (f_X0_turnAndDry o G5) fun G7 =>
  some G7
set_option maxHeartbeats 4000000 in
set_option maxRecDepth 100000 in
theorem c_X0_makeByPlan (l : Launch) (V : VT) (o : Nat) (a1 : Nat) (a2 : Int32) (a3 : Int32) (a4 : Nat) (G : G_) (G' : G_) (hf : f_X0_makeByPlan o a1 a2 a3 a4 G = some G') : MC l V yX0_makeByPlan cX0_makeByPlan 5 none 4 93 [.ref (V.2.2.1 o), .ref (V.2.2.1 a1), .int a2, .int a3, .ref (V.2.2.1 a4)] G none G' := by
  refine mc_of (by decide) (Nat.le_of_ble_eq_true rfl) (fun K hV ho hc hkl => ?_)
  subst hV
  replace hc : Ok K cX0_makeByPlan RX0 (Cond.code yX0_makeByPlan cX0_makeByPlan 5 none :: TB) none 4 93 5 := hc
  replace ho : Rets K none G' := ho
  show X K 0 [(0, .ref (kad K o)), (1, .ref (kad K a1)), (2, .int a2), (3, .int a3), (4, .ref (kad K a4))] [] G
  unfold f_X0_makeByPlan at hf
  obtain ⟨k_o, hf⟩ := chk_ok hf
  obtain ⟨k_a1, hf⟩ := chk_ok hf
  obtain ⟨k_a4, hf⟩ := chk_ok hf
  refine x_aload_n hc 0 dX0_makeByPlan_0 rfl rfl ?_
  refine x_aload_n hc 1 dX0_makeByPlan_1 rfl rfl ?_
  refine x_iload_n hc 2 dX0_makeByPlan_2 rfl rfl ?_
  refine x_iload_n hc 3 dX0_makeByPlan_3 rfl rfl ?_
  obtain ⟨G1, r2, hf⟩ := bj1_ok hf
  refine x_callVv (As := [.ref (kad K a1), .int a2, .int a3]) (p0 := o) (T := TX0) hc (c_X0_begin (kl K) (kV K) o a1 a2 a3 G G1 r2) mw_X0_begin tw_566 (kdb k_o) (by decide) rfl rfl (Nat.le_of_ble_eq_true rfl) ⟨Nat.le_of_ble_eq_true rfl, Nat.le_of_ble_eq_true rfl⟩ dX0_makeByPlan_4 rfl ?_
  refine x_aload_n hc 0 dX0_makeByPlan_7 rfl rfl ?_
  refine x_getR (T := TX0) (p0 := o) hc in_X0 rfl (by decide) (kdb k_o) 6 (by decide) tw_98 rfl rfl dX0_makeByPlan_8 ?_
  refine x_aload hc 4 dX0_makeByPlan_11 rfl ?_
  obtain ⟨G3, r4, hf⟩ := bj1_ok hf
  refine x_callVv (As := [.ref (kad K a4)]) (p0 := o + 7) (T := TX2) hc (c_X2_become (kl K) (kV K) (o + 7) a4 G1 G3 r4) mw_X2_become tw_536 (sh_X0_plan (kdb k_o)) (by decide) rfl rfl (Nat.le_of_ble_eq_true rfl) ⟨Nat.le_of_ble_eq_true rfl, Nat.le_of_ble_eq_true rfl⟩ dX0_makeByPlan_13 rfl ?_
  refine x_aload_n hc 0 dX0_makeByPlan_16 rfl rfl ?_
  refine x_aload hc 4 dX0_makeByPlan_17 rfl ?_
  refine x_getI (T := TX2) (p0 := a4) hc in_X2 rfl (by decide) (kdb k_a4) 5 (by decide) tw_75 rfl rfl dX0_makeByPlan_19 ?_
  obtain ⟨G5, r6, hf⟩ := bj1_ok hf
  refine x_callVv (As := [.int (G3.1 a4 5)]) (p0 := o) (T := TX0) hc (c_X0_goOn (kl K) (kV K) o (G3.1 a4 5) G3 G5 r6) mw_X0_goOn tw_567 (kdb k_o) (by decide) rfl rfl (Nat.le_of_ble_eq_true rfl) ⟨Nat.le_of_ble_eq_true rfl, Nat.le_of_ble_eq_true rfl⟩ dX0_makeByPlan_22 rfl ?_
  refine x_aload_n hc 0 dX0_makeByPlan_25 rfl rfl ?_
  obtain ⟨G7, r8, hf⟩ := bj1_ok hf
  refine x_callVv (As := []) (p0 := o) (T := TX0) hc (c_X0_turnAndDry (kl K) (kV K) o G5 G7 r8) mw_X0_turnAndDry tw_406 (kdb k_o) (by decide) rfl rfl (Nat.le_of_ble_eq_true rfl) ⟨Nat.le_of_ble_eq_true rfl, Nat.le_of_ble_eq_true rfl⟩ dX0_makeByPlan_26 rfl ?_
  cases hf
  exact x_vret hc rfl ho dX0_makeByPlan_29
def f_X0_makeByWay_l16_5 (o : Nat) (a2 : Int32) (a3 : Int32) (a4 : Int32) : Nat → Int32 → G_ → Option (G_)
  | 0, _, _ => none
  | n5 + 1, v3, G4 =>
    if a3 ≤ v3 then (
      some (G4))
    else (
      bj1 (f_X0_goByWay o a2 a4 G4) fun G6 =>
      f_X0_makeByWay_l16_5 o a2 a3 a4 n5 (v3 + 1) G6)
def f_X0_makeByWay (o : Nat) (a1 : Nat) (a2 : Int32) (a3 : Int32) (a4 : Int32) (G : G_) : Option G_ :=
  chk (kd o == 0) <|
  chk (kd a1 == 5) <|
  bj1 (f_X0_begin o a1 (G.1 a1 1) (G.1 a1 3) G) fun G1 =>
  bj1 (f_X0_makeByWay_l16_5 o a2 a3 a4 FU 0 G1) fun G8 =>
  some G8
set_option maxHeartbeats 4000000 in
set_option maxRecDepth 100000 in
theorem c_X0_makeByWay_l16_5 {K : CT} (o : Nat) (a2 : Int32) (a3 : Int32) (a4 : Int32) (hc : Ok K cX0_makeByWay RX0 (Cond.code yX0_makeByWay cX0_makeByWay 6 none :: TB) none 4 93 6) (k_o : (kd o == 0) = true) : ∀ (n5 : Nat) (v3 : Int32) (G4 : G_) (G8 : G_), f_X0_makeByWay_l16_5 o a2 a3 a4 n5 v3 G4 = some (G8) → X K 35 [] [] G8 → X K 16 [(0, .ref (kad K o)), (2, .int a2), (3, .int a3), (4, .int a4), (5, .int v3)] [] G4 := by
  intro n5
  induction n5 with
  | zero =>
    intro v3 G4 G8 hf hk
    cases hf
  | succ n5 ih =>
    intro v3 G4 G8 hf hk
    unfold f_X0_makeByWay_l16_5 at hf
    refine x_iload hc 4 dX0_makeByWay_16 rfl ?_
    refine x_iload_n hc 2 dX0_makeByWay_18 rfl rfl ?_
    refine x_icmp_ge (tgt := 35) hc dX0_makeByWay_19 rfl (fun c_19 => ?_) (fun c_19 => ?_)
    · replace hf := if_p hf c_19
      cases hf
      exact x_sub [] hk rfl
    · replace hf := if_n hf c_19
      refine x_aload_n hc 0 dX0_makeByWay_22 rfl rfl ?_
      refine x_iload_n hc 1 dX0_makeByWay_23 rfl rfl ?_
      refine x_iload hc 3 dX0_makeByWay_24 rfl ?_
      obtain ⟨G6, r7, hf⟩ := bj1_ok hf
      refine x_callVv (As := [.int a2, .int a4]) (p0 := o) (T := TX0) hc (c_X0_goByWay (kl K) (kV K) o a2 a4 G4 G6 r7) mw_X0_goByWay tw_773 (kdb k_o) (by decide) rfl rfl (Nat.le_of_ble_eq_true rfl) ⟨Nat.le_of_ble_eq_true rfl, Nat.le_of_ble_eq_true rfl⟩ dX0_makeByWay_26 rfl ?_
      refine x_iinc (v := v3 + 1) (L' := [(0, .ref (kad K o)), (2, .int a2), (3, .int a3), (4, .int a4), (5, .int (v3 + 1))]) hc 4 [1, 2, 3, 4, 0] dX0_makeByWay_29 rfl rfl (by decide) rfl ?_
      refine x_goto (tgt := 16) hc dX0_makeByWay_32 rfl ?_
      exact x_sub [0, 1, 2, 3, 4] (ih _ _ _ hf hk) rfl
set_option maxHeartbeats 4000000 in
set_option maxRecDepth 100000 in
theorem c_X0_makeByWay (l : Launch) (V : VT) (o : Nat) (a1 : Nat) (a2 : Int32) (a3 : Int32) (a4 : Int32) (G : G_) (G' : G_) (hf : f_X0_makeByWay o a1 a2 a3 a4 G = some G') : MC l V yX0_makeByWay cX0_makeByWay 6 none 4 93 [.ref (V.2.2.1 o), .ref (V.2.2.1 a1), .int a2, .int a3, .int a4] G none G' := by
  refine mc_of (by decide) (Nat.le_of_ble_eq_true rfl) (fun K hV ho hc hkl => ?_)
  subst hV
  replace hc : Ok K cX0_makeByWay RX0 (Cond.code yX0_makeByWay cX0_makeByWay 6 none :: TB) none 4 93 6 := hc
  replace ho : Rets K none G' := ho
  show X K 0 [(0, .ref (kad K o)), (1, .ref (kad K a1)), (2, .int a2), (3, .int a3), (4, .int a4)] [] G
  unfold f_X0_makeByWay at hf
  obtain ⟨k_o, hf⟩ := chk_ok hf
  obtain ⟨k_a1, hf⟩ := chk_ok hf
  refine x_aload_n hc 0 dX0_makeByWay_0 rfl rfl ?_
  refine x_aload_n hc 1 dX0_makeByWay_1 rfl rfl ?_
  refine x_aload_n hc 1 dX0_makeByWay_2 rfl rfl ?_
  refine x_getI (T := TX5) (p0 := a1) hc in_X5 rfl (by decide) (kdb k_a1) 1 (by decide) tw_171 rfl rfl dX0_makeByWay_3 ?_
  refine x_aload_n hc 1 dX0_makeByWay_6 rfl rfl ?_
  refine x_getI (T := TX5) (p0 := a1) hc in_X5 rfl (by decide) (kdb k_a1) 3 (by decide) tw_178 rfl rfl dX0_makeByWay_7 ?_
  obtain ⟨G1, r2, hf⟩ := bj1_ok hf
  refine x_callVv (As := [.ref (kad K a1), .int (G.1 a1 1), .int (G.1 a1 3)]) (p0 := o) (T := TX0) hc (c_X0_begin (kl K) (kV K) o a1 (G.1 a1 1) (G.1 a1 3) G G1 r2) mw_X0_begin tw_566 (kdb k_o) (by decide) rfl rfl (Nat.le_of_ble_eq_true rfl) ⟨Nat.le_of_ble_eq_true rfl, Nat.le_of_ble_eq_true rfl⟩ dX0_makeByWay_10 rfl ?_
  refine x_iconst (v := 0) hc rfl dX0_makeByWay_13 ?_
  refine x_istore (L' := [(0, .ref (kad K o)), (2, .int a2), (3, .int a3), (4, .int a4), (5, .int 0)]) hc [1, 3, 4, 5, 0] dX0_makeByWay_14 (by decide) rfl ?_
  obtain ⟨G8, hl_16, hf⟩ := bj1_ok hf
  have he_35_n5 : X K 35 [] [] G8 := by
    clear hl_16
    cases hf
    exact x_vret hc rfl ho dX0_makeByWay_35
  exact x_sub [0, 1, 2, 3, 4] (c_X0_makeByWay_l16_5 o a2 a3 a4 hc k_o FU 0 G1 G8 hl_16 he_35_n5) rfl
def f_X0_ticksTill_l13_5 (o : Nat) (a3 : Int32) (a4 : Int32) (a5 : Int32) : Nat → Int32 → G_ → Option (Int32 × G_)
  | 0, _, _ => none
  | n5 + 1, v3, G4 =>
    if 200 < v3 then (
      some ((-9), G4))
    else (
      bj1 (f_X0_goByWay o a3 a4 G4) fun G6 =>
      bj1 (f_X0_middleMost o G6) fun x8 =>
      if x8 < a5 then (
        f_X0_ticksTill_l13_5 o a3 a4 a5 n5 (v3 + 1) G6)
      else (
        some (v3, G6)))
def f_X0_ticksTill (o : Nat) (a1 : Nat) (a2 : Int32) (a3 : Int32) (a4 : Int32) (a5 : Int32) (G : G_) : Option (Int32 × G_) :=
  chk (kd o == 0) <|
  chk (kd a1 == 5) <|
  bj1 (f_X0_begin o a1 a2 (G.1 a1 3) G) fun G1 =>
  f_X0_ticksTill_l13_5 o a3 a4 a5 FU 1 G1
set_option maxHeartbeats 4000000 in
set_option maxRecDepth 100000 in
theorem c_X0_ticksTill_l13_5 {K : CT} (o : Nat) (a3 : Int32) (a4 : Int32) (a5 : Int32) (r : Int32) (G' : G_) (hc : Ok K cX0_ticksTill RX0 (Cond.code yX0_ticksTill cX0_ticksTill 7 (some .int) :: TB) (some .int) 4 93 7) (k_o : (kd o == 0) = true) : ∀ (n5 : Nat) (v3 : Int32) (G4 : G_), f_X0_ticksTill_l13_5 o a3 a4 a5 n5 v3 G4 = some (r, G') → Rets K (some (.int r)) G' → X K 13 [(0, .ref (kad K o)), (3, .int a3), (4, .int a4), (5, .int a5), (6, .int v3)] [] G4 := by
  intro n5
  induction n5 with
  | zero =>
    intro v3 G4 hf ho
    cases hf
  | succ n5 ih =>
    intro v3 G4 hf ho
    unfold f_X0_ticksTill_l13_5 at hf
    refine x_iload hc 4 dX0_ticksTill_13 rfl ?_
    refine x_sipush (v := 200) hc rfl dX0_ticksTill_15 ?_
    refine x_icmp_gt (tgt := 46) hc dX0_ticksTill_18 rfl (fun c_18 => ?_) (fun c_18 => ?_)
    · replace hf := if_p hf c_18
      refine x_bipush (v := (-9)) hc rfl dX0_ticksTill_46 ?_
      cases hf
      exact x_iret hc rfl ho dX0_ticksTill_48
    · replace hf := if_n hf c_18
      refine x_aload_n hc 0 dX0_ticksTill_21 rfl rfl ?_
      refine x_iload_n hc 1 dX0_ticksTill_22 rfl rfl ?_
      refine x_iload hc 2 dX0_ticksTill_23 rfl ?_
      obtain ⟨G6, r7, hf⟩ := bj1_ok hf
      refine x_callVv (As := [.int a3, .int a4]) (p0 := o) (T := TX0) hc (c_X0_goByWay (kl K) (kV K) o a3 a4 G4 G6 r7) mw_X0_goByWay tw_773 (kdb k_o) (by decide) rfl rfl (Nat.le_of_ble_eq_true rfl) ⟨Nat.le_of_ble_eq_true rfl, Nat.le_of_ble_eq_true rfl⟩ dX0_ticksTill_25 rfl ?_
      refine x_aload_n hc 0 dX0_ticksTill_28 rfl rfl ?_
      obtain ⟨x8, r9, hf⟩ := bj1_ok hf
      refine x_callVr (As := []) (p0 := o) (v := (.int x8)) (T := TX0) hc (c_X0_middleMost (kl K) (kV K) o G6 x8 r9) mw_X0_middleMost tw_828 (kdb k_o) (by decide) rfl rfl (Nat.le_of_ble_eq_true rfl) ⟨Nat.le_of_ble_eq_true rfl, Nat.le_of_ble_eq_true rfl⟩ dX0_ticksTill_29 rfl ?_
      refine x_iload hc 3 dX0_ticksTill_32 rfl ?_
      refine x_icmp_lt (tgt := 40) hc dX0_ticksTill_34 rfl (fun c_34 => ?_) (fun c_34 => ?_)
      · replace hf := if_p hf c_34
        refine x_iinc (v := v3 + 1) (L' := [(0, .ref (kad K o)), (3, .int a3), (4, .int a4), (5, .int a5), (6, .int (v3 + 1))]) hc 4 [1, 2, 3, 4, 0] dX0_ticksTill_40 rfl rfl (by decide) rfl ?_
        refine x_goto (tgt := 13) hc dX0_ticksTill_43 rfl ?_
        exact x_sub [0, 1, 2, 3, 4] (ih _ _ hf ho) rfl
      · replace hf := if_n hf c_34
        refine x_iload hc 4 dX0_ticksTill_37 rfl ?_
        cases hf
        exact x_iret hc rfl ho dX0_ticksTill_39
set_option maxHeartbeats 4000000 in
set_option maxRecDepth 100000 in
theorem c_X0_ticksTill (l : Launch) (V : VT) (o : Nat) (a1 : Nat) (a2 : Int32) (a3 : Int32) (a4 : Int32) (a5 : Int32) (G : G_) (r : Int32) (G' : G_) (hf : f_X0_ticksTill o a1 a2 a3 a4 a5 G = some (r, G')) : MC l V yX0_ticksTill cX0_ticksTill 7 (some .int) 4 93 [.ref (V.2.2.1 o), .ref (V.2.2.1 a1), .int a2, .int a3, .int a4, .int a5] G (some (.int r)) G' := by
  refine mc_of (by decide) (Nat.le_of_ble_eq_true rfl) (fun K hV ho hc hkl => ?_)
  subst hV
  replace hc : Ok K cX0_ticksTill RX0 (Cond.code yX0_ticksTill cX0_ticksTill 7 (some .int) :: TB) (some .int) 4 93 7 := hc
  replace ho : Rets K (some (.int r)) G' := ho
  show X K 0 [(0, .ref (kad K o)), (1, .ref (kad K a1)), (2, .int a2), (3, .int a3), (4, .int a4), (5, .int a5)] [] G
  unfold f_X0_ticksTill at hf
  obtain ⟨k_o, hf⟩ := chk_ok hf
  obtain ⟨k_a1, hf⟩ := chk_ok hf
  refine x_aload_n hc 0 dX0_ticksTill_0 rfl rfl ?_
  refine x_aload_n hc 1 dX0_ticksTill_1 rfl rfl ?_
  refine x_iload_n hc 2 dX0_ticksTill_2 rfl rfl ?_
  refine x_aload_n hc 1 dX0_ticksTill_3 rfl rfl ?_
  refine x_getI (T := TX5) (p0 := a1) hc in_X5 rfl (by decide) (kdb k_a1) 3 (by decide) tw_178 rfl rfl dX0_ticksTill_4 ?_
  obtain ⟨G1, r2, hf⟩ := bj1_ok hf
  refine x_callVv (As := [.ref (kad K a1), .int a2, .int (G.1 a1 3)]) (p0 := o) (T := TX0) hc (c_X0_begin (kl K) (kV K) o a1 a2 (G.1 a1 3) G G1 r2) mw_X0_begin tw_566 (kdb k_o) (by decide) rfl rfl (Nat.le_of_ble_eq_true rfl) ⟨Nat.le_of_ble_eq_true rfl, Nat.le_of_ble_eq_true rfl⟩ dX0_ticksTill_7 rfl ?_
  refine x_iconst (v := 1) hc rfl dX0_ticksTill_10 ?_
  refine x_istore (L' := [(0, .ref (kad K o)), (3, .int a3), (4, .int a4), (5, .int a5), (6, .int 1)]) hc [1, 4, 5, 6, 0] dX0_ticksTill_11 (by decide) rfl ?_
  exact x_sub [0, 1, 2, 3, 4] (c_X0_ticksTill_l13_5 o a3 a4 a5 r G' hc k_o FU 1 G1 hf ho) rfl

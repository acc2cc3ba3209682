theorem in_X2 : ∀ w ∈ u_ws RX2 TX2 6, w ∈ TB := in_gen [78, 80, 82, 84, 86, 88] (by decide +kernel)
theorem in_X4 : ∀ w ∈ u_ws RX4 TX4 2, w ∈ TB := in_gen [221, 223] (by decide +kernel)
theorem in_X5 : ∀ w ∈ u_ws RX5 TX5 5, w ∈ TB := in_gen [184, 186, 188, 190, 192] (by decide +kernel)
theorem in_X6 : ∀ w ∈ u_ws RX6 TX6 2, w ∈ TB := in_gen [234, 236] (by decide +kernel)
theorem sh_X2_kind {p : Nat} (h : kd p = 2) : kd (p + 1) = 10 ∧ ln (p + 1) = 12 := sh_gen (c := 2) (P := fun p => kd (p + 1) = 10 ∧ ln (p + 1) = 12) (by decide) (by decide +kernel) h
theorem sh_X2_heat {p : Nat} (h : kd p = 2) : kd (p + 2) = 10 ∧ ln (p + 2) = 12 := sh_gen (c := 2) (P := fun p => kd (p + 2) = 10 ∧ ln (p + 2) = 12) (by decide) (by decide +kernel) h
theorem sh_X2_length {p : Nat} (h : kd p = 2) : kd (p + 3) = 10 ∧ ln (p + 3) = 12 := sh_gen (c := 2) (P := fun p => kd (p + 3) = 10 ∧ ln (p + 3) = 12) (by decide) (by decide +kernel) h
theorem sh_X4_place {p : Nat} (h : kd p = 4) : kd (p + 1) = 10 ∧ ln (p + 1) = 40 := sh_gen (c := 4) (P := fun p => kd (p + 1) = 10 ∧ ln (p + 1) = 40) (by decide) (by decide +kernel) h
theorem sh_X6_sign {p : Nat} (h : kd p = 6) : kd (p + 1) = 9 ∧ ln (p + 1) = 80 := sh_gen (c := 6) (P := fun p => kd (p + 1) = 9 ∧ ln (p + 1) = 80) (by decide) (by decide +kernel) h
theorem tw_30 : Cond.initialized RX2 ∈ TB := TB_mem 30 (by decide +kernel) (by decide +kernel)
theorem tw_32 : Cond.initialized RX5 ∈ TB := TB_mem 32 (by decide +kernel) (by decide +kernel)
theorem tw_34 : Cond.initialized RX4 ∈ TB := TB_mem 34 (by decide +kernel) (by decide +kernel)
theorem tw_35 : Cond.initialized RX6 ∈ TB := TB_mem 35 (by decide +kernel) (by decide +kernel)
theorem tw_36 : Cond.initialized "java/lang/Math" ∈ TB := TB_mem 36 (by decide +kernel) (by decide +kernel)
theorem tw_37 : Cond.initialized RJ6 ∈ TB := TB_mem 37 (by decide +kernel) (by decide +kernel)
theorem tw_66 : Cond.fieldLink RX2 9 RX2 "kind" "[I" ∈ TB := TB_mem 66 (by decide +kernel) (by decide +kernel)
theorem tw_67 : Cond.fieldLink RX2 15 RX2 "heat" "[I" ∈ TB := TB_mem 67 (by decide +kernel) (by decide +kernel)
theorem tw_68 : Cond.fieldLink RX2 18 RX2 "length" "[I" ∈ TB := TB_mem 68 (by decide +kernel) (by decide +kernel)
theorem tw_69 : Cond.fieldLink RX2 21 RX2 "there" "Z" ∈ TB := TB_mem 69 (by decide +kernel) (by decide +kernel)
theorem tw_71 : Cond.fieldLink RX2 25 RX2 "count" "I" ∈ TB := TB_mem 71 (by decide +kernel) (by decide +kernel)
theorem tw_74 : Cond.fieldLink RX2 29 RX2 "ticks" "I" ∈ TB := TB_mem 74 (by decide +kernel) (by decide +kernel)
theorem tw_168 : Cond.fieldLink RX5 7 RX5 "there" "Z" ∈ TB := TB_mem 168 (by decide +kernel) (by decide +kernel)
theorem tw_170 : Cond.fieldLink RX5 13 RX5 "thick" "I" ∈ TB := TB_mem 170 (by decide +kernel) (by decide +kernel)
theorem tw_174 : Cond.fieldLink RX5 17 RX5 "cold" "I" ∈ TB := TB_mem 174 (by decide +kernel) (by decide +kernel)
theorem tw_177 : Cond.fieldLink RX5 20 RX5 "salt" "I" ∈ TB := TB_mem 177 (by decide +kernel) (by decide +kernel)
theorem tw_182 : Cond.fieldLink RX5 23 RX5 "fat" "I" ∈ TB := TB_mem 182 (by decide +kernel) (by decide +kernel)
theorem tw_218 : Cond.fieldLink RX4 9 RX4 "place" "[I" ∈ TB := TB_mem 218 (by decide +kernel) (by decide +kernel)
theorem tw_219 : Cond.fieldLink RX4 15 RX4 "size" "I" ∈ TB := TB_mem 219 (by decide +kernel) (by decide +kernel)
theorem tw_231 : Cond.fieldLink RX6 9 RX6 "sign" "[B" ∈ TB := TB_mem 231 (by decide +kernel) (by decide +kernel)
theorem tw_232 : Cond.fieldLink RX6 15 RX6 "size" "I" ∈ TB := TB_mem 232 (by decide +kernel) (by decide +kernel)
theorem tw_311 : Cond.instanceMethod yX6_there ∈ TB := TB_mem 311 (by decide +kernel) (by decide +kernel)
theorem tw_312 : Cond.selects RX6 yX6_there yX6_there ∈ TB := TB_mem 312 (by decide +kernel) (by decide +kernel)
theorem tw_313 : Cond.code yX6_there cX6_there 1 (some .boolean) ∈ TB := TB_mem 313 (by decide +kernel) (by decide +kernel)
theorem tw_323 : Cond.instanceMethod yX2_begin ∈ TB := TB_mem 323 (by decide +kernel) (by decide +kernel)
theorem tw_324 : Cond.selects RX2 yX2_begin yX2_begin ∈ TB := TB_mem 324 (by decide +kernel) (by decide +kernel)
theorem tw_325 : Cond.code yX2_begin cX2_begin 1 none ∈ TB := TB_mem 325 (by decide +kernel) (by decide +kernel)
theorem tw_331 : Cond.instanceMethod yX6_value ∈ TB := TB_mem 331 (by decide +kernel) (by decide +kernel)
theorem tw_332 : Cond.selects RX6 yX6_value yX6_value ∈ TB := TB_mem 332 (by decide +kernel) (by decide +kernel)
theorem tw_333 : Cond.code yX6_value cX6_value 2 (some .int) ∈ TB := TB_mem 333 (by decide +kernel) (by decide +kernel)
theorem tw_334 : Cond.methodLink RX6 28 yX6_has ∈ TB := TB_mem 334 (by decide +kernel) (by decide +kernel)
theorem tw_335 : Cond.instanceMethod yX6_has ∈ TB := TB_mem 335 (by decide +kernel) (by decide +kernel)
theorem tw_336 : Cond.selects RX6 yX6_has yX6_has ∈ TB := TB_mem 336 (by decide +kernel) (by decide +kernel)
theorem tw_337 : Cond.code yX6_has cX6_has 2 (some .boolean) ∈ TB := TB_mem 337 (by decide +kernel) (by decide +kernel)
theorem tw_353 : Cond.instanceMethod yX2_add ∈ TB := TB_mem 353 (by decide +kernel) (by decide +kernel)
theorem tw_354 : Cond.selects RX2 yX2_add yX2_add ∈ TB := TB_mem 354 (by decide +kernel) (by decide +kernel)
theorem tw_355 : Cond.code yX2_add cX2_add 4 none ∈ TB := TB_mem 355 (by decide +kernel) (by decide +kernel)
theorem tw_357 : Cond.instanceMethod yX2_become ∈ TB := TB_mem 357 (by decide +kernel) (by decide +kernel)
theorem tw_358 : Cond.selects RX2 yX2_become yX2_become ∈ TB := TB_mem 358 (by decide +kernel) (by decide +kernel)
theorem tw_359 : Cond.code yX2_become cX2_become 3 none ∈ TB := TB_mem 359 (by decide +kernel) (by decide +kernel)
theorem tw_360 : Cond.methodLink RX2 32 yX2_begin ∈ TB := TB_mem 360 (by decide +kernel) (by decide +kernel)
theorem tw_361 : Cond.methodLink RX2 35 yX2_kindAt ∈ TB := TB_mem 361 (by decide +kernel) (by decide +kernel)
theorem tw_362 : Cond.instanceMethod yX2_kindAt ∈ TB := TB_mem 362 (by decide +kernel) (by decide +kernel)
theorem tw_363 : Cond.selects RX2 yX2_kindAt yX2_kindAt ∈ TB := TB_mem 363 (by decide +kernel) (by decide +kernel)
theorem tw_364 : Cond.code yX2_kindAt cX2_kindAt 2 (some .int) ∈ TB := TB_mem 364 (by decide +kernel) (by decide +kernel)
theorem tw_365 : Cond.methodLink RX2 49 yX2_has ∈ TB := TB_mem 365 (by decide +kernel) (by decide +kernel)
theorem tw_366 : Cond.instanceMethod yX2_has ∈ TB := TB_mem 366 (by decide +kernel) (by decide +kernel)
theorem tw_367 : Cond.selects RX2 yX2_has yX2_has ∈ TB := TB_mem 367 (by decide +kernel) (by decide +kernel)
theorem tw_368 : Cond.code yX2_has cX2_has 2 (some .boolean) ∈ TB := TB_mem 368 (by decide +kernel) (by decide +kernel)
theorem tw_369 : Cond.methodLink RX2 39 yX2_heatAt ∈ TB := TB_mem 369 (by decide +kernel) (by decide +kernel)
theorem tw_370 : Cond.instanceMethod yX2_heatAt ∈ TB := TB_mem 370 (by decide +kernel) (by decide +kernel)
theorem tw_371 : Cond.selects RX2 yX2_heatAt yX2_heatAt ∈ TB := TB_mem 371 (by decide +kernel) (by decide +kernel)
theorem tw_372 : Cond.code yX2_heatAt cX2_heatAt 2 (some .int) ∈ TB := TB_mem 372 (by decide +kernel) (by decide +kernel)
theorem tw_373 : Cond.methodLink RX2 42 yX2_lengthAt ∈ TB := TB_mem 373 (by decide +kernel) (by decide +kernel)
theorem tw_374 : Cond.instanceMethod yX2_lengthAt ∈ TB := TB_mem 374 (by decide +kernel) (by decide +kernel)
theorem tw_375 : Cond.selects RX2 yX2_lengthAt yX2_lengthAt ∈ TB := TB_mem 375 (by decide +kernel) (by decide +kernel)
theorem tw_376 : Cond.code yX2_lengthAt cX2_lengthAt 2 (some .int) ∈ TB := TB_mem 376 (by decide +kernel) (by decide +kernel)
theorem tw_377 : Cond.methodLink RX2 45 yX2_add ∈ TB := TB_mem 377 (by decide +kernel) (by decide +kernel)
theorem tw_391 : Cond.static Lib.Math.min.name ∈ TB := TB_mem 391 (by decide +kernel) (by decide +kernel)
theorem tw_392 : Cond.code Lib.Math.min.name Lib.Math.min.code 2 (some .int) ∈ TB := TB_mem 392 (by decide +kernel) (by decide +kernel)
theorem tw_394 : Cond.static Lib.Math.max.name ∈ TB := TB_mem 394 (by decide +kernel) (by decide +kernel)
theorem tw_395 : Cond.code Lib.Math.max.name Lib.Math.max.code 2 (some .int) ∈ TB := TB_mem 395 (by decide +kernel) (by decide +kernel)
theorem tw_506 : Cond.instanceMethod yX4_begin ∈ TB := TB_mem 506 (by decide +kernel) (by decide +kernel)
theorem tw_507 : Cond.selects RX4 yX4_begin yX4_begin ∈ TB := TB_mem 507 (by decide +kernel) (by decide +kernel)
theorem tw_508 : Cond.code yX4_begin cX4_begin 3 none ∈ TB := TB_mem 508 (by decide +kernel) (by decide +kernel)
theorem tw_509 : Cond.methodLink RX4 19 Lib.Math.min.name ∈ TB := TB_mem 509 (by decide +kernel) (by decide +kernel)
theorem tw_510 : Cond.methodLink RX4 25 Lib.Math.max.name ∈ TB := TB_mem 510 (by decide +kernel) (by decide +kernel)
theorem tw_516 : Cond.instanceMethod yX4_set ∈ TB := TB_mem 516 (by decide +kernel) (by decide +kernel)
theorem tw_517 : Cond.selects RX4 yX4_set yX4_set ∈ TB := TB_mem 517 (by decide +kernel) (by decide +kernel)
theorem tw_518 : Cond.code yX4_set cX4_set 3 none ∈ TB := TB_mem 518 (by decide +kernel) (by decide +kernel)
theorem tw_519 : Cond.methodLink RX4 28 yX4_has ∈ TB := TB_mem 519 (by decide +kernel) (by decide +kernel)
theorem tw_520 : Cond.instanceMethod yX4_has ∈ TB := TB_mem 520 (by decide +kernel) (by decide +kernel)
theorem tw_521 : Cond.selects RX4 yX4_has yX4_has ∈ TB := TB_mem 521 (by decide +kernel) (by decide +kernel)
theorem tw_522 : Cond.code yX4_has cX4_has 2 (some .boolean) ∈ TB := TB_mem 522 (by decide +kernel) (by decide +kernel)
theorem tw_576 : Cond.instanceMethod yX4_there ∈ TB := TB_mem 576 (by decide +kernel) (by decide +kernel)
theorem tw_577 : Cond.selects RX4 yX4_there yX4_there ∈ TB := TB_mem 577 (by decide +kernel) (by decide +kernel)
theorem tw_578 : Cond.code yX4_there cX4_there 1 (some .boolean) ∈ TB := TB_mem 578 (by decide +kernel) (by decide +kernel)
theorem tw_580 : Cond.instanceMethod yX4_value ∈ TB := TB_mem 580 (by decide +kernel) (by decide +kernel)
theorem tw_581 : Cond.selects RX4 yX4_value yX4_value ∈ TB := TB_mem 581 (by decide +kernel) (by decide +kernel)
theorem tw_582 : Cond.code yX4_value cX4_value 2 (some .int) ∈ TB := TB_mem 582 (by decide +kernel) (by decide +kernel)
theorem tw_651 : Cond.instanceMethod yX5_digestOn ∈ TB := TB_mem 651 (by decide +kernel) (by decide +kernel)
theorem tw_652 : Cond.selects RX5 yX5_digestOn yX5_digestOn ∈ TB := TB_mem 652 (by decide +kernel) (by decide +kernel)
theorem tw_653 : Cond.code yX5_digestOn cX5_digestOn 6 (some .long) ∈ TB := TB_mem 653 (by decide +kernel) (by decide +kernel)
theorem tw_654 : Cond.constantLong RX5 26 31 ∈ TB := TB_mem 654 (by decide +kernel) (by decide +kernel)
theorem tw_655 : Cond.methodLink RX5 28 yX5_tells ∈ TB := TB_mem 655 (by decide +kernel) (by decide +kernel)
theorem tw_656 : Cond.instanceMethod yX5_tells ∈ TB := TB_mem 656 (by decide +kernel) (by decide +kernel)
theorem tw_657 : Cond.selects RX5 yX5_tells yX5_tells ∈ TB := TB_mem 657 (by decide +kernel) (by decide +kernel)
theorem tw_658 : Cond.code yX5_tells cX5_tells 2 (some .int) ∈ TB := TB_mem 658 (by decide +kernel) (by decide +kernel)
theorem tw_660 : Cond.instanceMethod yX2_digestOn ∈ TB := TB_mem 660 (by decide +kernel) (by decide +kernel)
theorem tw_661 : Cond.selects RX2 yX2_digestOn yX2_digestOn ∈ TB := TB_mem 661 (by decide +kernel) (by decide +kernel)
theorem tw_662 : Cond.code yX2_digestOn cX2_digestOn 6 (some .long) ∈ TB := TB_mem 662 (by decide +kernel) (by decide +kernel)
theorem tw_663 : Cond.constantLong RX2 53 31 ∈ TB := TB_mem 663 (by decide +kernel) (by decide +kernel)
theorem tw_664 : Cond.methodLink RX2 55 yX2_numbersAt ∈ TB := TB_mem 664 (by decide +kernel) (by decide +kernel)
theorem tw_665 : Cond.instanceMethod yX2_numbersAt ∈ TB := TB_mem 665 (by decide +kernel) (by decide +kernel)
theorem tw_666 : Cond.selects RX2 yX2_numbersAt yX2_numbersAt ∈ TB := TB_mem 666 (by decide +kernel) (by decide +kernel)
theorem tw_667 : Cond.code yX2_numbersAt cX2_numbersAt 2 (some .int) ∈ TB := TB_mem 667 (by decide +kernel) (by decide +kernel)
theorem tw_676 : Cond.instanceMethod yX4_digestOn ∈ TB := TB_mem 676 (by decide +kernel) (by decide +kernel)
theorem tw_677 : Cond.selects RX4 yX4_digestOn yX4_digestOn ∈ TB := TB_mem 677 (by decide +kernel) (by decide +kernel)
theorem tw_678 : Cond.code yX4_digestOn cX4_digestOn 6 (some .long) ∈ TB := TB_mem 678 (by decide +kernel) (by decide +kernel)
theorem tw_679 : Cond.constantLong RX4 36 31 ∈ TB := TB_mem 679 (by decide +kernel) (by decide +kernel)
theorem tw_680 : Cond.methodLink RX4 32 yX4_value ∈ TB := TB_mem 680 (by decide +kernel) (by decide +kernel)
theorem tw_682 : Cond.instanceMethod yX6_digestOn ∈ TB := TB_mem 682 (by decide +kernel) (by decide +kernel)
theorem tw_683 : Cond.selects RX6 yX6_digestOn yX6_digestOn ∈ TB := TB_mem 683 (by decide +kernel) (by decide +kernel)
theorem tw_684 : Cond.code yX6_digestOn cX6_digestOn 6 (some .long) ∈ TB := TB_mem 684 (by decide +kernel) (by decide +kernel)
theorem tw_685 : Cond.constantLong RX6 32 31 ∈ TB := TB_mem 685 (by decide +kernel) (by decide +kernel)
theorem tw_686 : Cond.methodLink RX6 34 yX6_value ∈ TB := TB_mem 686 (by decide +kernel) (by decide +kernel)
theorem tw_702 : Cond.instanceMethod yX6_begin ∈ TB := TB_mem 702 (by decide +kernel) (by decide +kernel)
theorem tw_703 : Cond.selects RX6 yX6_begin yX6_begin ∈ TB := TB_mem 703 (by decide +kernel) (by decide +kernel)
theorem tw_704 : Cond.code yX6_begin cX6_begin 3 none ∈ TB := TB_mem 704 (by decide +kernel) (by decide +kernel)
theorem tw_705 : Cond.methodLink RX6 19 Lib.Math.min.name ∈ TB := TB_mem 705 (by decide +kernel) (by decide +kernel)
theorem tw_706 : Cond.methodLink RX6 25 Lib.Math.max.name ∈ TB := TB_mem 706 (by decide +kernel) (by decide +kernel)
theorem tw_717 : Cond.instanceMethod yX6_set ∈ TB := TB_mem 717 (by decide +kernel) (by decide +kernel)
theorem tw_718 : Cond.selects RX6 yX6_set yX6_set ∈ TB := TB_mem 718 (by decide +kernel) (by decide +kernel)
theorem tw_719 : Cond.code yX6_set cX6_set 3 none ∈ TB := TB_mem 719 (by decide +kernel) (by decide +kernel)
theorem tw_732 : Cond.instanceMethod yX5_begin ∈ TB := TB_mem 732 (by decide +kernel) (by decide +kernel)
theorem tw_733 : Cond.selects RX5 yX5_begin yX5_begin ∈ TB := TB_mem 733 (by decide +kernel) (by decide +kernel)
theorem tw_734 : Cond.code yX5_begin cX5_begin 1 none ∈ TB := TB_mem 734 (by decide +kernel) (by decide +kernel)
theorem tw_744 : Cond.instanceMethod yX5_become ∈ TB := TB_mem 744 (by decide +kernel) (by decide +kernel)
theorem tw_745 : Cond.selects RX5 yX5_become yX5_become ∈ TB := TB_mem 745 (by decide +kernel) (by decide +kernel)
theorem tw_746 : Cond.code yX5_become cX5_become 2 none ∈ TB := TB_mem 746 (by decide +kernel) (by decide +kernel)
theorem tw_876 : Cond.static yJ6_bitCount_0f7a4 ∈ TB := TB_mem 876 (by decide +kernel) (by decide +kernel)
theorem tw_877 : Cond.code yJ6_bitCount_0f7a4 cJ6_bitCount_0f7a4 1 (some .int) ∈ TB := TB_mem 877 (by decide +kernel) (by decide +kernel)
theorem tw_878 : Cond.constant RJ6 265 1431655765 ∈ TB := TB_mem 878 (by decide +kernel) (by decide +kernel)
theorem tw_879 : Cond.constant RJ6 266 858993459 ∈ TB := TB_mem 879 (by decide +kernel) (by decide +kernel)
theorem tw_880 : Cond.constant RJ6 267 252645135 ∈ TB := TB_mem 880 (by decide +kernel) (by decide +kernel)
theorem mw_X2_begin : MWV yX2_begin cX2_begin 1 none 0 := ⟨⟨by decide, by decide, by decide +kernel⟩, tw_325, tw_30, tw_323, tw_324⟩
theorem mw_X2_add : MWV yX2_add cX2_add 4 none 3 := ⟨⟨by decide, by decide, by decide +kernel⟩, tw_355, tw_30, tw_353, tw_354⟩
theorem mw_X2_has : MWV yX2_has cX2_has 2 (some .boolean) 1 := ⟨⟨by decide, by decide, by decide +kernel⟩, tw_368, tw_30, tw_366, tw_367⟩
theorem mw_X4_there : MWV yX4_there cX4_there 1 (some .boolean) 0 := ⟨⟨by decide, by decide, by decide +kernel⟩, tw_578, tw_34, tw_576, tw_577⟩
theorem mw_X4_has : MWV yX4_has cX4_has 2 (some .boolean) 1 := ⟨⟨by decide, by decide, by decide +kernel⟩, tw_522, tw_34, tw_520, tw_521⟩
theorem mw_X5_begin : MWV yX5_begin cX5_begin 1 none 0 := ⟨⟨by decide, by decide, by decide +kernel⟩, tw_734, tw_32, tw_732, tw_733⟩
theorem mw_X5_become : MWV yX5_become cX5_become 2 none 1 := ⟨⟨by decide, by decide, by decide +kernel⟩, tw_746, tw_32, tw_744, tw_745⟩
theorem mw_X5_tells : MWV yX5_tells cX5_tells 2 (some .int) 1 := ⟨⟨by decide, by decide, by decide +kernel⟩, tw_658, tw_32, tw_656, tw_657⟩
theorem mw_X6_there : MWV yX6_there cX6_there 1 (some .boolean) 0 := ⟨⟨by decide, by decide, by decide +kernel⟩, tw_313, tw_35, tw_311, tw_312⟩
theorem mw_X6_has : MWV yX6_has cX6_has 2 (some .boolean) 1 := ⟨⟨by decide, by decide, by decide +kernel⟩, tw_337, tw_35, tw_335, tw_336⟩
theorem mw_J6_bitCount_0f7a4 : MWS yJ6_bitCount_0f7a4 cJ6_bitCount_0f7a4 1 (some .int) 1 := ⟨⟨by decide, by decide, by decide +kernel⟩, tw_877, tw_37, tw_876⟩
theorem mw_X2_kindAt : MWV yX2_kindAt cX2_kindAt 2 (some .int) 1 := ⟨⟨by decide, by decide, by decide +kernel⟩, tw_364, tw_30, tw_362, tw_363⟩
theorem mw_X2_heatAt : MWV yX2_heatAt cX2_heatAt 2 (some .int) 1 := ⟨⟨by decide, by decide, by decide +kernel⟩, tw_372, tw_30, tw_370, tw_371⟩
theorem mw_X2_lengthAt : MWV yX2_lengthAt cX2_lengthAt 2 (some .int) 1 := ⟨⟨by decide, by decide, by decide +kernel⟩, tw_376, tw_30, tw_374, tw_375⟩
theorem mw_X4_begin : MWV yX4_begin cX4_begin 3 none 1 := ⟨⟨by decide, by decide, by decide +kernel⟩, tw_508, tw_34, tw_506, tw_507⟩
theorem mw_X4_value : MWV yX4_value cX4_value 2 (some .int) 1 := ⟨⟨by decide, by decide, by decide +kernel⟩, tw_582, tw_34, tw_580, tw_581⟩
theorem mw_X4_set : MWV yX4_set cX4_set 3 none 2 := ⟨⟨by decide, by decide, by decide +kernel⟩, tw_518, tw_34, tw_516, tw_517⟩
theorem mw_X5_digestOn : MWV yX5_digestOn cX5_digestOn 6 (some .long) 1 := ⟨⟨by decide, by decide, by decide +kernel⟩, tw_653, tw_32, tw_651, tw_652⟩
theorem mw_X6_begin : MWV yX6_begin cX6_begin 3 none 1 := ⟨⟨by decide, by decide, by decide +kernel⟩, tw_704, tw_35, tw_702, tw_703⟩
theorem mw_X6_value : MWV yX6_value cX6_value 2 (some .int) 1 := ⟨⟨by decide, by decide, by decide +kernel⟩, tw_333, tw_35, tw_331, tw_332⟩
theorem mw_X6_set : MWV yX6_set cX6_set 3 none 2 := ⟨⟨by decide, by decide, by decide +kernel⟩, tw_719, tw_35, tw_717, tw_718⟩
theorem mw_X2_become : MWV yX2_become cX2_become 3 none 1 := ⟨⟨by decide, by decide, by decide +kernel⟩, tw_359, tw_30, tw_357, tw_358⟩
theorem mw_X2_numbersAt : MWV yX2_numbersAt cX2_numbersAt 2 (some .int) 1 := ⟨⟨by decide, by decide, by decide +kernel⟩, tw_667, tw_30, tw_665, tw_666⟩
theorem mw_X4_digestOn : MWV yX4_digestOn cX4_digestOn 6 (some .long) 1 := ⟨⟨by decide, by decide, by decide +kernel⟩, tw_678, tw_34, tw_676, tw_677⟩
theorem mw_X6_digestOn : MWV yX6_digestOn cX6_digestOn 6 (some .long) 1 := ⟨⟨by decide, by decide, by decide +kernel⟩, tw_684, tw_35, tw_682, tw_683⟩
theorem mw_X2_digestOn : MWV yX2_digestOn cX2_digestOn 6 (some .long) 1 := ⟨⟨by decide, by decide, by decide +kernel⟩, tw_662, tw_30, tw_660, tw_661⟩
theorem dX2_begin_0 : decode cX2_begin 0 = .ok (.aload_n 0, 1) := by decide +kernel
theorem dX2_begin_1 : decode cX2_begin 1 = .ok (.iconst 1, 1) := by decide +kernel
theorem dX2_begin_2 : decode cX2_begin 2 = .ok (.putfield 21, 3) := by decide +kernel
theorem dX2_begin_5 : decode cX2_begin 5 = .ok (.aload_n 0, 1) := by decide +kernel
theorem dX2_begin_6 : decode cX2_begin 6 = .ok (.iconst 0, 1) := by decide +kernel
theorem dX2_begin_7 : decode cX2_begin 7 = .ok (.putfield 25, 3) := by decide +kernel
theorem dX2_begin_10 : decode cX2_begin 10 = .ok (.aload_n 0, 1) := by decide +kernel
theorem dX2_begin_11 : decode cX2_begin 11 = .ok (.iconst 0, 1) := by decide +kernel
theorem dX2_begin_12 : decode cX2_begin 12 = .ok (.putfield 29, 3) := by decide +kernel
theorem dX2_begin_15 : decode cX2_begin 15 = .ok (.return_, 1) := by decide +kernel
theorem dX2_add_0 : decode cX2_add 0 = .ok (.aload_n 0, 1) := by decide +kernel
theorem dX2_add_1 : decode cX2_add 1 = .ok (.getfield 25, 3) := by decide +kernel
theorem dX2_add_4 : decode cX2_add 4 = .ok (.ifCond .lt 62, 3) := by decide +kernel
theorem dX2_add_7 : decode cX2_add 7 = .ok (.aload_n 0, 1) := by decide +kernel
theorem dX2_add_8 : decode cX2_add 8 = .ok (.getfield 25, 3) := by decide +kernel
theorem dX2_add_11 : decode cX2_add 11 = .ok (.bipush 12, 2) := by decide +kernel
theorem dX2_add_13 : decode cX2_add 13 = .ok (.if_icmp .ge 53, 3) := by decide +kernel
theorem dX2_add_16 : decode cX2_add 16 = .ok (.aload_n 0, 1) := by decide +kernel
theorem dX2_add_17 : decode cX2_add 17 = .ok (.getfield 9, 3) := by decide +kernel
theorem dX2_add_20 : decode cX2_add 20 = .ok (.aload_n 0, 1) := by decide +kernel
theorem dX2_add_21 : decode cX2_add 21 = .ok (.getfield 25, 3) := by decide +kernel
theorem dX2_add_24 : decode cX2_add 24 = .ok (.iload_n 1, 1) := by decide +kernel
theorem dX2_add_25 : decode cX2_add 25 = .ok (.iastore, 1) := by decide +kernel
theorem dX2_add_26 : decode cX2_add 26 = .ok (.aload_n 0, 1) := by decide +kernel
theorem dX2_add_27 : decode cX2_add 27 = .ok (.getfield 15, 3) := by decide +kernel
theorem dX2_add_30 : decode cX2_add 30 = .ok (.aload_n 0, 1) := by decide +kernel
theorem dX2_add_31 : decode cX2_add 31 = .ok (.getfield 25, 3) := by decide +kernel
theorem dX2_add_34 : decode cX2_add 34 = .ok (.iload_n 2, 1) := by decide +kernel
theorem dX2_add_35 : decode cX2_add 35 = .ok (.iastore, 1) := by decide +kernel
theorem dX2_add_36 : decode cX2_add 36 = .ok (.aload_n 0, 1) := by decide +kernel
theorem dX2_add_37 : decode cX2_add 37 = .ok (.getfield 18, 3) := by decide +kernel
theorem dX2_add_40 : decode cX2_add 40 = .ok (.aload_n 0, 1) := by decide +kernel
theorem dX2_add_41 : decode cX2_add 41 = .ok (.getfield 25, 3) := by decide +kernel
theorem dX2_add_44 : decode cX2_add 44 = .ok (.iload_n 3, 1) := by decide +kernel
theorem dX2_add_45 : decode cX2_add 45 = .ok (.iastore, 1) := by decide +kernel
theorem dX2_add_46 : decode cX2_add 46 = .ok (.aload_n 0, 1) := by decide +kernel
theorem dX2_add_47 : decode cX2_add 47 = .ok (.dup, 1) := by decide +kernel
theorem dX2_add_48 : decode cX2_add 48 = .ok (.getfield 25, 3) := by decide +kernel
theorem dX2_add_51 : decode cX2_add 51 = .ok (.iconst 1, 1) := by decide +kernel
theorem dX2_add_52 : decode cX2_add 52 = .ok (.iadd, 1) := by decide +kernel
theorem dX2_add_53 : decode cX2_add 53 = .ok (.putfield 25, 3) := by decide +kernel
theorem dX2_add_56 : decode cX2_add 56 = .ok (.aload_n 0, 1) := by decide +kernel
theorem dX2_add_57 : decode cX2_add 57 = .ok (.dup, 1) := by decide +kernel
theorem dX2_add_58 : decode cX2_add 58 = .ok (.getfield 29, 3) := by decide +kernel
theorem dX2_add_61 : decode cX2_add 61 = .ok (.iload_n 3, 1) := by decide +kernel
theorem dX2_add_62 : decode cX2_add 62 = .ok (.iadd, 1) := by decide +kernel
theorem dX2_add_63 : decode cX2_add 63 = .ok (.putfield 29, 3) := by decide +kernel
theorem dX2_add_66 : decode cX2_add 66 = .ok (.return_, 1) := by decide +kernel
theorem dX2_has_0 : decode cX2_has 0 = .ok (.iload_n 1, 1) := by decide +kernel
theorem dX2_has_1 : decode cX2_has 1 = .ok (.ifCond .lt 21, 3) := by decide +kernel
theorem dX2_has_4 : decode cX2_has 4 = .ok (.iload_n 1, 1) := by decide +kernel
theorem dX2_has_5 : decode cX2_has 5 = .ok (.aload_n 0, 1) := by decide +kernel
theorem dX2_has_6 : decode cX2_has 6 = .ok (.getfield 25, 3) := by decide +kernel
theorem dX2_has_9 : decode cX2_has 9 = .ok (.if_icmp .ge 13, 3) := by decide +kernel
theorem dX2_has_12 : decode cX2_has 12 = .ok (.iload_n 1, 1) := by decide +kernel
theorem dX2_has_13 : decode cX2_has 13 = .ok (.bipush 12, 2) := by decide +kernel
theorem dX2_has_15 : decode cX2_has 15 = .ok (.if_icmp .ge 7, 3) := by decide +kernel
theorem dX2_has_18 : decode cX2_has 18 = .ok (.iconst 1, 1) := by decide +kernel
theorem dX2_has_19 : decode cX2_has 19 = .ok (.goto 4, 3) := by decide +kernel
theorem dX2_has_22 : decode cX2_has 22 = .ok (.iconst 0, 1) := by decide +kernel
theorem dX2_has_23 : decode cX2_has 23 = .ok (.ireturn, 1) := by decide +kernel
theorem dX4_there_0 : decode cX4_there 0 = .ok (.aload_n 0, 1) := by decide +kernel
theorem dX4_there_1 : decode cX4_there 1 = .ok (.getfield 15, 3) := by decide +kernel
theorem dX4_there_4 : decode cX4_there 4 = .ok (.ifCond .lt 7, 3) := by decide +kernel
theorem dX4_there_7 : decode cX4_there 7 = .ok (.iconst 1, 1) := by decide +kernel
theorem dX4_there_8 : decode cX4_there 8 = .ok (.goto 4, 3) := by decide +kernel
theorem dX4_there_11 : decode cX4_there 11 = .ok (.iconst 0, 1) := by decide +kernel
theorem dX4_there_12 : decode cX4_there 12 = .ok (.ireturn, 1) := by decide +kernel
theorem dX4_has_0 : decode cX4_has 0 = .ok (.iload_n 1, 1) := by decide +kernel
theorem dX4_has_1 : decode cX4_has 1 = .ok (.ifCond .lt 24, 3) := by decide +kernel
theorem dX4_has_4 : decode cX4_has 4 = .ok (.iload_n 1, 1) := by decide +kernel
theorem dX4_has_5 : decode cX4_has 5 = .ok (.aload_n 0, 1) := by decide +kernel
theorem dX4_has_6 : decode cX4_has 6 = .ok (.getfield 15, 3) := by decide +kernel
theorem dX4_has_9 : decode cX4_has 9 = .ok (.if_icmp .ge 16, 3) := by decide +kernel
theorem dX4_has_12 : decode cX4_has 12 = .ok (.iload_n 1, 1) := by decide +kernel
theorem dX4_has_13 : decode cX4_has 13 = .ok (.aload_n 0, 1) := by decide +kernel
theorem dX4_has_14 : decode cX4_has 14 = .ok (.getfield 9, 3) := by decide +kernel
theorem dX4_has_17 : decode cX4_has 17 = .ok (.arraylength, 1) := by decide +kernel
theorem dX4_has_18 : decode cX4_has 18 = .ok (.if_icmp .ge 7, 3) := by decide +kernel
theorem dX4_has_21 : decode cX4_has 21 = .ok (.iconst 1, 1) := by decide +kernel
theorem dX4_has_22 : decode cX4_has 22 = .ok (.goto 4, 3) := by decide +kernel
theorem dX4_has_25 : decode cX4_has 25 = .ok (.iconst 0, 1) := by decide +kernel
theorem dX4_has_26 : decode cX4_has 26 = .ok (.ireturn, 1) := by decide +kernel
theorem dX5_begin_0 : decode cX5_begin 0 = .ok (.aload_n 0, 1) := by decide +kernel
theorem dX5_begin_1 : decode cX5_begin 1 = .ok (.iconst 1, 1) := by decide +kernel
theorem dX5_begin_2 : decode cX5_begin 2 = .ok (.putfield 7, 3) := by decide +kernel
theorem dX5_begin_5 : decode cX5_begin 5 = .ok (.aload_n 0, 1) := by decide +kernel
theorem dX5_begin_6 : decode cX5_begin 6 = .ok (.bipush 10, 2) := by decide +kernel
theorem dX5_begin_8 : decode cX5_begin 8 = .ok (.putfield 13, 3) := by decide +kernel
theorem dX5_begin_11 : decode cX5_begin 11 = .ok (.aload_n 0, 1) := by decide +kernel
theorem dX5_begin_12 : decode cX5_begin 12 = .ok (.iconst 5, 1) := by decide +kernel
theorem dX5_begin_13 : decode cX5_begin 13 = .ok (.putfield 17, 3) := by decide +kernel
theorem dX5_begin_16 : decode cX5_begin 16 = .ok (.aload_n 0, 1) := by decide +kernel
theorem dX5_begin_17 : decode cX5_begin 17 = .ok (.iconst 0, 1) := by decide +kernel
theorem dX5_begin_18 : decode cX5_begin 18 = .ok (.putfield 20, 3) := by decide +kernel
theorem dX5_begin_21 : decode cX5_begin 21 = .ok (.aload_n 0, 1) := by decide +kernel
theorem dX5_begin_22 : decode cX5_begin 22 = .ok (.iconst 2, 1) := by decide +kernel
theorem dX5_begin_23 : decode cX5_begin 23 = .ok (.putfield 23, 3) := by decide +kernel
theorem dX5_begin_26 : decode cX5_begin 26 = .ok (.return_, 1) := by decide +kernel
theorem dX5_become_0 : decode cX5_become 0 = .ok (.aload_n 0, 1) := by decide +kernel
theorem dX5_become_1 : decode cX5_become 1 = .ok (.aload_n 1, 1) := by decide +kernel
theorem dX5_become_2 : decode cX5_become 2 = .ok (.getfield 7, 3) := by decide +kernel
theorem dX5_become_5 : decode cX5_become 5 = .ok (.putfield 7, 3) := by decide +kernel
theorem dX5_become_8 : decode cX5_become 8 = .ok (.aload_n 0, 1) := by decide +kernel
theorem dX5_become_9 : decode cX5_become 9 = .ok (.aload_n 1, 1) := by decide +kernel
theorem dX5_become_10 : decode cX5_become 10 = .ok (.getfield 13, 3) := by decide +kernel
theorem dX5_become_13 : decode cX5_become 13 = .ok (.putfield 13, 3) := by decide +kernel
theorem dX5_become_16 : decode cX5_become 16 = .ok (.aload_n 0, 1) := by decide +kernel
theorem dX5_become_17 : decode cX5_become 17 = .ok (.aload_n 1, 1) := by decide +kernel
theorem dX5_become_18 : decode cX5_become 18 = .ok (.getfield 17, 3) := by decide +kernel
theorem dX5_become_21 : decode cX5_become 21 = .ok (.putfield 17, 3) := by decide +kernel
theorem dX5_become_24 : decode cX5_become 24 = .ok (.aload_n 0, 1) := by decide +kernel
theorem dX5_become_25 : decode cX5_become 25 = .ok (.aload_n 1, 1) := by decide +kernel
theorem dX5_become_26 : decode cX5_become 26 = .ok (.getfield 20, 3) := by decide +kernel
theorem dX5_become_29 : decode cX5_become 29 = .ok (.putfield 20, 3) := by decide +kernel
theorem dX5_become_32 : decode cX5_become 32 = .ok (.aload_n 0, 1) := by decide +kernel
theorem dX5_become_33 : decode cX5_become 33 = .ok (.aload_n 1, 1) := by decide +kernel
theorem dX5_become_34 : decode cX5_become 34 = .ok (.getfield 23, 3) := by decide +kernel
theorem dX5_become_37 : decode cX5_become 37 = .ok (.putfield 23, 3) := by decide +kernel
theorem dX5_become_40 : decode cX5_become 40 = .ok (.return_, 1) := by decide +kernel
theorem dX5_tells_0 : decode cX5_tells 0 = .ok (.iload_n 1, 1) := by decide +kernel
theorem dX5_tells_1 : decode cX5_tells 1 = .ok (.tableswitch 42 0 2 #[27, 32, 37], 27) := by decide +kernel
theorem dX5_tells_28 : decode cX5_tells 28 = .ok (.aload_n 0, 1) := by decide +kernel
theorem dX5_tells_29 : decode cX5_tells 29 = .ok (.getfield 13, 3) := by decide +kernel
theorem dX5_tells_32 : decode cX5_tells 32 = .ok (.ireturn, 1) := by decide +kernel
theorem dX5_tells_33 : decode cX5_tells 33 = .ok (.aload_n 0, 1) := by decide +kernel
theorem dX5_tells_34 : decode cX5_tells 34 = .ok (.getfield 17, 3) := by decide +kernel
theorem dX5_tells_37 : decode cX5_tells 37 = .ok (.ireturn, 1) := by decide +kernel
theorem dX5_tells_38 : decode cX5_tells 38 = .ok (.aload_n 0, 1) := by decide +kernel
theorem dX5_tells_39 : decode cX5_tells 39 = .ok (.getfield 20, 3) := by decide +kernel
theorem dX5_tells_42 : decode cX5_tells 42 = .ok (.ireturn, 1) := by decide +kernel
theorem dX5_tells_43 : decode cX5_tells 43 = .ok (.aload_n 0, 1) := by decide +kernel
theorem dX5_tells_44 : decode cX5_tells 44 = .ok (.getfield 23, 3) := by decide +kernel
theorem dX5_tells_47 : decode cX5_tells 47 = .ok (.ireturn, 1) := by decide +kernel
theorem dX6_there_0 : decode cX6_there 0 = .ok (.aload_n 0, 1) := by decide +kernel
theorem dX6_there_1 : decode cX6_there 1 = .ok (.getfield 15, 3) := by decide +kernel
theorem dX6_there_4 : decode cX6_there 4 = .ok (.ifCond .lt 7, 3) := by decide +kernel
theorem dX6_there_7 : decode cX6_there 7 = .ok (.iconst 1, 1) := by decide +kernel
theorem dX6_there_8 : decode cX6_there 8 = .ok (.goto 4, 3) := by decide +kernel
theorem dX6_there_11 : decode cX6_there 11 = .ok (.iconst 0, 1) := by decide +kernel
theorem dX6_there_12 : decode cX6_there 12 = .ok (.ireturn, 1) := by decide +kernel
theorem dX6_has_0 : decode cX6_has 0 = .ok (.iload_n 1, 1) := by decide +kernel
theorem dX6_has_1 : decode cX6_has 1 = .ok (.ifCond .lt 24, 3) := by decide +kernel
theorem dX6_has_4 : decode cX6_has 4 = .ok (.iload_n 1, 1) := by decide +kernel
theorem dX6_has_5 : decode cX6_has 5 = .ok (.aload_n 0, 1) := by decide +kernel
theorem dX6_has_6 : decode cX6_has 6 = .ok (.getfield 15, 3) := by decide +kernel
theorem dX6_has_9 : decode cX6_has 9 = .ok (.if_icmp .ge 16, 3) := by decide +kernel
theorem dX6_has_12 : decode cX6_has 12 = .ok (.iload_n 1, 1) := by decide +kernel
theorem dX6_has_13 : decode cX6_has 13 = .ok (.aload_n 0, 1) := by decide +kernel
theorem dX6_has_14 : decode cX6_has 14 = .ok (.getfield 9, 3) := by decide +kernel
theorem dX6_has_17 : decode cX6_has 17 = .ok (.arraylength, 1) := by decide +kernel
theorem dX6_has_18 : decode cX6_has 18 = .ok (.if_icmp .ge 7, 3) := by decide +kernel
theorem dX6_has_21 : decode cX6_has 21 = .ok (.iconst 1, 1) := by decide +kernel
theorem dX6_has_22 : decode cX6_has 22 = .ok (.goto 4, 3) := by decide +kernel
theorem dX6_has_25 : decode cX6_has 25 = .ok (.iconst 0, 1) := by decide +kernel
theorem dX6_has_26 : decode cX6_has 26 = .ok (.ireturn, 1) := by decide +kernel
theorem dJ6_bitCount_0f7a4_0 : decode cJ6_bitCount_0f7a4 0 = .ok (.iload_n 0, 1) := by decide +kernel
theorem dJ6_bitCount_0f7a4_1 : decode cJ6_bitCount_0f7a4 1 = .ok (.iload_n 0, 1) := by decide +kernel
theorem dJ6_bitCount_0f7a4_2 : decode cJ6_bitCount_0f7a4 2 = .ok (.iconst 1, 1) := by decide +kernel
theorem dJ6_bitCount_0f7a4_3 : decode cJ6_bitCount_0f7a4 3 = .ok (.iushr, 1) := by decide +kernel
theorem dJ6_bitCount_0f7a4_4 : decode cJ6_bitCount_0f7a4 4 = .ok (.ldc_w 265, 3) := by decide +kernel
theorem dJ6_bitCount_0f7a4_7 : decode cJ6_bitCount_0f7a4 7 = .ok (.iand, 1) := by decide +kernel
theorem dJ6_bitCount_0f7a4_8 : decode cJ6_bitCount_0f7a4 8 = .ok (.isub, 1) := by decide +kernel
theorem dJ6_bitCount_0f7a4_9 : decode cJ6_bitCount_0f7a4 9 = .ok (.istore_n 0, 1) := by decide +kernel
theorem dJ6_bitCount_0f7a4_10 : decode cJ6_bitCount_0f7a4 10 = .ok (.iload_n 0, 1) := by decide +kernel
theorem dJ6_bitCount_0f7a4_11 : decode cJ6_bitCount_0f7a4 11 = .ok (.ldc_w 266, 3) := by decide +kernel
theorem dJ6_bitCount_0f7a4_14 : decode cJ6_bitCount_0f7a4 14 = .ok (.iand, 1) := by decide +kernel
theorem dJ6_bitCount_0f7a4_15 : decode cJ6_bitCount_0f7a4 15 = .ok (.iload_n 0, 1) := by decide +kernel
theorem dJ6_bitCount_0f7a4_16 : decode cJ6_bitCount_0f7a4 16 = .ok (.iconst 2, 1) := by decide +kernel
theorem dJ6_bitCount_0f7a4_17 : decode cJ6_bitCount_0f7a4 17 = .ok (.iushr, 1) := by decide +kernel
theorem dJ6_bitCount_0f7a4_18 : decode cJ6_bitCount_0f7a4 18 = .ok (.ldc_w 266, 3) := by decide +kernel
theorem dJ6_bitCount_0f7a4_21 : decode cJ6_bitCount_0f7a4 21 = .ok (.iand, 1) := by decide +kernel
theorem dJ6_bitCount_0f7a4_22 : decode cJ6_bitCount_0f7a4 22 = .ok (.iadd, 1) := by decide +kernel
theorem dJ6_bitCount_0f7a4_23 : decode cJ6_bitCount_0f7a4 23 = .ok (.istore_n 0, 1) := by decide +kernel
theorem dJ6_bitCount_0f7a4_24 : decode cJ6_bitCount_0f7a4 24 = .ok (.iload_n 0, 1) := by decide +kernel
theorem dJ6_bitCount_0f7a4_25 : decode cJ6_bitCount_0f7a4 25 = .ok (.iload_n 0, 1) := by decide +kernel
theorem dJ6_bitCount_0f7a4_26 : decode cJ6_bitCount_0f7a4 26 = .ok (.iconst 4, 1) := by decide +kernel
theorem dJ6_bitCount_0f7a4_27 : decode cJ6_bitCount_0f7a4 27 = .ok (.iushr, 1) := by decide +kernel
theorem dJ6_bitCount_0f7a4_28 : decode cJ6_bitCount_0f7a4 28 = .ok (.iadd, 1) := by decide +kernel
theorem dJ6_bitCount_0f7a4_29 : decode cJ6_bitCount_0f7a4 29 = .ok (.ldc_w 267, 3) := by decide +kernel
theorem dJ6_bitCount_0f7a4_32 : decode cJ6_bitCount_0f7a4 32 = .ok (.iand, 1) := by decide +kernel
theorem dJ6_bitCount_0f7a4_33 : decode cJ6_bitCount_0f7a4 33 = .ok (.istore_n 0, 1) := by decide +kernel
theorem dJ6_bitCount_0f7a4_34 : decode cJ6_bitCount_0f7a4 34 = .ok (.iload_n 0, 1) := by decide +kernel
theorem dJ6_bitCount_0f7a4_35 : decode cJ6_bitCount_0f7a4 35 = .ok (.iload_n 0, 1) := by decide +kernel
theorem dJ6_bitCount_0f7a4_36 : decode cJ6_bitCount_0f7a4 36 = .ok (.bipush 8, 2) := by decide +kernel
theorem dJ6_bitCount_0f7a4_38 : decode cJ6_bitCount_0f7a4 38 = .ok (.iushr, 1) := by decide +kernel
theorem dJ6_bitCount_0f7a4_39 : decode cJ6_bitCount_0f7a4 39 = .ok (.iadd, 1) := by decide +kernel
theorem dJ6_bitCount_0f7a4_40 : decode cJ6_bitCount_0f7a4 40 = .ok (.istore_n 0, 1) := by decide +kernel
theorem dJ6_bitCount_0f7a4_41 : decode cJ6_bitCount_0f7a4 41 = .ok (.iload_n 0, 1) := by decide +kernel
theorem dJ6_bitCount_0f7a4_42 : decode cJ6_bitCount_0f7a4 42 = .ok (.iload_n 0, 1) := by decide +kernel
theorem dJ6_bitCount_0f7a4_43 : decode cJ6_bitCount_0f7a4 43 = .ok (.bipush 16, 2) := by decide +kernel
theorem dJ6_bitCount_0f7a4_45 : decode cJ6_bitCount_0f7a4 45 = .ok (.iushr, 1) := by decide +kernel
theorem dJ6_bitCount_0f7a4_46 : decode cJ6_bitCount_0f7a4 46 = .ok (.iadd, 1) := by decide +kernel
theorem dJ6_bitCount_0f7a4_47 : decode cJ6_bitCount_0f7a4 47 = .ok (.istore_n 0, 1) := by decide +kernel
theorem dJ6_bitCount_0f7a4_48 : decode cJ6_bitCount_0f7a4 48 = .ok (.iload_n 0, 1) := by decide +kernel
theorem dJ6_bitCount_0f7a4_49 : decode cJ6_bitCount_0f7a4 49 = .ok (.bipush 63, 2) := by decide +kernel
theorem dJ6_bitCount_0f7a4_51 : decode cJ6_bitCount_0f7a4 51 = .ok (.iand, 1) := by decide +kernel
theorem dJ6_bitCount_0f7a4_52 : decode cJ6_bitCount_0f7a4 52 = .ok (.ireturn, 1) := by decide +kernel
theorem dX2_kindAt_0 : decode cX2_kindAt 0 = .ok (.aload_n 0, 1) := by decide +kernel
theorem dX2_kindAt_1 : decode cX2_kindAt 1 = .ok (.iload_n 1, 1) := by decide +kernel
theorem dX2_kindAt_2 : decode cX2_kindAt 2 = .ok (.invokevirtual 49, 3) := by decide +kernel
theorem dX2_kindAt_5 : decode cX2_kindAt 5 = .ok (.ifCond .eq 12, 3) := by decide +kernel
theorem dX2_kindAt_8 : decode cX2_kindAt 8 = .ok (.aload_n 0, 1) := by decide +kernel
theorem dX2_kindAt_9 : decode cX2_kindAt 9 = .ok (.getfield 9, 3) := by decide +kernel
theorem dX2_kindAt_12 : decode cX2_kindAt 12 = .ok (.iload_n 1, 1) := by decide +kernel
theorem dX2_kindAt_13 : decode cX2_kindAt 13 = .ok (.iaload, 1) := by decide +kernel
theorem dX2_kindAt_14 : decode cX2_kindAt 14 = .ok (.goto 4, 3) := by decide +kernel
theorem dX2_kindAt_17 : decode cX2_kindAt 17 = .ok (.iconst 4, 1) := by decide +kernel
theorem dX2_kindAt_18 : decode cX2_kindAt 18 = .ok (.ireturn, 1) := by decide +kernel
theorem dX2_heatAt_0 : decode cX2_heatAt 0 = .ok (.aload_n 0, 1) := by decide +kernel
theorem dX2_heatAt_1 : decode cX2_heatAt 1 = .ok (.iload_n 1, 1) := by decide +kernel
theorem dX2_heatAt_2 : decode cX2_heatAt 2 = .ok (.invokevirtual 49, 3) := by decide +kernel
theorem dX2_heatAt_5 : decode cX2_heatAt 5 = .ok (.ifCond .eq 12, 3) := by decide +kernel
theorem dX2_heatAt_8 : decode cX2_heatAt 8 = .ok (.aload_n 0, 1) := by decide +kernel
theorem dX2_heatAt_9 : decode cX2_heatAt 9 = .ok (.getfield 15, 3) := by decide +kernel
theorem dX2_heatAt_12 : decode cX2_heatAt 12 = .ok (.iload_n 1, 1) := by decide +kernel
theorem dX2_heatAt_13 : decode cX2_heatAt 13 = .ok (.iaload, 1) := by decide +kernel
theorem dX2_heatAt_14 : decode cX2_heatAt 14 = .ok (.goto 4, 3) := by decide +kernel
theorem dX2_heatAt_17 : decode cX2_heatAt 17 = .ok (.iconst 0, 1) := by decide +kernel
theorem dX2_heatAt_18 : decode cX2_heatAt 18 = .ok (.ireturn, 1) := by decide +kernel
theorem dX2_lengthAt_0 : decode cX2_lengthAt 0 = .ok (.aload_n 0, 1) := by decide +kernel
theorem dX2_lengthAt_1 : decode cX2_lengthAt 1 = .ok (.iload_n 1, 1) := by decide +kernel
theorem dX2_lengthAt_2 : decode cX2_lengthAt 2 = .ok (.invokevirtual 49, 3) := by decide +kernel
theorem dX2_lengthAt_5 : decode cX2_lengthAt 5 = .ok (.ifCond .eq 12, 3) := by decide +kernel
theorem dX2_lengthAt_8 : decode cX2_lengthAt 8 = .ok (.aload_n 0, 1) := by decide +kernel
theorem dX2_lengthAt_9 : decode cX2_lengthAt 9 = .ok (.getfield 18, 3) := by decide +kernel
theorem dX2_lengthAt_12 : decode cX2_lengthAt 12 = .ok (.iload_n 1, 1) := by decide +kernel
theorem dX2_lengthAt_13 : decode cX2_lengthAt 13 = .ok (.iaload, 1) := by decide +kernel
theorem dX2_lengthAt_14 : decode cX2_lengthAt 14 = .ok (.goto 4, 3) := by decide +kernel
theorem dX2_lengthAt_17 : decode cX2_lengthAt 17 = .ok (.iconst 0, 1) := by decide +kernel
theorem dX2_lengthAt_18 : decode cX2_lengthAt 18 = .ok (.ireturn, 1) := by decide +kernel
theorem dX4_begin_0 : decode cX4_begin 0 = .ok (.aload_n 0, 1) := by decide +kernel
theorem dX4_begin_1 : decode cX4_begin 1 = .ok (.iconst 0, 1) := by decide +kernel
theorem dX4_begin_2 : decode cX4_begin 2 = .ok (.iload_n 1, 1) := by decide +kernel
theorem dX4_begin_3 : decode cX4_begin 3 = .ok (.aload_n 0, 1) := by decide +kernel
theorem dX4_begin_4 : decode cX4_begin 4 = .ok (.getfield 9, 3) := by decide +kernel
theorem dX4_begin_7 : decode cX4_begin 7 = .ok (.arraylength, 1) := by decide +kernel
theorem dX4_begin_8 : decode cX4_begin 8 = .ok (.invokestatic 19, 3) := by decide +kernel
theorem dX4_begin_11 : decode cX4_begin 11 = .ok (.invokestatic 25, 3) := by decide +kernel
theorem dX4_begin_14 : decode cX4_begin 14 = .ok (.putfield 15, 3) := by decide +kernel
theorem dX4_begin_17 : decode cX4_begin 17 = .ok (.iconst 0, 1) := by decide +kernel
theorem dX4_begin_18 : decode cX4_begin 18 = .ok (.istore_n 2, 1) := by decide +kernel
theorem dX4_begin_19 : decode cX4_begin 19 = .ok (.iload_n 2, 1) := by decide +kernel
theorem dX4_begin_20 : decode cX4_begin 20 = .ok (.aload_n 0, 1) := by decide +kernel
theorem dX4_begin_21 : decode cX4_begin 21 = .ok (.getfield 9, 3) := by decide +kernel
theorem dX4_begin_24 : decode cX4_begin 24 = .ok (.arraylength, 1) := by decide +kernel
theorem dX4_begin_25 : decode cX4_begin 25 = .ok (.if_icmp .ge 16, 3) := by decide +kernel
theorem dX4_begin_28 : decode cX4_begin 28 = .ok (.aload_n 0, 1) := by decide +kernel
theorem dX4_begin_29 : decode cX4_begin 29 = .ok (.getfield 9, 3) := by decide +kernel
theorem dX4_begin_32 : decode cX4_begin 32 = .ok (.iload_n 2, 1) := by decide +kernel
theorem dX4_begin_33 : decode cX4_begin 33 = .ok (.iconst 0, 1) := by decide +kernel
theorem dX4_begin_34 : decode cX4_begin 34 = .ok (.iastore, 1) := by decide +kernel
theorem dX4_begin_35 : decode cX4_begin 35 = .ok (.iinc 2 1, 3) := by decide +kernel
theorem dX4_begin_38 : decode cX4_begin 38 = .ok (.goto (-19), 3) := by decide +kernel
theorem dX4_begin_41 : decode cX4_begin 41 = .ok (.return_, 1) := by decide +kernel
theorem dX4_value_0 : decode cX4_value 0 = .ok (.aload_n 0, 1) := by decide +kernel
theorem dX4_value_1 : decode cX4_value 1 = .ok (.iload_n 1, 1) := by decide +kernel
theorem dX4_value_2 : decode cX4_value 2 = .ok (.invokevirtual 28, 3) := by decide +kernel
theorem dX4_value_5 : decode cX4_value 5 = .ok (.ifCond .eq 12, 3) := by decide +kernel
theorem dX4_value_8 : decode cX4_value 8 = .ok (.aload_n 0, 1) := by decide +kernel
theorem dX4_value_9 : decode cX4_value 9 = .ok (.getfield 9, 3) := by decide +kernel
theorem dX4_value_12 : decode cX4_value 12 = .ok (.iload_n 1, 1) := by decide +kernel
theorem dX4_value_13 : decode cX4_value 13 = .ok (.iaload, 1) := by decide +kernel
theorem dX4_value_14 : decode cX4_value 14 = .ok (.goto 4, 3) := by decide +kernel
theorem dX4_value_17 : decode cX4_value 17 = .ok (.iconst 0, 1) := by decide +kernel
theorem dX4_value_18 : decode cX4_value 18 = .ok (.ireturn, 1) := by decide +kernel
theorem dX4_set_0 : decode cX4_set 0 = .ok (.aload_n 0, 1) := by decide +kernel
theorem dX4_set_1 : decode cX4_set 1 = .ok (.iload_n 1, 1) := by decide +kernel
theorem dX4_set_2 : decode cX4_set 2 = .ok (.invokevirtual 28, 3) := by decide +kernel
theorem dX4_set_5 : decode cX4_set 5 = .ok (.ifCond .eq 10, 3) := by decide +kernel
theorem dX4_set_8 : decode cX4_set 8 = .ok (.aload_n 0, 1) := by decide +kernel
theorem dX4_set_9 : decode cX4_set 9 = .ok (.getfield 9, 3) := by decide +kernel
theorem dX4_set_12 : decode cX4_set 12 = .ok (.iload_n 1, 1) := by decide +kernel
theorem dX4_set_13 : decode cX4_set 13 = .ok (.iload_n 2, 1) := by decide +kernel
theorem dX4_set_14 : decode cX4_set 14 = .ok (.iastore, 1) := by decide +kernel
theorem dX4_set_15 : decode cX4_set 15 = .ok (.return_, 1) := by decide +kernel
theorem dX5_digestOn_0 : decode cX5_digestOn 0 = .ok (.aload_n 0, 1) := by decide +kernel
theorem dX5_digestOn_1 : decode cX5_digestOn 1 = .ok (.getfield 7, 3) := by decide +kernel
theorem dX5_digestOn_4 : decode cX5_digestOn 4 = .ok (.ifCond .ne 11, 3) := by decide +kernel
theorem dX5_digestOn_7 : decode cX5_digestOn 7 = .ok (.ldc2_w 26, 3) := by decide +kernel
theorem dX5_digestOn_10 : decode cX5_digestOn 10 = .ok (.lload_n 1, 1) := by decide +kernel
theorem dX5_digestOn_11 : decode cX5_digestOn 11 = .ok (.lmul, 1) := by decide +kernel
theorem dX5_digestOn_12 : decode cX5_digestOn 12 = .ok (.lconst 1, 1) := by decide +kernel
theorem dX5_digestOn_13 : decode cX5_digestOn 13 = .ok (.lsub, 1) := by decide +kernel
theorem dX5_digestOn_14 : decode cX5_digestOn 14 = .ok (.lreturn, 1) := by decide +kernel
theorem dX5_digestOn_15 : decode cX5_digestOn 15 = .ok (.lload_n 1, 1) := by decide +kernel
theorem dX5_digestOn_16 : decode cX5_digestOn 16 = .ok (.lstore_n 3, 1) := by decide +kernel
theorem dX5_digestOn_17 : decode cX5_digestOn 17 = .ok (.iconst 0, 1) := by decide +kernel
theorem dX5_digestOn_18 : decode cX5_digestOn 18 = .ok (.istore 5, 2) := by decide +kernel
theorem dX5_digestOn_20 : decode cX5_digestOn 20 = .ok (.iload 5, 2) := by decide +kernel
theorem dX5_digestOn_22 : decode cX5_digestOn 22 = .ok (.iconst 3, 1) := by decide +kernel
theorem dX5_digestOn_23 : decode cX5_digestOn 23 = .ok (.if_icmp .gt 23, 3) := by decide +kernel
theorem dX5_digestOn_26 : decode cX5_digestOn 26 = .ok (.ldc2_w 26, 3) := by decide +kernel
theorem dX5_digestOn_29 : decode cX5_digestOn 29 = .ok (.lload_n 3, 1) := by decide +kernel
theorem dX5_digestOn_30 : decode cX5_digestOn 30 = .ok (.lmul, 1) := by decide +kernel
theorem dX5_digestOn_31 : decode cX5_digestOn 31 = .ok (.aload_n 0, 1) := by decide +kernel
theorem dX5_digestOn_32 : decode cX5_digestOn 32 = .ok (.iload 5, 2) := by decide +kernel
theorem dX5_digestOn_34 : decode cX5_digestOn 34 = .ok (.invokevirtual 28, 3) := by decide +kernel
theorem dX5_digestOn_37 : decode cX5_digestOn 37 = .ok (.i2l, 1) := by decide +kernel
theorem dX5_digestOn_38 : decode cX5_digestOn 38 = .ok (.ladd, 1) := by decide +kernel
theorem dX5_digestOn_39 : decode cX5_digestOn 39 = .ok (.lstore_n 3, 1) := by decide +kernel
theorem dX5_digestOn_40 : decode cX5_digestOn 40 = .ok (.iinc 5 1, 3) := by decide +kernel
theorem dX5_digestOn_43 : decode cX5_digestOn 43 = .ok (.goto (-23), 3) := by decide +kernel
theorem dX5_digestOn_46 : decode cX5_digestOn 46 = .ok (.lload_n 3, 1) := by decide +kernel
theorem dX5_digestOn_47 : decode cX5_digestOn 47 = .ok (.lreturn, 1) := by decide +kernel
theorem dX6_begin_0 : decode cX6_begin 0 = .ok (.aload_n 0, 1) := by decide +kernel
theorem dX6_begin_1 : decode cX6_begin 1 = .ok (.iconst 0, 1) := by decide +kernel
theorem dX6_begin_2 : decode cX6_begin 2 = .ok (.iload_n 1, 1) := by decide +kernel
theorem dX6_begin_3 : decode cX6_begin 3 = .ok (.aload_n 0, 1) := by decide +kernel
theorem dX6_begin_4 : decode cX6_begin 4 = .ok (.getfield 9, 3) := by decide +kernel
theorem dX6_begin_7 : decode cX6_begin 7 = .ok (.arraylength, 1) := by decide +kernel
theorem dX6_begin_8 : decode cX6_begin 8 = .ok (.invokestatic 19, 3) := by decide +kernel
theorem dX6_begin_11 : decode cX6_begin 11 = .ok (.invokestatic 25, 3) := by decide +kernel
theorem dX6_begin_14 : decode cX6_begin 14 = .ok (.putfield 15, 3) := by decide +kernel
theorem dX6_begin_17 : decode cX6_begin 17 = .ok (.iconst 0, 1) := by decide +kernel
theorem dX6_begin_18 : decode cX6_begin 18 = .ok (.istore_n 2, 1) := by decide +kernel
theorem dX6_begin_19 : decode cX6_begin 19 = .ok (.iload_n 2, 1) := by decide +kernel
theorem dX6_begin_20 : decode cX6_begin 20 = .ok (.aload_n 0, 1) := by decide +kernel
theorem dX6_begin_21 : decode cX6_begin 21 = .ok (.getfield 9, 3) := by decide +kernel
theorem dX6_begin_24 : decode cX6_begin 24 = .ok (.arraylength, 1) := by decide +kernel
theorem dX6_begin_25 : decode cX6_begin 25 = .ok (.if_icmp .ge 17, 3) := by decide +kernel
theorem dX6_begin_28 : decode cX6_begin 28 = .ok (.aload_n 0, 1) := by decide +kernel
theorem dX6_begin_29 : decode cX6_begin 29 = .ok (.getfield 9, 3) := by decide +kernel
theorem dX6_begin_32 : decode cX6_begin 32 = .ok (.iload_n 2, 1) := by decide +kernel
theorem dX6_begin_33 : decode cX6_begin 33 = .ok (.bipush 32, 2) := by decide +kernel
theorem dX6_begin_35 : decode cX6_begin 35 = .ok (.bastore, 1) := by decide +kernel
theorem dX6_begin_36 : decode cX6_begin 36 = .ok (.iinc 2 1, 3) := by decide +kernel
theorem dX6_begin_39 : decode cX6_begin 39 = .ok (.goto (-20), 3) := by decide +kernel
theorem dX6_begin_42 : decode cX6_begin 42 = .ok (.return_, 1) := by decide +kernel
theorem dX6_value_0 : decode cX6_value 0 = .ok (.aload_n 0, 1) := by decide +kernel
theorem dX6_value_1 : decode cX6_value 1 = .ok (.iload_n 1, 1) := by decide +kernel
theorem dX6_value_2 : decode cX6_value 2 = .ok (.invokevirtual 28, 3) := by decide +kernel
theorem dX6_value_5 : decode cX6_value 5 = .ok (.ifCond .eq 12, 3) := by decide +kernel
theorem dX6_value_8 : decode cX6_value 8 = .ok (.aload_n 0, 1) := by decide +kernel
theorem dX6_value_9 : decode cX6_value 9 = .ok (.getfield 9, 3) := by decide +kernel
theorem dX6_value_12 : decode cX6_value 12 = .ok (.iload_n 1, 1) := by decide +kernel
theorem dX6_value_13 : decode cX6_value 13 = .ok (.baload, 1) := by decide +kernel
theorem dX6_value_14 : decode cX6_value 14 = .ok (.goto 6, 3) := by decide +kernel
theorem dX6_value_17 : decode cX6_value 17 = .ok (.sipush 1000, 3) := by decide +kernel
theorem dX6_value_20 : decode cX6_value 20 = .ok (.ireturn, 1) := by decide +kernel
theorem dX6_set_0 : decode cX6_set 0 = .ok (.aload_n 0, 1) := by decide +kernel
theorem dX6_set_1 : decode cX6_set 1 = .ok (.iload_n 1, 1) := by decide +kernel
theorem dX6_set_2 : decode cX6_set 2 = .ok (.invokevirtual 28, 3) := by decide +kernel
theorem dX6_set_5 : decode cX6_set 5 = .ok (.ifCond .eq 10, 3) := by decide +kernel
theorem dX6_set_8 : decode cX6_set 8 = .ok (.aload_n 0, 1) := by decide +kernel
theorem dX6_set_9 : decode cX6_set 9 = .ok (.getfield 9, 3) := by decide +kernel
theorem dX6_set_12 : decode cX6_set 12 = .ok (.iload_n 1, 1) := by decide +kernel
theorem dX6_set_13 : decode cX6_set 13 = .ok (.iload_n 2, 1) := by decide +kernel
theorem dX6_set_14 : decode cX6_set 14 = .ok (.bastore, 1) := by decide +kernel
theorem dX6_set_15 : decode cX6_set 15 = .ok (.return_, 1) := by decide +kernel
theorem dX2_become_0 : decode cX2_become 0 = .ok (.aload_n 0, 1) := by decide +kernel
theorem dX2_become_1 : decode cX2_become 1 = .ok (.invokevirtual 32, 3) := by decide +kernel
theorem dX2_become_4 : decode cX2_become 4 = .ok (.iconst 0, 1) := by decide +kernel
theorem dX2_become_5 : decode cX2_become 5 = .ok (.istore_n 2, 1) := by decide +kernel
theorem dX2_become_6 : decode cX2_become 6 = .ok (.iload_n 2, 1) := by decide +kernel
theorem dX2_become_7 : decode cX2_become 7 = .ok (.aload_n 1, 1) := by decide +kernel
theorem dX2_become_8 : decode cX2_become 8 = .ok (.getfield 25, 3) := by decide +kernel
theorem dX2_become_11 : decode cX2_become 11 = .ok (.if_icmp .ge 28, 3) := by decide +kernel
theorem dX2_become_14 : decode cX2_become 14 = .ok (.aload_n 0, 1) := by decide +kernel
theorem dX2_become_15 : decode cX2_become 15 = .ok (.aload_n 1, 1) := by decide +kernel
theorem dX2_become_16 : decode cX2_become 16 = .ok (.iload_n 2, 1) := by decide +kernel
theorem dX2_become_17 : decode cX2_become 17 = .ok (.invokevirtual 35, 3) := by decide +kernel
theorem dX2_become_20 : decode cX2_become 20 = .ok (.aload_n 1, 1) := by decide +kernel
theorem dX2_become_21 : decode cX2_become 21 = .ok (.iload_n 2, 1) := by decide +kernel
theorem dX2_become_22 : decode cX2_become 22 = .ok (.invokevirtual 39, 3) := by decide +kernel
theorem dX2_become_25 : decode cX2_become 25 = .ok (.aload_n 1, 1) := by decide +kernel
theorem dX2_become_26 : decode cX2_become 26 = .ok (.iload_n 2, 1) := by decide +kernel
theorem dX2_become_27 : decode cX2_become 27 = .ok (.invokevirtual 42, 3) := by decide +kernel
theorem dX2_become_30 : decode cX2_become 30 = .ok (.invokevirtual 45, 3) := by decide +kernel
theorem dX2_become_33 : decode cX2_become 33 = .ok (.iinc 2 1, 3) := by decide +kernel
theorem dX2_become_36 : decode cX2_become 36 = .ok (.goto (-30), 3) := by decide +kernel
theorem dX2_become_39 : decode cX2_become 39 = .ok (.return_, 1) := by decide +kernel
theorem dX2_numbersAt_0 : decode cX2_numbersAt 0 = .ok (.bipush 100, 2) := by decide +kernel
theorem dX2_numbersAt_2 : decode cX2_numbersAt 2 = .ok (.aload_n 0, 1) := by decide +kernel
theorem dX2_numbersAt_3 : decode cX2_numbersAt 3 = .ok (.iload_n 1, 1) := by decide +kernel
theorem dX2_numbersAt_4 : decode cX2_numbersAt 4 = .ok (.invokevirtual 39, 3) := by decide +kernel
theorem dX2_numbersAt_7 : decode cX2_numbersAt 7 = .ok (.imul, 1) := by decide +kernel
theorem dX2_numbersAt_8 : decode cX2_numbersAt 8 = .ok (.aload_n 0, 1) := by decide +kernel
theorem dX2_numbersAt_9 : decode cX2_numbersAt 9 = .ok (.iload_n 1, 1) := by decide +kernel
theorem dX2_numbersAt_10 : decode cX2_numbersAt 10 = .ok (.invokevirtual 42, 3) := by decide +kernel
theorem dX2_numbersAt_13 : decode cX2_numbersAt 13 = .ok (.iadd, 1) := by decide +kernel
theorem dX2_numbersAt_14 : decode cX2_numbersAt 14 = .ok (.ireturn, 1) := by decide +kernel
theorem dX4_digestOn_0 : decode cX4_digestOn 0 = .ok (.ldc2_w 36, 3) := by decide +kernel
theorem dX4_digestOn_3 : decode cX4_digestOn 3 = .ok (.lload_n 1, 1) := by decide +kernel
theorem dX4_digestOn_4 : decode cX4_digestOn 4 = .ok (.lmul, 1) := by decide +kernel
theorem dX4_digestOn_5 : decode cX4_digestOn 5 = .ok (.aload_n 0, 1) := by decide +kernel
theorem dX4_digestOn_6 : decode cX4_digestOn 6 = .ok (.getfield 15, 3) := by decide +kernel
theorem dX4_digestOn_9 : decode cX4_digestOn 9 = .ok (.i2l, 1) := by decide +kernel
theorem dX4_digestOn_10 : decode cX4_digestOn 10 = .ok (.ladd, 1) := by decide +kernel
theorem dX4_digestOn_11 : decode cX4_digestOn 11 = .ok (.lstore_n 3, 1) := by decide +kernel
theorem dX4_digestOn_12 : decode cX4_digestOn 12 = .ok (.iconst 0, 1) := by decide +kernel
theorem dX4_digestOn_13 : decode cX4_digestOn 13 = .ok (.istore 5, 2) := by decide +kernel
theorem dX4_digestOn_15 : decode cX4_digestOn 15 = .ok (.iload 5, 2) := by decide +kernel
theorem dX4_digestOn_17 : decode cX4_digestOn 17 = .ok (.aload_n 0, 1) := by decide +kernel
theorem dX4_digestOn_18 : decode cX4_digestOn 18 = .ok (.getfield 15, 3) := by decide +kernel
theorem dX4_digestOn_21 : decode cX4_digestOn 21 = .ok (.if_icmp .ge 23, 3) := by decide +kernel
theorem dX4_digestOn_24 : decode cX4_digestOn 24 = .ok (.ldc2_w 36, 3) := by decide +kernel
theorem dX4_digestOn_27 : decode cX4_digestOn 27 = .ok (.lload_n 3, 1) := by decide +kernel
theorem dX4_digestOn_28 : decode cX4_digestOn 28 = .ok (.lmul, 1) := by decide +kernel
theorem dX4_digestOn_29 : decode cX4_digestOn 29 = .ok (.aload_n 0, 1) := by decide +kernel
theorem dX4_digestOn_30 : decode cX4_digestOn 30 = .ok (.iload 5, 2) := by decide +kernel
theorem dX4_digestOn_32 : decode cX4_digestOn 32 = .ok (.invokevirtual 32, 3) := by decide +kernel
theorem dX4_digestOn_35 : decode cX4_digestOn 35 = .ok (.i2l, 1) := by decide +kernel
theorem dX4_digestOn_36 : decode cX4_digestOn 36 = .ok (.ladd, 1) := by decide +kernel
theorem dX4_digestOn_37 : decode cX4_digestOn 37 = .ok (.lstore_n 3, 1) := by decide +kernel
theorem dX4_digestOn_38 : decode cX4_digestOn 38 = .ok (.iinc 5 1, 3) := by decide +kernel
theorem dX4_digestOn_41 : decode cX4_digestOn 41 = .ok (.goto (-26), 3) := by decide +kernel
theorem dX4_digestOn_44 : decode cX4_digestOn 44 = .ok (.lload_n 3, 1) := by decide +kernel
theorem dX4_digestOn_45 : decode cX4_digestOn 45 = .ok (.lreturn, 1) := by decide +kernel
theorem dX6_digestOn_0 : decode cX6_digestOn 0 = .ok (.ldc2_w 32, 3) := by decide +kernel
theorem dX6_digestOn_3 : decode cX6_digestOn 3 = .ok (.lload_n 1, 1) := by decide +kernel
theorem dX6_digestOn_4 : decode cX6_digestOn 4 = .ok (.lmul, 1) := by decide +kernel
theorem dX6_digestOn_5 : decode cX6_digestOn 5 = .ok (.aload_n 0, 1) := by decide +kernel
theorem dX6_digestOn_6 : decode cX6_digestOn 6 = .ok (.getfield 15, 3) := by decide +kernel
theorem dX6_digestOn_9 : decode cX6_digestOn 9 = .ok (.i2l, 1) := by decide +kernel
theorem dX6_digestOn_10 : decode cX6_digestOn 10 = .ok (.ladd, 1) := by decide +kernel
theorem dX6_digestOn_11 : decode cX6_digestOn 11 = .ok (.lstore_n 3, 1) := by decide +kernel
theorem dX6_digestOn_12 : decode cX6_digestOn 12 = .ok (.iconst 0, 1) := by decide +kernel
theorem dX6_digestOn_13 : decode cX6_digestOn 13 = .ok (.istore 5, 2) := by decide +kernel
theorem dX6_digestOn_15 : decode cX6_digestOn 15 = .ok (.iload 5, 2) := by decide +kernel
theorem dX6_digestOn_17 : decode cX6_digestOn 17 = .ok (.aload_n 0, 1) := by decide +kernel
theorem dX6_digestOn_18 : decode cX6_digestOn 18 = .ok (.getfield 15, 3) := by decide +kernel
theorem dX6_digestOn_21 : decode cX6_digestOn 21 = .ok (.if_icmp .ge 23, 3) := by decide +kernel
theorem dX6_digestOn_24 : decode cX6_digestOn 24 = .ok (.ldc2_w 32, 3) := by decide +kernel
theorem dX6_digestOn_27 : decode cX6_digestOn 27 = .ok (.lload_n 3, 1) := by decide +kernel
theorem dX6_digestOn_28 : decode cX6_digestOn 28 = .ok (.lmul, 1) := by decide +kernel
theorem dX6_digestOn_29 : decode cX6_digestOn 29 = .ok (.aload_n 0, 1) := by decide +kernel
theorem dX6_digestOn_30 : decode cX6_digestOn 30 = .ok (.iload 5, 2) := by decide +kernel
theorem dX6_digestOn_32 : decode cX6_digestOn 32 = .ok (.invokevirtual 34, 3) := by decide +kernel
theorem dX6_digestOn_35 : decode cX6_digestOn 35 = .ok (.i2l, 1) := by decide +kernel
theorem dX6_digestOn_36 : decode cX6_digestOn 36 = .ok (.ladd, 1) := by decide +kernel
theorem dX6_digestOn_37 : decode cX6_digestOn 37 = .ok (.lstore_n 3, 1) := by decide +kernel
theorem dX6_digestOn_38 : decode cX6_digestOn 38 = .ok (.iinc 5 1, 3) := by decide +kernel
theorem dX6_digestOn_41 : decode cX6_digestOn 41 = .ok (.goto (-26), 3) := by decide +kernel
theorem dX6_digestOn_44 : decode cX6_digestOn 44 = .ok (.lload_n 3, 1) := by decide +kernel
theorem dX6_digestOn_45 : decode cX6_digestOn 45 = .ok (.lreturn, 1) := by decide +kernel
theorem dX2_digestOn_0 : decode cX2_digestOn 0 = .ok (.aload_n 0, 1) := by decide +kernel
theorem dX2_digestOn_1 : decode cX2_digestOn 1 = .ok (.getfield 21, 3) := by decide +kernel
theorem dX2_digestOn_4 : decode cX2_digestOn 4 = .ok (.ifCond .ne 11, 3) := by decide +kernel
theorem dX2_digestOn_7 : decode cX2_digestOn 7 = .ok (.ldc2_w 53, 3) := by decide +kernel
theorem dX2_digestOn_10 : decode cX2_digestOn 10 = .ok (.lload_n 1, 1) := by decide +kernel
theorem dX2_digestOn_11 : decode cX2_digestOn 11 = .ok (.lmul, 1) := by decide +kernel
theorem dX2_digestOn_12 : decode cX2_digestOn 12 = .ok (.lconst 1, 1) := by decide +kernel
theorem dX2_digestOn_13 : decode cX2_digestOn 13 = .ok (.lsub, 1) := by decide +kernel
theorem dX2_digestOn_14 : decode cX2_digestOn 14 = .ok (.lreturn, 1) := by decide +kernel
theorem dX2_digestOn_15 : decode cX2_digestOn 15 = .ok (.lload_n 1, 1) := by decide +kernel
theorem dX2_digestOn_16 : decode cX2_digestOn 16 = .ok (.lstore_n 3, 1) := by decide +kernel
theorem dX2_digestOn_17 : decode cX2_digestOn 17 = .ok (.iconst 0, 1) := by decide +kernel
theorem dX2_digestOn_18 : decode cX2_digestOn 18 = .ok (.istore 5, 2) := by decide +kernel
theorem dX2_digestOn_20 : decode cX2_digestOn 20 = .ok (.iload 5, 2) := by decide +kernel
theorem dX2_digestOn_22 : decode cX2_digestOn 22 = .ok (.aload_n 0, 1) := by decide +kernel
theorem dX2_digestOn_23 : decode cX2_digestOn 23 = .ok (.getfield 25, 3) := by decide +kernel
theorem dX2_digestOn_26 : decode cX2_digestOn 26 = .ok (.if_icmp .ge 37, 3) := by decide +kernel
theorem dX2_digestOn_29 : decode cX2_digestOn 29 = .ok (.ldc2_w 53, 3) := by decide +kernel
theorem dX2_digestOn_32 : decode cX2_digestOn 32 = .ok (.lload_n 3, 1) := by decide +kernel
theorem dX2_digestOn_33 : decode cX2_digestOn 33 = .ok (.lmul, 1) := by decide +kernel
theorem dX2_digestOn_34 : decode cX2_digestOn 34 = .ok (.aload_n 0, 1) := by decide +kernel
theorem dX2_digestOn_35 : decode cX2_digestOn 35 = .ok (.iload 5, 2) := by decide +kernel
theorem dX2_digestOn_37 : decode cX2_digestOn 37 = .ok (.invokevirtual 35, 3) := by decide +kernel
theorem dX2_digestOn_40 : decode cX2_digestOn 40 = .ok (.i2l, 1) := by decide +kernel
theorem dX2_digestOn_41 : decode cX2_digestOn 41 = .ok (.ladd, 1) := by decide +kernel
theorem dX2_digestOn_42 : decode cX2_digestOn 42 = .ok (.lstore_n 3, 1) := by decide +kernel
theorem dX2_digestOn_43 : decode cX2_digestOn 43 = .ok (.ldc2_w 53, 3) := by decide +kernel
theorem dX2_digestOn_46 : decode cX2_digestOn 46 = .ok (.lload_n 3, 1) := by decide +kernel
theorem dX2_digestOn_47 : decode cX2_digestOn 47 = .ok (.lmul, 1) := by decide +kernel
theorem dX2_digestOn_48 : decode cX2_digestOn 48 = .ok (.aload_n 0, 1) := by decide +kernel
theorem dX2_digestOn_49 : decode cX2_digestOn 49 = .ok (.iload 5, 2) := by decide +kernel
theorem dX2_digestOn_51 : decode cX2_digestOn 51 = .ok (.invokevirtual 55, 3) := by decide +kernel
theorem dX2_digestOn_54 : decode cX2_digestOn 54 = .ok (.i2l, 1) := by decide +kernel
theorem dX2_digestOn_55 : decode cX2_digestOn 55 = .ok (.ladd, 1) := by decide +kernel
theorem dX2_digestOn_56 : decode cX2_digestOn 56 = .ok (.lstore_n 3, 1) := by decide +kernel
theorem dX2_digestOn_57 : decode cX2_digestOn 57 = .ok (.iinc 5 1, 3) := by decide +kernel
theorem dX2_digestOn_60 : decode cX2_digestOn 60 = .ok (.goto (-40), 3) := by decide +kernel
theorem dX2_digestOn_63 : decode cX2_digestOn 63 = .ok (.lload_n 3, 1) := by decide +kernel
theorem dX2_digestOn_64 : decode cX2_digestOn 64 = .ok (.lreturn, 1) := by decide +kernel
def f_X2_begin (o : Nat) (G : G_) : Option G_ :=
  chk (kd o == 2) <|
  nm (sI G o 3 1) fun G1 =>
  nm (sI G1 o 4 0) fun G2 =>
  nm (sI G2 o 5 0) fun G3 =>
  some G3
set_option maxHeartbeats 4000000 in
set_option maxRecDepth 100000 in
theorem c_X2_begin (l : Launch) (V : VT) (o : Nat) (G : G_) (G' : G_) (hf : f_X2_begin o G = some G') : MC l V yX2_begin cX2_begin 1 none 0 0 [.ref (V.2.2.1 o)] G none G' := by
  refine mc_of (by decide) (Nat.le_of_ble_eq_true rfl) (fun K hV ho hc hkl => ?_)
  subst hV
  replace hc : Ok K cX2_begin RX2 (Cond.code yX2_begin cX2_begin 1 none :: TB) none 0 0 1 := hc
  replace ho : Rets K none G' := ho
  show X K 0 [(0, .ref (kad K o))] [] G
  unfold f_X2_begin at hf
  obtain ⟨k_o, hf⟩ := chk_ok hf
  refine x_aload_n hc 0 dX2_begin_0 rfl rfl ?_
  refine x_iconst (v := 1) hc rfl dX2_begin_1 ?_
  refine x_putZ (T := TX2) (p0 := o) hc tyX2 tyX2_ok nmX2 in_X2 rfl (by decide) (kdb k_o) 3 (by decide) tw_69 rfl rfl rfl rfl (by decide +kernel) dX2_begin_2 ?_
  refine x_nmg (fun G1 e_G1 => ?_)
  replace hf := nm_ok hf G1 e_G1
  refine x_aload_n hc 0 dX2_begin_5 rfl rfl ?_
  refine x_iconst (v := 0) hc rfl dX2_begin_6 ?_
  refine x_putI (T := TX2) (p0 := o) hc tyX2 tyX2_ok nmX2 in_X2 rfl (by decide) (kdb k_o) 4 (by decide) tw_71 rfl rfl rfl (by decide +kernel) dX2_begin_7 ?_
  refine x_nmg (fun G2 e_G2 => ?_)
  replace hf := nm_ok hf G2 e_G2
  refine x_aload_n hc 0 dX2_begin_10 rfl rfl ?_
  refine x_iconst (v := 0) hc rfl dX2_begin_11 ?_
  refine x_putI (T := TX2) (p0 := o) hc tyX2 tyX2_ok nmX2 in_X2 rfl (by decide) (kdb k_o) 5 (by decide) tw_74 rfl rfl rfl (by decide +kernel) dX2_begin_12 ?_
  refine x_nmg (fun G3 e_G3 => ?_)
  replace hf := nm_ok hf G3 e_G3
  cases hf
  exact x_vret hc rfl ho dX2_begin_15
def f_X2_add (o : Nat) (a1 : Int32) (a2 : Int32) (a3 : Int32) (G : G_) : Option G_ :=
  chk (kd o == 2) <|
  if G.1 o 4 < 0 then (
    some G)
  else (
    if 12 ≤ G.1 o 4 then (
      some G)
    else (
      chk (inb (G.1 o 4) 12) <|
      nm (sI G (o + 1) (ix (G.1 o 4)) a1) fun G2 =>
      chk (inb (G2.1 o 4) 12) <|
      nm (sI G2 (o + 2) (ix (G2.1 o 4)) a2) fun G4 =>
      chk (inb (G4.1 o 4) 12) <|
      nm (sI G4 (o + 3) (ix (G4.1 o 4)) a3) fun G6 =>
      nm (sI G6 o 4 ((G6.1 o 4) + 1)) fun G7 =>
      nm (sI G7 o 5 ((G7.1 o 5) + a3)) fun G8 =>
      some G8))
set_option maxHeartbeats 4000000 in
set_option maxRecDepth 100000 in
theorem c_X2_add (l : Launch) (V : VT) (o : Nat) (a1 : Int32) (a2 : Int32) (a3 : Int32) (G : G_) (G' : G_) (hf : f_X2_add o a1 a2 a3 G = some G') : MC l V yX2_add cX2_add 4 none 0 0 [.ref (V.2.2.1 o), .int a1, .int a2, .int a3] G none G' := by
  refine mc_of (by decide) (Nat.le_of_ble_eq_true rfl) (fun K hV ho hc hkl => ?_)
  subst hV
  replace hc : Ok K cX2_add RX2 (Cond.code yX2_add cX2_add 4 none :: TB) none 0 0 4 := hc
  replace ho : Rets K none G' := ho
  show X K 0 [(0, .ref (kad K o)), (1, .int a1), (2, .int a2), (3, .int a3)] [] G
  unfold f_X2_add at hf
  obtain ⟨k_o, hf⟩ := chk_ok hf
  refine x_aload_n hc 0 dX2_add_0 rfl rfl ?_
  refine x_getI (T := TX2) (p0 := o) hc in_X2 rfl (by decide) (kdb k_o) 4 (by decide) tw_71 rfl rfl dX2_add_1 ?_
  refine x_if_lt (tgt := 66) hc dX2_add_4 rfl (fun c_4 => ?_) (fun c_4 => ?_)
  · replace hf := if_p hf c_4
    cases hf
    exact x_vret hc rfl ho dX2_add_66
  · replace hf := if_n hf c_4
    refine x_aload_n hc 0 dX2_add_7 rfl rfl ?_
    refine x_getI (T := TX2) (p0 := o) hc in_X2 rfl (by decide) (kdb k_o) 4 (by decide) tw_71 rfl rfl dX2_add_8 ?_
    refine x_bipush (v := 12) hc rfl dX2_add_11 ?_
    refine x_icmp_ge (tgt := 66) hc dX2_add_13 rfl (fun c_13 => ?_) (fun c_13 => ?_)
    · replace hf := if_p hf c_13
      cases hf
      exact x_vret hc rfl ho dX2_add_66
    · replace hf := if_n hf c_13
      refine x_aload_n hc 0 dX2_add_16 rfl rfl ?_
      refine x_getR (T := TX2) (p0 := o) hc in_X2 rfl (by decide) (kdb k_o) 0 (by decide) tw_66 rfl rfl dX2_add_17 ?_
      refine x_aload_n hc 0 dX2_add_20 rfl rfl ?_
      refine x_getI (T := TX2) (p0 := o) hc in_X2 rfl (by decide) (kdb k_o) 4 (by decide) tw_71 rfl rfl dX2_add_21 ?_
      refine x_iload_n hc 1 dX2_add_24 rfl rfl ?_
      obtain ⟨h1, hf⟩ := chk_ok hf
      refine x_iastore (p0 := o + 1) hc (sh_X2_kind (kdb k_o)).1 (sh_X2_kind (kdb k_o)).2 h1 dX2_add_25 ?_
      refine x_nmg (fun G2 e_G2 => ?_)
      replace hf := nm_ok hf G2 e_G2
      refine x_aload_n hc 0 dX2_add_26 rfl rfl ?_
      refine x_getR (T := TX2) (p0 := o) hc in_X2 rfl (by decide) (kdb k_o) 1 (by decide) tw_67 rfl rfl dX2_add_27 ?_
      refine x_aload_n hc 0 dX2_add_30 rfl rfl ?_
      refine x_getI (T := TX2) (p0 := o) hc in_X2 rfl (by decide) (kdb k_o) 4 (by decide) tw_71 rfl rfl dX2_add_31 ?_
      refine x_iload_n hc 2 dX2_add_34 rfl rfl ?_
      obtain ⟨h3, hf⟩ := chk_ok hf
      refine x_iastore (p0 := o + 2) hc (sh_X2_heat (kdb k_o)).1 (sh_X2_heat (kdb k_o)).2 h3 dX2_add_35 ?_
      refine x_nmg (fun G4 e_G4 => ?_)
      replace hf := nm_ok hf G4 e_G4
      refine x_aload_n hc 0 dX2_add_36 rfl rfl ?_
      refine x_getR (T := TX2) (p0 := o) hc in_X2 rfl (by decide) (kdb k_o) 2 (by decide) tw_68 rfl rfl dX2_add_37 ?_
      refine x_aload_n hc 0 dX2_add_40 rfl rfl ?_
      refine x_getI (T := TX2) (p0 := o) hc in_X2 rfl (by decide) (kdb k_o) 4 (by decide) tw_71 rfl rfl dX2_add_41 ?_
      refine x_iload_n hc 3 dX2_add_44 rfl rfl ?_
      obtain ⟨h5, hf⟩ := chk_ok hf
      refine x_iastore (p0 := o + 3) hc (sh_X2_length (kdb k_o)).1 (sh_X2_length (kdb k_o)).2 h5 dX2_add_45 ?_
      refine x_nmg (fun G6 e_G6 => ?_)
      replace hf := nm_ok hf G6 e_G6
      refine x_aload_n hc 0 dX2_add_46 rfl rfl ?_
      refine x_dup hc rfl dX2_add_47 ?_
      refine x_getI (T := TX2) (p0 := o) hc in_X2 rfl (by decide) (kdb k_o) 4 (by decide) tw_71 rfl rfl dX2_add_48 ?_
      refine x_iconst (v := 1) hc rfl dX2_add_51 ?_
      refine x_iadd hc dX2_add_52 ?_
      refine x_putI (T := TX2) (p0 := o) hc tyX2 tyX2_ok nmX2 in_X2 rfl (by decide) (kdb k_o) 4 (by decide) tw_71 rfl rfl rfl (by decide +kernel) dX2_add_53 ?_
      refine x_nmg (fun G7 e_G7 => ?_)
      replace hf := nm_ok hf G7 e_G7
      refine x_aload_n hc 0 dX2_add_56 rfl rfl ?_
      refine x_dup hc rfl dX2_add_57 ?_
      refine x_getI (T := TX2) (p0 := o) hc in_X2 rfl (by decide) (kdb k_o) 5 (by decide) tw_74 rfl rfl dX2_add_58 ?_
      refine x_iload_n hc 3 dX2_add_61 rfl rfl ?_
      refine x_iadd hc dX2_add_62 ?_
      refine x_putI (T := TX2) (p0 := o) hc tyX2 tyX2_ok nmX2 in_X2 rfl (by decide) (kdb k_o) 5 (by decide) tw_74 rfl rfl rfl (by decide +kernel) dX2_add_63 ?_
      refine x_nmg (fun G8 e_G8 => ?_)
      replace hf := nm_ok hf G8 e_G8
      cases hf
      exact x_vret hc rfl ho dX2_add_66
def f_X2_has (o : Nat) (a1 : Int32) (G : G_) : Option Int32 :=
  chk (kd o == 2) <|
  if a1 < 0 then (
    some 0)
  else (
    if G.1 o 4 ≤ a1 then (
      some 0)
    else (
      if 12 ≤ a1 then (
        some 0)
      else (
        some 1)))
set_option maxHeartbeats 4000000 in
set_option maxRecDepth 100000 in
theorem c_X2_has (l : Launch) (V : VT) (o : Nat) (a1 : Int32) (G : G_) (r : Int32) (hf : f_X2_has o a1 G = some r) : MC l V yX2_has cX2_has 2 (some .boolean) 0 0 [.ref (V.2.2.1 o), .int a1] G (some (.int r)) G := by
  refine mc_of (by decide) (Nat.le_of_ble_eq_true rfl) (fun K hV ho hc hkl => ?_)
  subst hV
  replace hc : Ok K cX2_has RX2 (Cond.code yX2_has cX2_has 2 (some .boolean) :: TB) (some .boolean) 0 0 2 := hc
  replace ho : Rets K (some (.int r)) G := ho
  show X K 0 [(0, .ref (kad K o)), (1, .int a1)] [] G
  unfold f_X2_has at hf
  obtain ⟨k_o, hf⟩ := chk_ok hf
  refine x_iload_n hc 1 dX2_has_0 rfl rfl ?_
  refine x_if_lt (tgt := 22) hc dX2_has_1 rfl (fun c_1 => ?_) (fun c_1 => ?_)
  · replace hf := if_p hf c_1
    refine x_iconst (v := 0) hc rfl dX2_has_22 ?_
    cases hf
    exact x_zret hc rfl rfl ho dX2_has_23
  · replace hf := if_n hf c_1
    refine x_iload_n hc 1 dX2_has_4 rfl rfl ?_
    refine x_aload_n hc 0 dX2_has_5 rfl rfl ?_
    refine x_getI (T := TX2) (p0 := o) hc in_X2 rfl (by decide) (kdb k_o) 4 (by decide) tw_71 rfl rfl dX2_has_6 ?_
    refine x_icmp_ge (tgt := 22) hc dX2_has_9 rfl (fun c_9 => ?_) (fun c_9 => ?_)
    · replace hf := if_p hf c_9
      refine x_iconst (v := 0) hc rfl dX2_has_22 ?_
      cases hf
      exact x_zret hc rfl rfl ho dX2_has_23
    · replace hf := if_n hf c_9
      refine x_iload_n hc 1 dX2_has_12 rfl rfl ?_
      refine x_bipush (v := 12) hc rfl dX2_has_13 ?_
      refine x_icmp_ge (tgt := 22) hc dX2_has_15 rfl (fun c_15 => ?_) (fun c_15 => ?_)
      · replace hf := if_p hf c_15
        refine x_iconst (v := 0) hc rfl dX2_has_22 ?_
        cases hf
        exact x_zret hc rfl rfl ho dX2_has_23
      · replace hf := if_n hf c_15
        refine x_iconst (v := 1) hc rfl dX2_has_18 ?_
        refine x_goto (tgt := 23) hc dX2_has_19 rfl ?_
        cases hf
        exact x_zret hc rfl rfl ho dX2_has_23
def f_X4_there (o : Nat) (G : G_) : Option Int32 :=
  chk (kd o == 4) <|
  if G.1 o 1 < 0 then (
    some 0)
  else (
    some 1)
set_option maxHeartbeats 4000000 in
set_option maxRecDepth 100000 in
theorem c_X4_there (l : Launch) (V : VT) (o : Nat) (G : G_) (r : Int32) (hf : f_X4_there o G = some r) : MC l V yX4_there cX4_there 1 (some .boolean) 0 0 [.ref (V.2.2.1 o)] G (some (.int r)) G := by
  refine mc_of (by decide) (Nat.le_of_ble_eq_true rfl) (fun K hV ho hc hkl => ?_)
  subst hV
  replace hc : Ok K cX4_there RX4 (Cond.code yX4_there cX4_there 1 (some .boolean) :: TB) (some .boolean) 0 0 1 := hc
  replace ho : Rets K (some (.int r)) G := ho
  show X K 0 [(0, .ref (kad K o))] [] G
  unfold f_X4_there at hf
  obtain ⟨k_o, hf⟩ := chk_ok hf
  refine x_aload_n hc 0 dX4_there_0 rfl rfl ?_
  refine x_getI (T := TX4) (p0 := o) hc in_X4 rfl (by decide) (kdb k_o) 1 (by decide) tw_219 rfl rfl dX4_there_1 ?_
  refine x_if_lt (tgt := 11) hc dX4_there_4 rfl (fun c_4 => ?_) (fun c_4 => ?_)
  · replace hf := if_p hf c_4
    refine x_iconst (v := 0) hc rfl dX4_there_11 ?_
    cases hf
    exact x_zret hc rfl rfl ho dX4_there_12
  · replace hf := if_n hf c_4
    refine x_iconst (v := 1) hc rfl dX4_there_7 ?_
    refine x_goto (tgt := 12) hc dX4_there_8 rfl ?_
    cases hf
    exact x_zret hc rfl rfl ho dX4_there_12
def f_X4_has (o : Nat) (a1 : Int32) (G : G_) : Option Int32 :=
  chk (kd o == 4) <|
  if a1 < 0 then (
    some 0)
  else (
    if G.1 o 1 ≤ a1 then (
      some 0)
    else (
      if 40 ≤ a1 then (
        some 0)
      else (
        some 1)))
set_option maxHeartbeats 4000000 in
set_option maxRecDepth 100000 in
theorem c_X4_has (l : Launch) (V : VT) (o : Nat) (a1 : Int32) (G : G_) (r : Int32) (hf : f_X4_has o a1 G = some r) : MC l V yX4_has cX4_has 2 (some .boolean) 0 0 [.ref (V.2.2.1 o), .int a1] G (some (.int r)) G := by
  refine mc_of (by decide) (Nat.le_of_ble_eq_true rfl) (fun K hV ho hc hkl => ?_)
  subst hV
  replace hc : Ok K cX4_has RX4 (Cond.code yX4_has cX4_has 2 (some .boolean) :: TB) (some .boolean) 0 0 2 := hc
  replace ho : Rets K (some (.int r)) G := ho
  show X K 0 [(0, .ref (kad K o)), (1, .int a1)] [] G
  unfold f_X4_has at hf
  obtain ⟨k_o, hf⟩ := chk_ok hf
  refine x_iload_n hc 1 dX4_has_0 rfl rfl ?_
  refine x_if_lt (tgt := 25) hc dX4_has_1 rfl (fun c_1 => ?_) (fun c_1 => ?_)
  · replace hf := if_p hf c_1
    refine x_iconst (v := 0) hc rfl dX4_has_25 ?_
    cases hf
    exact x_zret hc rfl rfl ho dX4_has_26
  · replace hf := if_n hf c_1
    refine x_iload_n hc 1 dX4_has_4 rfl rfl ?_
    refine x_aload_n hc 0 dX4_has_5 rfl rfl ?_
    refine x_getI (T := TX4) (p0 := o) hc in_X4 rfl (by decide) (kdb k_o) 1 (by decide) tw_219 rfl rfl dX4_has_6 ?_
    refine x_icmp_ge (tgt := 25) hc dX4_has_9 rfl (fun c_9 => ?_) (fun c_9 => ?_)
    · replace hf := if_p hf c_9
      refine x_iconst (v := 0) hc rfl dX4_has_25 ?_
      cases hf
      exact x_zret hc rfl rfl ho dX4_has_26
    · replace hf := if_n hf c_9
      refine x_iload_n hc 1 dX4_has_12 rfl rfl ?_
      refine x_aload_n hc 0 dX4_has_13 rfl rfl ?_
      refine x_getR (T := TX4) (p0 := o) hc in_X4 rfl (by decide) (kdb k_o) 0 (by decide) tw_218 rfl rfl dX4_has_14 ?_
      refine x_alenI (p0 := o + 1) (v := 40) hc (sh_X4_place (kdb k_o)).1 (by decide) (by decide) (sh_X4_place (kdb k_o)).2 rfl dX4_has_17 ?_
      refine x_icmp_ge (tgt := 25) hc dX4_has_18 rfl (fun c_18 => ?_) (fun c_18 => ?_)
      · replace hf := if_p hf c_18
        refine x_iconst (v := 0) hc rfl dX4_has_25 ?_
        cases hf
        exact x_zret hc rfl rfl ho dX4_has_26
      · replace hf := if_n hf c_18
        refine x_iconst (v := 1) hc rfl dX4_has_21 ?_
        refine x_goto (tgt := 26) hc dX4_has_22 rfl ?_
        cases hf
        exact x_zret hc rfl rfl ho dX4_has_26
def f_X5_begin (o : Nat) (G : G_) : Option G_ :=
  chk (kd o == 5) <|
  nm (sI G o 0 1) fun G1 =>
  nm (sI G1 o 1 10) fun G2 =>
  nm (sI G2 o 2 5) fun G3 =>
  nm (sI G3 o 3 0) fun G4 =>
  nm (sI G4 o 4 2) fun G5 =>
  some G5
set_option maxHeartbeats 4000000 in
set_option maxRecDepth 100000 in
theorem c_X5_begin (l : Launch) (V : VT) (o : Nat) (G : G_) (G' : G_) (hf : f_X5_begin o G = some G') : MC l V yX5_begin cX5_begin 1 none 0 0 [.ref (V.2.2.1 o)] G none G' := by
  refine mc_of (by decide) (Nat.le_of_ble_eq_true rfl) (fun K hV ho hc hkl => ?_)
  subst hV
  replace hc : Ok K cX5_begin RX5 (Cond.code yX5_begin cX5_begin 1 none :: TB) none 0 0 1 := hc
  replace ho : Rets K none G' := ho
  show X K 0 [(0, .ref (kad K o))] [] G
  unfold f_X5_begin at hf
  obtain ⟨k_o, hf⟩ := chk_ok hf
  refine x_aload_n hc 0 dX5_begin_0 rfl rfl ?_
  refine x_iconst (v := 1) hc rfl dX5_begin_1 ?_
  refine x_putZ (T := TX5) (p0 := o) hc tyX5 tyX5_ok nmX5 in_X5 rfl (by decide) (kdb k_o) 0 (by decide) tw_168 rfl rfl rfl rfl (by decide +kernel) dX5_begin_2 ?_
  refine x_nmg (fun G1 e_G1 => ?_)
  replace hf := nm_ok hf G1 e_G1
  refine x_aload_n hc 0 dX5_begin_5 rfl rfl ?_
  refine x_bipush (v := 10) hc rfl dX5_begin_6 ?_
  refine x_putI (T := TX5) (p0 := o) hc tyX5 tyX5_ok nmX5 in_X5 rfl (by decide) (kdb k_o) 1 (by decide) tw_170 rfl rfl rfl (by decide +kernel) dX5_begin_8 ?_
  refine x_nmg (fun G2 e_G2 => ?_)
  replace hf := nm_ok hf G2 e_G2
  refine x_aload_n hc 0 dX5_begin_11 rfl rfl ?_
  refine x_iconst (v := 5) hc rfl dX5_begin_12 ?_
  refine x_putI (T := TX5) (p0 := o) hc tyX5 tyX5_ok nmX5 in_X5 rfl (by decide) (kdb k_o) 2 (by decide) tw_174 rfl rfl rfl (by decide +kernel) dX5_begin_13 ?_
  refine x_nmg (fun G3 e_G3 => ?_)
  replace hf := nm_ok hf G3 e_G3
  refine x_aload_n hc 0 dX5_begin_16 rfl rfl ?_
  refine x_iconst (v := 0) hc rfl dX5_begin_17 ?_
  refine x_putI (T := TX5) (p0 := o) hc tyX5 tyX5_ok nmX5 in_X5 rfl (by decide) (kdb k_o) 3 (by decide) tw_177 rfl rfl rfl (by decide +kernel) dX5_begin_18 ?_
  refine x_nmg (fun G4 e_G4 => ?_)
  replace hf := nm_ok hf G4 e_G4
  refine x_aload_n hc 0 dX5_begin_21 rfl rfl ?_
  refine x_iconst (v := 2) hc rfl dX5_begin_22 ?_
  refine x_putI (T := TX5) (p0 := o) hc tyX5 tyX5_ok nmX5 in_X5 rfl (by decide) (kdb k_o) 4 (by decide) tw_182 rfl rfl rfl (by decide +kernel) dX5_begin_23 ?_
  refine x_nmg (fun G5 e_G5 => ?_)
  replace hf := nm_ok hf G5 e_G5
  cases hf
  exact x_vret hc rfl ho dX5_begin_26
def f_X5_become (o : Nat) (a1 : Nat) (G : G_) : Option G_ :=
  chk (kd o == 5) <|
  chk (kd a1 == 5) <|
  chk (isZ (G.1 a1 0)) <|
  nm (sI G o 0 (G.1 a1 0)) fun G2 =>
  nm (sI G2 o 1 (G2.1 a1 1)) fun G3 =>
  nm (sI G3 o 2 (G3.1 a1 2)) fun G4 =>
  nm (sI G4 o 3 (G4.1 a1 3)) fun G5 =>
  nm (sI G5 o 4 (G5.1 a1 4)) fun G6 =>
  some G6
set_option maxHeartbeats 4000000 in
set_option maxRecDepth 100000 in
theorem c_X5_become (l : Launch) (V : VT) (o : Nat) (a1 : Nat) (G : G_) (G' : G_) (hf : f_X5_become o a1 G = some G') : MC l V yX5_become cX5_become 2 none 0 0 [.ref (V.2.2.1 o), .ref (V.2.2.1 a1)] G none G' := by
  refine mc_of (by decide) (Nat.le_of_ble_eq_true rfl) (fun K hV ho hc hkl => ?_)
  subst hV
  replace hc : Ok K cX5_become RX5 (Cond.code yX5_become cX5_become 2 none :: TB) none 0 0 2 := hc
  replace ho : Rets K none G' := ho
  show X K 0 [(0, .ref (kad K o)), (1, .ref (kad K a1))] [] G
  unfold f_X5_become at hf
  obtain ⟨k_o, hf⟩ := chk_ok hf
  obtain ⟨k_a1, hf⟩ := chk_ok hf
  refine x_aload_n hc 0 dX5_become_0 rfl rfl ?_
  refine x_aload_n hc 1 dX5_become_1 rfl rfl ?_
  refine x_getI (T := TX5) (p0 := a1) hc in_X5 rfl (by decide) (kdb k_a1) 0 (by decide) tw_168 rfl rfl dX5_become_2 ?_
  obtain ⟨h1, hf⟩ := chk_ok hf
  refine x_putZ (T := TX5) (p0 := o) hc tyX5 tyX5_ok nmX5 in_X5 rfl (by decide) (kdb k_o) 0 (by decide) tw_168 rfl rfl rfl h1 (by decide +kernel) dX5_become_5 ?_
  refine x_nmg (fun G2 e_G2 => ?_)
  replace hf := nm_ok hf G2 e_G2
  refine x_aload_n hc 0 dX5_become_8 rfl rfl ?_
  refine x_aload_n hc 1 dX5_become_9 rfl rfl ?_
  refine x_getI (T := TX5) (p0 := a1) hc in_X5 rfl (by decide) (kdb k_a1) 1 (by decide) tw_170 rfl rfl dX5_become_10 ?_
  refine x_putI (T := TX5) (p0 := o) hc tyX5 tyX5_ok nmX5 in_X5 rfl (by decide) (kdb k_o) 1 (by decide) tw_170 rfl rfl rfl (by decide +kernel) dX5_become_13 ?_
  refine x_nmg (fun G3 e_G3 => ?_)
  replace hf := nm_ok hf G3 e_G3
  refine x_aload_n hc 0 dX5_become_16 rfl rfl ?_
  refine x_aload_n hc 1 dX5_become_17 rfl rfl ?_
  refine x_getI (T := TX5) (p0 := a1) hc in_X5 rfl (by decide) (kdb k_a1) 2 (by decide) tw_174 rfl rfl dX5_become_18 ?_
  refine x_putI (T := TX5) (p0 := o) hc tyX5 tyX5_ok nmX5 in_X5 rfl (by decide) (kdb k_o) 2 (by decide) tw_174 rfl rfl rfl (by decide +kernel) dX5_become_21 ?_
  refine x_nmg (fun G4 e_G4 => ?_)
  replace hf := nm_ok hf G4 e_G4
  refine x_aload_n hc 0 dX5_become_24 rfl rfl ?_
  refine x_aload_n hc 1 dX5_become_25 rfl rfl ?_
  refine x_getI (T := TX5) (p0 := a1) hc in_X5 rfl (by decide) (kdb k_a1) 3 (by decide) tw_177 rfl rfl dX5_become_26 ?_
  refine x_putI (T := TX5) (p0 := o) hc tyX5 tyX5_ok nmX5 in_X5 rfl (by decide) (kdb k_o) 3 (by decide) tw_177 rfl rfl rfl (by decide +kernel) dX5_become_29 ?_
  refine x_nmg (fun G5 e_G5 => ?_)
  replace hf := nm_ok hf G5 e_G5
  refine x_aload_n hc 0 dX5_become_32 rfl rfl ?_
  refine x_aload_n hc 1 dX5_become_33 rfl rfl ?_
  refine x_getI (T := TX5) (p0 := a1) hc in_X5 rfl (by decide) (kdb k_a1) 4 (by decide) tw_182 rfl rfl dX5_become_34 ?_
  refine x_putI (T := TX5) (p0 := o) hc tyX5 tyX5_ok nmX5 in_X5 rfl (by decide) (kdb k_o) 4 (by decide) tw_182 rfl rfl rfl (by decide +kernel) dX5_become_37 ?_
  refine x_nmg (fun G6 e_G6 => ?_)
  replace hf := nm_ok hf G6 e_G6
  cases hf
  exact x_vret hc rfl ho dX5_become_40
def f_X5_tells (o : Nat) (a1 : Int32) (G : G_) : Option Int32 :=
  chk (kd o == 5) <|
  if a1 = 0 then (
    some (G.1 o 1))
  else if a1 = 1 then (
    some (G.1 o 2))
  else if a1 = 2 then (
    some (G.1 o 3))
  else (
    some (G.1 o 4))
set_option maxHeartbeats 4000000 in
set_option maxRecDepth 100000 in
theorem c_X5_tells (l : Launch) (V : VT) (o : Nat) (a1 : Int32) (G : G_) (r : Int32) (hf : f_X5_tells o a1 G = some r) : MC l V yX5_tells cX5_tells 2 (some .int) 0 0 [.ref (V.2.2.1 o), .int a1] G (some (.int r)) G := by
  refine mc_of (by decide) (Nat.le_of_ble_eq_true rfl) (fun K hV ho hc hkl => ?_)
  subst hV
  replace hc : Ok K cX5_tells RX5 (Cond.code yX5_tells cX5_tells 2 (some .int) :: TB) (some .int) 0 0 2 := hc
  replace ho : Rets K (some (.int r)) G := ho
  show X K 0 [(0, .ref (kad K o)), (1, .int a1)] [] G
  unfold f_X5_tells at hf
  obtain ⟨k_o, hf⟩ := chk_ok hf
  refine x_iload_n hc 1 dX5_tells_0 rfl rfl ?_
  by_cases s_1_0 : a1 = 0
  · replace hf := if_p hf s_1_0
    refine x_tsIn (tgt := 28) hc dX5_tells_1 0 s_1_0 (by decide) (by decide) rfl rfl ?_
    refine x_aload_n hc 0 dX5_tells_28 rfl rfl ?_
    refine x_getI (T := TX5) (p0 := o) hc in_X5 rfl (by decide) (kdb k_o) 1 (by decide) tw_170 rfl rfl dX5_tells_29 ?_
    cases hf
    exact x_iret hc rfl ho dX5_tells_32
  replace hf := if_n hf s_1_0
  by_cases s_1_1 : a1 = 1
  · replace hf := if_p hf s_1_1
    refine x_tsIn (tgt := 33) hc dX5_tells_1 1 s_1_1 (by decide) (by decide) rfl rfl ?_
    refine x_aload_n hc 0 dX5_tells_33 rfl rfl ?_
    refine x_getI (T := TX5) (p0 := o) hc in_X5 rfl (by decide) (kdb k_o) 2 (by decide) tw_174 rfl rfl dX5_tells_34 ?_
    cases hf
    exact x_iret hc rfl ho dX5_tells_37
  replace hf := if_n hf s_1_1
  by_cases s_1_2 : a1 = 2
  · replace hf := if_p hf s_1_2
    refine x_tsIn (tgt := 38) hc dX5_tells_1 2 s_1_2 (by decide) (by decide) rfl rfl ?_
    refine x_aload_n hc 0 dX5_tells_38 rfl rfl ?_
    refine x_getI (T := TX5) (p0 := o) hc in_X5 rfl (by decide) (kdb k_o) 3 (by decide) tw_177 rfl rfl dX5_tells_39 ?_
    cases hf
    exact x_iret hc rfl ho dX5_tells_42
  replace hf := if_n hf s_1_2
  refine x_tsDef (tgt := 43) hc dX5_tells_1 [0, 1, 2] 3 rfl (by decide +kernel) (List.forall_mem_cons.mpr ⟨s_1_0, List.forall_mem_cons.mpr ⟨s_1_1, List.forall_mem_cons.mpr ⟨s_1_2, fun _ h => absurd h List.not_mem_nil⟩⟩⟩) rfl ?_
  refine x_aload_n hc 0 dX5_tells_43 rfl rfl ?_
  refine x_getI (T := TX5) (p0 := o) hc in_X5 rfl (by decide) (kdb k_o) 4 (by decide) tw_182 rfl rfl dX5_tells_44 ?_
  cases hf
  exact x_iret hc rfl ho dX5_tells_47
def f_X6_there (o : Nat) (G : G_) : Option Int32 :=
  chk (kd o == 6) <|
  if G.1 o 1 < 0 then (
    some 0)
  else (
    some 1)
set_option maxHeartbeats 4000000 in
set_option maxRecDepth 100000 in
theorem c_X6_there (l : Launch) (V : VT) (o : Nat) (G : G_) (r : Int32) (hf : f_X6_there o G = some r) : MC l V yX6_there cX6_there 1 (some .boolean) 0 0 [.ref (V.2.2.1 o)] G (some (.int r)) G := by
  refine mc_of (by decide) (Nat.le_of_ble_eq_true rfl) (fun K hV ho hc hkl => ?_)
  subst hV
  replace hc : Ok K cX6_there RX6 (Cond.code yX6_there cX6_there 1 (some .boolean) :: TB) (some .boolean) 0 0 1 := hc
  replace ho : Rets K (some (.int r)) G := ho
  show X K 0 [(0, .ref (kad K o))] [] G
  unfold f_X6_there at hf
  obtain ⟨k_o, hf⟩ := chk_ok hf
  refine x_aload_n hc 0 dX6_there_0 rfl rfl ?_
  refine x_getI (T := TX6) (p0 := o) hc in_X6 rfl (by decide) (kdb k_o) 1 (by decide) tw_232 rfl rfl dX6_there_1 ?_
  refine x_if_lt (tgt := 11) hc dX6_there_4 rfl (fun c_4 => ?_) (fun c_4 => ?_)
  · replace hf := if_p hf c_4
    refine x_iconst (v := 0) hc rfl dX6_there_11 ?_
    cases hf
    exact x_zret hc rfl rfl ho dX6_there_12
  · replace hf := if_n hf c_4
    refine x_iconst (v := 1) hc rfl dX6_there_7 ?_
    refine x_goto (tgt := 12) hc dX6_there_8 rfl ?_
    cases hf
    exact x_zret hc rfl rfl ho dX6_there_12
def f_X6_has (o : Nat) (a1 : Int32) (G : G_) : Option Int32 :=
  chk (kd o == 6) <|
  if a1 < 0 then (
    some 0)
  else (
    if G.1 o 1 ≤ a1 then (
      some 0)
    else (
      if 80 ≤ a1 then (
        some 0)
      else (
        some 1)))
set_option maxHeartbeats 4000000 in
set_option maxRecDepth 100000 in
theorem c_X6_has (l : Launch) (V : VT) (o : Nat) (a1 : Int32) (G : G_) (r : Int32) (hf : f_X6_has o a1 G = some r) : MC l V yX6_has cX6_has 2 (some .boolean) 0 0 [.ref (V.2.2.1 o), .int a1] G (some (.int r)) G := by
  refine mc_of (by decide) (Nat.le_of_ble_eq_true rfl) (fun K hV ho hc hkl => ?_)
  subst hV
  replace hc : Ok K cX6_has RX6 (Cond.code yX6_has cX6_has 2 (some .boolean) :: TB) (some .boolean) 0 0 2 := hc
  replace ho : Rets K (some (.int r)) G := ho
  show X K 0 [(0, .ref (kad K o)), (1, .int a1)] [] G
  unfold f_X6_has at hf
  obtain ⟨k_o, hf⟩ := chk_ok hf
  refine x_iload_n hc 1 dX6_has_0 rfl rfl ?_
  refine x_if_lt (tgt := 25) hc dX6_has_1 rfl (fun c_1 => ?_) (fun c_1 => ?_)
  · replace hf := if_p hf c_1
    refine x_iconst (v := 0) hc rfl dX6_has_25 ?_
    cases hf
    exact x_zret hc rfl rfl ho dX6_has_26
  · replace hf := if_n hf c_1
    refine x_iload_n hc 1 dX6_has_4 rfl rfl ?_
    refine x_aload_n hc 0 dX6_has_5 rfl rfl ?_
    refine x_getI (T := TX6) (p0 := o) hc in_X6 rfl (by decide) (kdb k_o) 1 (by decide) tw_232 rfl rfl dX6_has_6 ?_
    refine x_icmp_ge (tgt := 25) hc dX6_has_9 rfl (fun c_9 => ?_) (fun c_9 => ?_)
    · replace hf := if_p hf c_9
      refine x_iconst (v := 0) hc rfl dX6_has_25 ?_
      cases hf
      exact x_zret hc rfl rfl ho dX6_has_26
    · replace hf := if_n hf c_9
      refine x_iload_n hc 1 dX6_has_12 rfl rfl ?_
      refine x_aload_n hc 0 dX6_has_13 rfl rfl ?_
      refine x_getR (T := TX6) (p0 := o) hc in_X6 rfl (by decide) (kdb k_o) 0 (by decide) tw_231 rfl rfl dX6_has_14 ?_
      refine x_alenI (p0 := o + 1) (v := 80) hc (sh_X6_sign (kdb k_o)).1 (by decide) (by decide) (sh_X6_sign (kdb k_o)).2 rfl dX6_has_17 ?_
      refine x_icmp_ge (tgt := 25) hc dX6_has_18 rfl (fun c_18 => ?_) (fun c_18 => ?_)
      · replace hf := if_p hf c_18
        refine x_iconst (v := 0) hc rfl dX6_has_25 ?_
        cases hf
        exact x_zret hc rfl rfl ho dX6_has_26
      · replace hf := if_n hf c_18
        refine x_iconst (v := 1) hc rfl dX6_has_21 ?_
        refine x_goto (tgt := 26) hc dX6_has_22 rfl ?_
        cases hf
        exact x_zret hc rfl rfl ho dX6_has_26
def f_J6_bitCount_0f7a4 (a0 : Int32) : Option Int32 :=
  nm (a0 - (((a0.toUInt32 >>> ((1 : Int32).toUInt32 &&& Int32.toUInt32 31)).toInt32) &&& 1431655765)) fun x1 =>
  nm ((x1 &&& 858993459) + (((x1.toUInt32 >>> ((2 : Int32).toUInt32 &&& Int32.toUInt32 31)).toInt32) &&& 858993459)) fun x2 =>
  nm ((x2 + ((x2.toUInt32 >>> ((4 : Int32).toUInt32 &&& Int32.toUInt32 31)).toInt32)) &&& 252645135) fun x3 =>
  nm (x3 + ((x3.toUInt32 >>> ((8 : Int32).toUInt32 &&& Int32.toUInt32 31)).toInt32)) fun x4 =>
  nm (x4 + ((x4.toUInt32 >>> ((16 : Int32).toUInt32 &&& Int32.toUInt32 31)).toInt32)) fun x5 =>
  some (x5 &&& 63)
set_option maxHeartbeats 4000000 in
set_option maxRecDepth 100000 in
theorem c_J6_bitCount_0f7a4 (l : Launch) (V : VT) (a0 : Int32) (G : G_) (r : Int32) (hf : f_J6_bitCount_0f7a4 a0 = some r) : MC l V yJ6_bitCount_0f7a4 cJ6_bitCount_0f7a4 1 (some .int) 0 0 [.int a0] G (some (.int r)) G := by
  refine mc_of (by decide) (Nat.le_of_ble_eq_true rfl) (fun K hV ho hc hkl => ?_)
  subst hV
  replace hc : Ok K cJ6_bitCount_0f7a4 RJ6 (Cond.code yJ6_bitCount_0f7a4 cJ6_bitCount_0f7a4 1 (some .int) :: TB) (some .int) 0 0 1 := hc
  replace ho : Rets K (some (.int r)) G := ho
  show X K 0 [(0, .int a0)] [] G
  unfold f_J6_bitCount_0f7a4 at hf
  refine x_iload_n hc 0 dJ6_bitCount_0f7a4_0 rfl rfl ?_
  refine x_iload_n hc 0 dJ6_bitCount_0f7a4_1 rfl rfl ?_
  refine x_iconst (v := 1) hc rfl dJ6_bitCount_0f7a4_2 ?_
  refine x_iushr hc dJ6_bitCount_0f7a4_3 ?_
  refine x_ldcw (v := 1431655765) hc dJ6_bitCount_0f7a4_4 tw_878 ?_
  refine x_iand hc dJ6_bitCount_0f7a4_7 ?_
  refine x_isub hc dJ6_bitCount_0f7a4_8 ?_
  refine x_nmi (fun x1 e_x1 => ?_)
  replace hf := nm_ok hf x1 e_x1
  refine x_istore_n (L' := [(0, .int x1)]) hc [0] dJ6_bitCount_0f7a4_9 rfl (by decide) rfl ?_
  refine x_iload_n hc 0 dJ6_bitCount_0f7a4_10 rfl rfl ?_
  refine x_ldcw (v := 858993459) hc dJ6_bitCount_0f7a4_11 tw_879 ?_
  refine x_iand hc dJ6_bitCount_0f7a4_14 ?_
  refine x_iload_n hc 0 dJ6_bitCount_0f7a4_15 rfl rfl ?_
  refine x_iconst (v := 2) hc rfl dJ6_bitCount_0f7a4_16 ?_
  refine x_iushr hc dJ6_bitCount_0f7a4_17 ?_
  refine x_ldcw (v := 858993459) hc dJ6_bitCount_0f7a4_18 tw_879 ?_
  refine x_iand hc dJ6_bitCount_0f7a4_21 ?_
  refine x_iadd hc dJ6_bitCount_0f7a4_22 ?_
  refine x_nmi (fun x2 e_x2 => ?_)
  replace hf := nm_ok hf x2 e_x2
  refine x_istore_n (L' := [(0, .int x2)]) hc [0] dJ6_bitCount_0f7a4_23 rfl (by decide) rfl ?_
  refine x_iload_n hc 0 dJ6_bitCount_0f7a4_24 rfl rfl ?_
  refine x_iload_n hc 0 dJ6_bitCount_0f7a4_25 rfl rfl ?_
  refine x_iconst (v := 4) hc rfl dJ6_bitCount_0f7a4_26 ?_
  refine x_iushr hc dJ6_bitCount_0f7a4_27 ?_
  refine x_iadd hc dJ6_bitCount_0f7a4_28 ?_
  refine x_ldcw (v := 252645135) hc dJ6_bitCount_0f7a4_29 tw_880 ?_
  refine x_iand hc dJ6_bitCount_0f7a4_32 ?_
  refine x_nmi (fun x3 e_x3 => ?_)
  replace hf := nm_ok hf x3 e_x3
  refine x_istore_n (L' := [(0, .int x3)]) hc [0] dJ6_bitCount_0f7a4_33 rfl (by decide) rfl ?_
  refine x_iload_n hc 0 dJ6_bitCount_0f7a4_34 rfl rfl ?_
  refine x_iload_n hc 0 dJ6_bitCount_0f7a4_35 rfl rfl ?_
  refine x_bipush (v := 8) hc rfl dJ6_bitCount_0f7a4_36 ?_
  refine x_iushr hc dJ6_bitCount_0f7a4_38 ?_
  refine x_iadd hc dJ6_bitCount_0f7a4_39 ?_
  refine x_nmi (fun x4 e_x4 => ?_)
  replace hf := nm_ok hf x4 e_x4
  refine x_istore_n (L' := [(0, .int x4)]) hc [0] dJ6_bitCount_0f7a4_40 rfl (by decide) rfl ?_
  refine x_iload_n hc 0 dJ6_bitCount_0f7a4_41 rfl rfl ?_
  refine x_iload_n hc 0 dJ6_bitCount_0f7a4_42 rfl rfl ?_
  refine x_bipush (v := 16) hc rfl dJ6_bitCount_0f7a4_43 ?_
  refine x_iushr hc dJ6_bitCount_0f7a4_45 ?_
  refine x_iadd hc dJ6_bitCount_0f7a4_46 ?_
  refine x_nmi (fun x5 e_x5 => ?_)
  replace hf := nm_ok hf x5 e_x5
  refine x_istore_n (L' := [(0, .int x5)]) hc [0] dJ6_bitCount_0f7a4_47 rfl (by decide) rfl ?_
  refine x_iload_n hc 0 dJ6_bitCount_0f7a4_48 rfl rfl ?_
  refine x_bipush (v := 63) hc rfl dJ6_bitCount_0f7a4_49 ?_
  refine x_iand hc dJ6_bitCount_0f7a4_51 ?_
  cases hf
  exact x_iret hc rfl ho dJ6_bitCount_0f7a4_52
def f_X2_kindAt (o : Nat) (a1 : Int32) (G : G_) : Option Int32 :=
  chk (kd o == 2) <|
  bj1 (f_X2_has o a1 G) fun x1 =>
  if x1 = 0 then (
    some 4)
  else (
    chk (inb a1 12) <|
    some (G.1 (o + 1) (ix a1)))
set_option maxHeartbeats 4000000 in
set_option maxRecDepth 100000 in
theorem c_X2_kindAt (l : Launch) (V : VT) (o : Nat) (a1 : Int32) (G : G_) (r : Int32) (hf : f_X2_kindAt o a1 G = some r) : MC l V yX2_kindAt cX2_kindAt 2 (some .int) 1 21 [.ref (V.2.2.1 o), .int a1] G (some (.int r)) G := by
  refine mc_of (by decide) (Nat.le_of_ble_eq_true rfl) (fun K hV ho hc hkl => ?_)
  subst hV
  replace hc : Ok K cX2_kindAt RX2 (Cond.code yX2_kindAt cX2_kindAt 2 (some .int) :: TB) (some .int) 1 21 2 := hc
  replace ho : Rets K (some (.int r)) G := ho
  show X K 0 [(0, .ref (kad K o)), (1, .int a1)] [] G
  unfold f_X2_kindAt at hf
  obtain ⟨k_o, hf⟩ := chk_ok hf
  refine x_aload_n hc 0 dX2_kindAt_0 rfl rfl ?_
  refine x_iload_n hc 1 dX2_kindAt_1 rfl rfl ?_
  obtain ⟨x1, r2, hf⟩ := bj1_ok hf
  refine x_callVr (As := [.int a1]) (p0 := o) (v := (.int x1)) (T := TX2) hc (c_X2_has (kl K) (kV K) o a1 G x1 r2) mw_X2_has tw_365 (kdb k_o) (by decide) rfl rfl (Nat.le_of_ble_eq_true rfl) ⟨Nat.le_of_ble_eq_true rfl, Nat.le_of_ble_eq_true rfl⟩ dX2_kindAt_2 rfl ?_
  refine x_if_eq (tgt := 17) hc dX2_kindAt_5 rfl (fun c_5 => ?_) (fun c_5 => ?_)
  · replace hf := if_p hf c_5
    refine x_iconst (v := 4) hc rfl dX2_kindAt_17 ?_
    cases hf
    exact x_iret hc rfl ho dX2_kindAt_18
  · replace hf := if_n hf c_5
    refine x_aload_n hc 0 dX2_kindAt_8 rfl rfl ?_
    refine x_getR (T := TX2) (p0 := o) hc in_X2 rfl (by decide) (kdb k_o) 0 (by decide) tw_66 rfl rfl dX2_kindAt_9 ?_
    refine x_iload_n hc 1 dX2_kindAt_12 rfl rfl ?_
    obtain ⟨h3, hf⟩ := chk_ok hf
    refine x_iaload (p0 := o + 1) hc (sh_X2_kind (kdb k_o)).1 (sh_X2_kind (kdb k_o)).2 h3 dX2_kindAt_13 ?_
    refine x_goto (tgt := 18) hc dX2_kindAt_14 rfl ?_
    cases hf
    exact x_iret hc rfl ho dX2_kindAt_18
def f_X2_heatAt (o : Nat) (a1 : Int32) (G : G_) : Option Int32 :=
  chk (kd o == 2) <|
  bj1 (f_X2_has o a1 G) fun x1 =>
  if x1 = 0 then (
    some 0)
  else (
    chk (inb a1 12) <|
    some (G.1 (o + 2) (ix a1)))
set_option maxHeartbeats 4000000 in
set_option maxRecDepth 100000 in
theorem c_X2_heatAt (l : Launch) (V : VT) (o : Nat) (a1 : Int32) (G : G_) (r : Int32) (hf : f_X2_heatAt o a1 G = some r) : MC l V yX2_heatAt cX2_heatAt 2 (some .int) 1 21 [.ref (V.2.2.1 o), .int a1] G (some (.int r)) G := by
  refine mc_of (by decide) (Nat.le_of_ble_eq_true rfl) (fun K hV ho hc hkl => ?_)
  subst hV
  replace hc : Ok K cX2_heatAt RX2 (Cond.code yX2_heatAt cX2_heatAt 2 (some .int) :: TB) (some .int) 1 21 2 := hc
  replace ho : Rets K (some (.int r)) G := ho
  show X K 0 [(0, .ref (kad K o)), (1, .int a1)] [] G
  unfold f_X2_heatAt at hf
  obtain ⟨k_o, hf⟩ := chk_ok hf
  refine x_aload_n hc 0 dX2_heatAt_0 rfl rfl ?_
  refine x_iload_n hc 1 dX2_heatAt_1 rfl rfl ?_
  obtain ⟨x1, r2, hf⟩ := bj1_ok hf
  refine x_callVr (As := [.int a1]) (p0 := o) (v := (.int x1)) (T := TX2) hc (c_X2_has (kl K) (kV K) o a1 G x1 r2) mw_X2_has tw_365 (kdb k_o) (by decide) rfl rfl (Nat.le_of_ble_eq_true rfl) ⟨Nat.le_of_ble_eq_true rfl, Nat.le_of_ble_eq_true rfl⟩ dX2_heatAt_2 rfl ?_
  refine x_if_eq (tgt := 17) hc dX2_heatAt_5 rfl (fun c_5 => ?_) (fun c_5 => ?_)
  · replace hf := if_p hf c_5
    refine x_iconst (v := 0) hc rfl dX2_heatAt_17 ?_
    cases hf
    exact x_iret hc rfl ho dX2_heatAt_18
  · replace hf := if_n hf c_5
    refine x_aload_n hc 0 dX2_heatAt_8 rfl rfl ?_
    refine x_getR (T := TX2) (p0 := o) hc in_X2 rfl (by decide) (kdb k_o) 1 (by decide) tw_67 rfl rfl dX2_heatAt_9 ?_
    refine x_iload_n hc 1 dX2_heatAt_12 rfl rfl ?_
    obtain ⟨h3, hf⟩ := chk_ok hf
    refine x_iaload (p0 := o + 2) hc (sh_X2_heat (kdb k_o)).1 (sh_X2_heat (kdb k_o)).2 h3 dX2_heatAt_13 ?_
    refine x_goto (tgt := 18) hc dX2_heatAt_14 rfl ?_
    cases hf
    exact x_iret hc rfl ho dX2_heatAt_18
def f_X2_lengthAt (o : Nat) (a1 : Int32) (G : G_) : Option Int32 :=
  chk (kd o == 2) <|
  bj1 (f_X2_has o a1 G) fun x1 =>
  if x1 = 0 then (
    some 0)
  else (
    chk (inb a1 12) <|
    some (G.1 (o + 3) (ix a1)))
set_option maxHeartbeats 4000000 in
set_option maxRecDepth 100000 in
theorem c_X2_lengthAt (l : Launch) (V : VT) (o : Nat) (a1 : Int32) (G : G_) (r : Int32) (hf : f_X2_lengthAt o a1 G = some r) : MC l V yX2_lengthAt cX2_lengthAt 2 (some .int) 1 21 [.ref (V.2.2.1 o), .int a1] G (some (.int r)) G := by
  refine mc_of (by decide) (Nat.le_of_ble_eq_true rfl) (fun K hV ho hc hkl => ?_)
  subst hV
  replace hc : Ok K cX2_lengthAt RX2 (Cond.code yX2_lengthAt cX2_lengthAt 2 (some .int) :: TB) (some .int) 1 21 2 := hc
  replace ho : Rets K (some (.int r)) G := ho
  show X K 0 [(0, .ref (kad K o)), (1, .int a1)] [] G
  unfold f_X2_lengthAt at hf
  obtain ⟨k_o, hf⟩ := chk_ok hf
  refine x_aload_n hc 0 dX2_lengthAt_0 rfl rfl ?_
  refine x_iload_n hc 1 dX2_lengthAt_1 rfl rfl ?_
  obtain ⟨x1, r2, hf⟩ := bj1_ok hf
  refine x_callVr (As := [.int a1]) (p0 := o) (v := (.int x1)) (T := TX2) hc (c_X2_has (kl K) (kV K) o a1 G x1 r2) mw_X2_has tw_365 (kdb k_o) (by decide) rfl rfl (Nat.le_of_ble_eq_true rfl) ⟨Nat.le_of_ble_eq_true rfl, Nat.le_of_ble_eq_true rfl⟩ dX2_lengthAt_2 rfl ?_
  refine x_if_eq (tgt := 17) hc dX2_lengthAt_5 rfl (fun c_5 => ?_) (fun c_5 => ?_)
  · replace hf := if_p hf c_5
    refine x_iconst (v := 0) hc rfl dX2_lengthAt_17 ?_
    cases hf
    exact x_iret hc rfl ho dX2_lengthAt_18
  · replace hf := if_n hf c_5
    refine x_aload_n hc 0 dX2_lengthAt_8 rfl rfl ?_
    refine x_getR (T := TX2) (p0 := o) hc in_X2 rfl (by decide) (kdb k_o) 2 (by decide) tw_68 rfl rfl dX2_lengthAt_9 ?_
    refine x_iload_n hc 1 dX2_lengthAt_12 rfl rfl ?_
    obtain ⟨h3, hf⟩ := chk_ok hf
    refine x_iaload (p0 := o + 3) hc (sh_X2_length (kdb k_o)).1 (sh_X2_length (kdb k_o)).2 h3 dX2_lengthAt_13 ?_
    refine x_goto (tgt := 18) hc dX2_lengthAt_14 rfl ?_
    cases hf
    exact x_iret hc rfl ho dX2_lengthAt_18
def f_X4_begin_l19_4 (o : Nat) : Nat → Int32 → G_ → Option (G_)
  | 0, _, _ => none
  | n4 + 1, v2, G3 =>
    if 40 ≤ v2 then (
      some (G3))
    else (
      chk (inb v2 40) <|
      nm (sI G3 (o + 1) (ix v2) 0) fun G6 =>
      f_X4_begin_l19_4 o n4 (v2 + 1) G6)
def f_X4_begin (o : Nat) (a1 : Int32) (G : G_) : Option G_ :=
  chk (kd o == 4) <|
  nm (sI G o 1 (mx 0 (mn a1 40))) fun G1 =>
  bj1 (f_X4_begin_l19_4 o FU 0 G1) fun G7 =>
  some G7
set_option maxHeartbeats 4000000 in
set_option maxRecDepth 100000 in
theorem c_X4_begin_l19_4 {K : CT} (o : Nat) (hc : Ok K cX4_begin RX4 (Cond.code yX4_begin cX4_begin 3 none :: TB) none 1 21 3) (k_o : (kd o == 4) = true) : ∀ (n4 : Nat) (v2 : Int32) (G3 : G_) (G7 : G_), f_X4_begin_l19_4 o n4 v2 G3 = some (G7) → X K 41 [] [] G7 → X K 19 [(0, .ref (kad K o)), (2, .int v2)] [] G3 := by
  intro n4
  induction n4 with
  | zero =>
    intro v2 G3 G7 hf hk
    cases hf
  | succ n4 ih =>
    intro v2 G3 G7 hf hk
    unfold f_X4_begin_l19_4 at hf
    refine x_iload_n hc 1 dX4_begin_19 rfl rfl ?_
    refine x_aload_n hc 0 dX4_begin_20 rfl rfl ?_
    refine x_getR (T := TX4) (p0 := o) hc in_X4 rfl (by decide) (kdb k_o) 0 (by decide) tw_218 rfl rfl dX4_begin_21 ?_
    refine x_alenI (p0 := o + 1) (v := 40) hc (sh_X4_place (kdb k_o)).1 (by decide) (by decide) (sh_X4_place (kdb k_o)).2 rfl dX4_begin_24 ?_
    refine x_icmp_ge (tgt := 41) hc dX4_begin_25 rfl (fun c_25 => ?_) (fun c_25 => ?_)
    · replace hf := if_p hf c_25
      cases hf
      exact x_sub [] hk rfl
    · replace hf := if_n hf c_25
      refine x_aload_n hc 0 dX4_begin_28 rfl rfl ?_
      refine x_getR (T := TX4) (p0 := o) hc in_X4 rfl (by decide) (kdb k_o) 0 (by decide) tw_218 rfl rfl dX4_begin_29 ?_
      refine x_iload_n hc 1 dX4_begin_32 rfl rfl ?_
      refine x_iconst (v := 0) hc rfl dX4_begin_33 ?_
      obtain ⟨h5, hf⟩ := chk_ok hf
      refine x_iastore (p0 := o + 1) hc (sh_X4_place (kdb k_o)).1 (sh_X4_place (kdb k_o)).2 h5 dX4_begin_34 ?_
      refine x_nmg (fun G6 e_G6 => ?_)
      replace hf := nm_ok hf G6 e_G6
      refine x_iinc (v := v2 + 1) (L' := [(0, .ref (kad K o)), (2, .int (v2 + 1))]) hc 1 [1, 0] dX4_begin_35 rfl rfl (by decide) rfl ?_
      refine x_goto (tgt := 19) hc dX4_begin_38 rfl ?_
      exact x_sub [0, 1] (ih _ _ _ hf hk) rfl
set_option maxHeartbeats 4000000 in
set_option maxRecDepth 100000 in
theorem c_X4_begin (l : Launch) (V : VT) (o : Nat) (a1 : Int32) (G : G_) (G' : G_) (hf : f_X4_begin o a1 G = some G') : MC l V yX4_begin cX4_begin 3 none 1 21 [.ref (V.2.2.1 o), .int a1] G none G' := by
  refine mc_of (by decide) (Nat.le_of_ble_eq_true rfl) (fun K hV ho hc hkl => ?_)
  subst hV
  replace hc : Ok K cX4_begin RX4 (Cond.code yX4_begin cX4_begin 3 none :: TB) none 1 21 3 := hc
  replace ho : Rets K none G' := ho
  show X K 0 [(0, .ref (kad K o)), (1, .int a1)] [] G
  unfold f_X4_begin at hf
  obtain ⟨k_o, hf⟩ := chk_ok hf
  refine x_aload_n hc 0 dX4_begin_0 rfl rfl ?_
  refine x_iconst (v := 0) hc rfl dX4_begin_1 ?_
  refine x_iload_n hc 1 dX4_begin_2 rfl rfl ?_
  refine x_aload_n hc 0 dX4_begin_3 rfl rfl ?_
  refine x_getR (T := TX4) (p0 := o) hc in_X4 rfl (by decide) (kdb k_o) 0 (by decide) tw_218 rfl rfl dX4_begin_4 ?_
  refine x_alenI (p0 := o + 1) (v := 40) hc (sh_X4_place (kdb k_o)).1 (by decide) (by decide) (sh_X4_place (kdb k_o)).2 rfl dX4_begin_7 ?_
  refine x_mmin hc tw_509 tw_391 tw_36 tw_392 (Nat.le_of_ble_eq_true rfl) (Nat.le_of_ble_eq_true rfl) dX4_begin_8 ?_
  refine x_mmax hc tw_510 tw_394 tw_36 tw_395 (Nat.le_of_ble_eq_true rfl) (Nat.le_of_ble_eq_true rfl) dX4_begin_11 ?_
  refine x_putI (T := TX4) (p0 := o) hc tyX4 tyX4_ok nmX4 in_X4 rfl (by decide) (kdb k_o) 1 (by decide) tw_219 rfl rfl rfl (by decide +kernel) dX4_begin_14 ?_
  refine x_nmg (fun G1 e_G1 => ?_)
  replace hf := nm_ok hf G1 e_G1
  refine x_iconst (v := 0) hc rfl dX4_begin_17 ?_
  refine x_istore_n (L' := [(0, .ref (kad K o)), (2, .int 0)]) hc [1, 0] dX4_begin_18 rfl (by decide) rfl ?_
  obtain ⟨G7, hl_19, hf⟩ := bj1_ok hf
  have he_41_n4 : X K 41 [] [] G7 := by
    clear hl_19
    cases hf
    exact x_vret hc rfl ho dX4_begin_41
  exact x_sub [0, 1] (c_X4_begin_l19_4 o hc k_o FU 0 G1 G7 hl_19 he_41_n4) rfl
def f_X4_value (o : Nat) (a1 : Int32) (G : G_) : Option Int32 :=
  chk (kd o == 4) <|
  bj1 (f_X4_has o a1 G) fun x1 =>
  if x1 = 0 then (
    some 0)
  else (
    chk (inb a1 40) <|
    some (G.1 (o + 1) (ix a1)))
set_option maxHeartbeats 4000000 in
set_option maxRecDepth 100000 in
theorem c_X4_value (l : Launch) (V : VT) (o : Nat) (a1 : Int32) (G : G_) (r : Int32) (hf : f_X4_value o a1 G = some r) : MC l V yX4_value cX4_value 2 (some .int) 1 21 [.ref (V.2.2.1 o), .int a1] G (some (.int r)) G := by
  refine mc_of (by decide) (Nat.le_of_ble_eq_true rfl) (fun K hV ho hc hkl => ?_)
  subst hV
  replace hc : Ok K cX4_value RX4 (Cond.code yX4_value cX4_value 2 (some .int) :: TB) (some .int) 1 21 2 := hc
  replace ho : Rets K (some (.int r)) G := ho
  show X K 0 [(0, .ref (kad K o)), (1, .int a1)] [] G
  unfold f_X4_value at hf
  obtain ⟨k_o, hf⟩ := chk_ok hf
  refine x_aload_n hc 0 dX4_value_0 rfl rfl ?_
  refine x_iload_n hc 1 dX4_value_1 rfl rfl ?_
  obtain ⟨x1, r2, hf⟩ := bj1_ok hf
  refine x_callVr (As := [.int a1]) (p0 := o) (v := (.int x1)) (T := TX4) hc (c_X4_has (kl K) (kV K) o a1 G x1 r2) mw_X4_has tw_519 (kdb k_o) (by decide) rfl rfl (Nat.le_of_ble_eq_true rfl) ⟨Nat.le_of_ble_eq_true rfl, Nat.le_of_ble_eq_true rfl⟩ dX4_value_2 rfl ?_
  refine x_if_eq (tgt := 17) hc dX4_value_5 rfl (fun c_5 => ?_) (fun c_5 => ?_)
  · replace hf := if_p hf c_5
    refine x_iconst (v := 0) hc rfl dX4_value_17 ?_
    cases hf
    exact x_iret hc rfl ho dX4_value_18
  · replace hf := if_n hf c_5
    refine x_aload_n hc 0 dX4_value_8 rfl rfl ?_
    refine x_getR (T := TX4) (p0 := o) hc in_X4 rfl (by decide) (kdb k_o) 0 (by decide) tw_218 rfl rfl dX4_value_9 ?_
    refine x_iload_n hc 1 dX4_value_12 rfl rfl ?_
    obtain ⟨h3, hf⟩ := chk_ok hf
    refine x_iaload (p0 := o + 1) hc (sh_X4_place (kdb k_o)).1 (sh_X4_place (kdb k_o)).2 h3 dX4_value_13 ?_
    refine x_goto (tgt := 18) hc dX4_value_14 rfl ?_
    cases hf
    exact x_iret hc rfl ho dX4_value_18
def f_X4_set (o : Nat) (a1 : Int32) (a2 : Int32) (G : G_) : Option G_ :=
  chk (kd o == 4) <|
  bj1 (f_X4_has o a1 G) fun x1 =>
  if x1 = 0 then (
    some G)
  else (
    chk (inb a1 40) <|
    nm (sI G (o + 1) (ix a1) a2) fun G4 =>
    some G4)
set_option maxHeartbeats 4000000 in
set_option maxRecDepth 100000 in
theorem c_X4_set (l : Launch) (V : VT) (o : Nat) (a1 : Int32) (a2 : Int32) (G : G_) (G' : G_) (hf : f_X4_set o a1 a2 G = some G') : MC l V yX4_set cX4_set 3 none 1 21 [.ref (V.2.2.1 o), .int a1, .int a2] G none G' := by
  refine mc_of (by decide) (Nat.le_of_ble_eq_true rfl) (fun K hV ho hc hkl => ?_)
  subst hV
  replace hc : Ok K cX4_set RX4 (Cond.code yX4_set cX4_set 3 none :: TB) none 1 21 3 := hc
  replace ho : Rets K none G' := ho
  show X K 0 [(0, .ref (kad K o)), (1, .int a1), (2, .int a2)] [] G
  unfold f_X4_set at hf
  obtain ⟨k_o, hf⟩ := chk_ok hf
  refine x_aload_n hc 0 dX4_set_0 rfl rfl ?_
  refine x_iload_n hc 1 dX4_set_1 rfl rfl ?_
  obtain ⟨x1, r2, hf⟩ := bj1_ok hf
  refine x_callVr (As := [.int a1]) (p0 := o) (v := (.int x1)) (T := TX4) hc (c_X4_has (kl K) (kV K) o a1 G x1 r2) mw_X4_has tw_519 (kdb k_o) (by decide) rfl rfl (Nat.le_of_ble_eq_true rfl) ⟨Nat.le_of_ble_eq_true rfl, Nat.le_of_ble_eq_true rfl⟩ dX4_set_2 rfl ?_
  refine x_if_eq (tgt := 15) hc dX4_set_5 rfl (fun c_5 => ?_) (fun c_5 => ?_)
  · replace hf := if_p hf c_5
    cases hf
    exact x_vret hc rfl ho dX4_set_15
  · replace hf := if_n hf c_5
    refine x_aload_n hc 0 dX4_set_8 rfl rfl ?_
    refine x_getR (T := TX4) (p0 := o) hc in_X4 rfl (by decide) (kdb k_o) 0 (by decide) tw_218 rfl rfl dX4_set_9 ?_
    refine x_iload_n hc 1 dX4_set_12 rfl rfl ?_
    refine x_iload_n hc 2 dX4_set_13 rfl rfl ?_
    obtain ⟨h3, hf⟩ := chk_ok hf
    refine x_iastore (p0 := o + 1) hc (sh_X4_place (kdb k_o)).1 (sh_X4_place (kdb k_o)).2 h3 dX4_set_14 ?_
    refine x_nmg (fun G4 e_G4 => ?_)
    replace hf := nm_ok hf G4 e_G4
    cases hf
    exact x_vret hc rfl ho dX4_set_15
def f_X5_digestOn_l20_3 (o : Nat) (G : G_) : Nat → Int64 → Int32 → Option (Int64)
  | 0, _, _ => none
  | n3 + 1, v1, v2 =>
    if 3 < v2 then (
      some (v1))
    else (
      bj1 (f_X5_tells o v2 G) fun x4 =>
      f_X5_digestOn_l20_3 o G n3 ((31 * v1) + x4.toInt64) (v2 + 1))
def f_X5_digestOn (o : Nat) (a1 : Int64) (G : G_) : Option Int64 :=
  chk (kd o == 5) <|
  if G.1 o 0 = 0 then (
    some ((31 * a1) - 1))
  else (
    bj1 (f_X5_digestOn_l20_3 o G FU a1 0) fun w6 =>
    some w6)
set_option maxHeartbeats 4000000 in
set_option maxRecDepth 100000 in
theorem c_X5_digestOn_l20_3 {K : CT} (o : Nat) (G : G_) (hc : Ok K cX5_digestOn RX5 (Cond.code yX5_digestOn cX5_digestOn 6 (some .long) :: TB) (some .long) 1 21 6) (k_o : (kd o == 5) = true) : ∀ (n3 : Nat) (v1 : Int64) (v2 : Int32) (w6 : Int64), f_X5_digestOn_l20_3 o G n3 v1 v2 = some (w6) → X K 46 [(3, .long w6)] [] G → X K 20 [(0, .ref (kad K o)), (3, .long v1), (5, .int v2)] [] G := by
  intro n3
  induction n3 with
  | zero =>
    intro v1 v2 w6 hf hk
    cases hf
  | succ n3 ih =>
    intro v1 v2 w6 hf hk
    unfold f_X5_digestOn_l20_3 at hf
    refine x_iload hc 2 dX5_digestOn_20 rfl ?_
    refine x_iconst (v := 3) hc rfl dX5_digestOn_22 ?_
    refine x_icmp_gt (tgt := 46) hc dX5_digestOn_23 rfl (fun c_23 => ?_) (fun c_23 => ?_)
    · replace hf := if_p hf c_23
      cases hf
      exact x_sub [1] hk rfl
    · replace hf := if_n hf c_23
      refine x_ldc2 (v := 31) hc dX5_digestOn_26 tw_654 ?_
      refine x_lload_n hc 1 dX5_digestOn_29 rfl rfl ?_
      refine x_lmul hc dX5_digestOn_30 ?_
      refine x_aload_n hc 0 dX5_digestOn_31 rfl rfl ?_
      refine x_iload hc 2 dX5_digestOn_32 rfl ?_
      obtain ⟨x4, r5, hf⟩ := bj1_ok hf
      refine x_callVr (As := [.int v2]) (p0 := o) (v := (.int x4)) (T := TX5) hc (c_X5_tells (kl K) (kV K) o v2 G x4 r5) mw_X5_tells tw_655 (kdb k_o) (by decide) rfl rfl (Nat.le_of_ble_eq_true rfl) ⟨Nat.le_of_ble_eq_true rfl, Nat.le_of_ble_eq_true rfl⟩ dX5_digestOn_34 rfl ?_
      refine x_i2l hc dX5_digestOn_37 ?_
      refine x_ladd hc dX5_digestOn_38 ?_
      refine x_lstore_n (L' := [(0, .ref (kad K o)), (3, .long ((31 * v1) + x4.toInt64)), (5, .int v2)]) hc [1, 0, 2] dX5_digestOn_39 rfl (by decide) rfl ?_
      refine x_iinc (v := v2 + 1) (L' := [(0, .ref (kad K o)), (3, .long ((31 * v1) + x4.toInt64)), (5, .int (v2 + 1))]) hc 2 [1, 2, 0] dX5_digestOn_40 rfl rfl (by decide) rfl ?_
      refine x_goto (tgt := 20) hc dX5_digestOn_43 rfl ?_
      exact x_sub [0, 1, 2] (ih _ _ _ hf hk) rfl
set_option maxHeartbeats 4000000 in
set_option maxRecDepth 100000 in
theorem c_X5_digestOn (l : Launch) (V : VT) (o : Nat) (a1 : Int64) (G : G_) (r : Int64) (hf : f_X5_digestOn o a1 G = some r) : MC l V yX5_digestOn cX5_digestOn 6 (some .long) 1 21 [.ref (V.2.2.1 o), .long a1] G (some (.long r)) G := by
  refine mc_of (by decide) (Nat.le_of_ble_eq_true rfl) (fun K hV ho hc hkl => ?_)
  subst hV
  replace hc : Ok K cX5_digestOn RX5 (Cond.code yX5_digestOn cX5_digestOn 6 (some .long) :: TB) (some .long) 1 21 6 := hc
  replace ho : Rets K (some (.long r)) G := ho
  show X K 0 [(0, .ref (kad K o)), (1, .long a1)] [] G
  unfold f_X5_digestOn at hf
  obtain ⟨k_o, hf⟩ := chk_ok hf
  refine x_aload_n hc 0 dX5_digestOn_0 rfl rfl ?_
  refine x_getI (T := TX5) (p0 := o) hc in_X5 rfl (by decide) (kdb k_o) 0 (by decide) tw_168 rfl rfl dX5_digestOn_1 ?_
  refine x_if_ne (tgt := 15) hc dX5_digestOn_4 rfl (fun c_4 => ?_) (fun c_4 => ?_)
  · replace hf := if_n hf c_4
    refine x_lload_n hc 1 dX5_digestOn_15 rfl rfl ?_
    refine x_lstore_n (L' := [(0, .ref (kad K o)), (3, .long a1)]) hc [1, 0] dX5_digestOn_16 rfl (by decide) rfl ?_
    refine x_iconst (v := 0) hc rfl dX5_digestOn_17 ?_
    refine x_istore (L' := [(0, .ref (kad K o)), (3, .long a1), (5, .int 0)]) hc [1, 2, 0] dX5_digestOn_18 (by decide) rfl ?_
    obtain ⟨w6, hl_20, hf⟩ := bj1_ok hf
    have he_46_n3 : X K 46 [(3, .long w6)] [] G := by
      clear hl_20
      refine x_lload_n hc 0 dX5_digestOn_46 rfl rfl ?_
      cases hf
      exact x_lret hc rfl ho dX5_digestOn_47
    exact x_sub [0, 1, 2] (c_X5_digestOn_l20_3 o G hc k_o FU a1 0 w6 hl_20 he_46_n3) rfl
  · replace hf := if_p hf c_4
    refine x_ldc2 (v := 31) hc dX5_digestOn_7 tw_654 ?_
    refine x_lload_n hc 1 dX5_digestOn_10 rfl rfl ?_
    refine x_lmul hc dX5_digestOn_11 ?_
    refine x_lconst (v := 1) hc rfl dX5_digestOn_12 ?_
    refine x_lsub hc dX5_digestOn_13 ?_
    cases hf
    exact x_lret hc rfl ho dX5_digestOn_14
def f_X6_begin_l19_4 (o : Nat) : Nat → Int32 → G_ → Option (G_)
  | 0, _, _ => none
  | n4 + 1, v2, G3 =>
    if 80 ≤ v2 then (
      some (G3))
    else (
      chk (inb v2 80) <|
      nm (sI G3 (o + 1) (ix v2) ((32 : Int32).toInt8.toInt32)) fun G6 =>
      f_X6_begin_l19_4 o n4 (v2 + 1) G6)
def f_X6_begin (o : Nat) (a1 : Int32) (G : G_) : Option G_ :=
  chk (kd o == 6) <|
  nm (sI G o 1 (mx 0 (mn a1 80))) fun G1 =>
  bj1 (f_X6_begin_l19_4 o FU 0 G1) fun G7 =>
  some G7
set_option maxHeartbeats 4000000 in
set_option maxRecDepth 100000 in
theorem c_X6_begin_l19_4 {K : CT} (o : Nat) (hc : Ok K cX6_begin RX6 (Cond.code yX6_begin cX6_begin 3 none :: TB) none 1 21 3) (k_o : (kd o == 6) = true) : ∀ (n4 : Nat) (v2 : Int32) (G3 : G_) (G7 : G_), f_X6_begin_l19_4 o n4 v2 G3 = some (G7) → X K 42 [] [] G7 → X K 19 [(0, .ref (kad K o)), (2, .int v2)] [] G3 := by
  intro n4
  induction n4 with
  | zero =>
    intro v2 G3 G7 hf hk
    cases hf
  | succ n4 ih =>
    intro v2 G3 G7 hf hk
    unfold f_X6_begin_l19_4 at hf
    refine x_iload_n hc 1 dX6_begin_19 rfl rfl ?_
    refine x_aload_n hc 0 dX6_begin_20 rfl rfl ?_
    refine x_getR (T := TX6) (p0 := o) hc in_X6 rfl (by decide) (kdb k_o) 0 (by decide) tw_231 rfl rfl dX6_begin_21 ?_
    refine x_alenI (p0 := o + 1) (v := 80) hc (sh_X6_sign (kdb k_o)).1 (by decide) (by decide) (sh_X6_sign (kdb k_o)).2 rfl dX6_begin_24 ?_
    refine x_icmp_ge (tgt := 42) hc dX6_begin_25 rfl (fun c_25 => ?_) (fun c_25 => ?_)
    · replace hf := if_p hf c_25
      cases hf
      exact x_sub [] hk rfl
    · replace hf := if_n hf c_25
      refine x_aload_n hc 0 dX6_begin_28 rfl rfl ?_
      refine x_getR (T := TX6) (p0 := o) hc in_X6 rfl (by decide) (kdb k_o) 0 (by decide) tw_231 rfl rfl dX6_begin_29 ?_
      refine x_iload_n hc 1 dX6_begin_32 rfl rfl ?_
      refine x_bipush (v := 32) hc rfl dX6_begin_33 ?_
      obtain ⟨h5, hf⟩ := chk_ok hf
      refine x_bastore (p0 := o + 1) hc (sh_X6_sign (kdb k_o)).1 (sh_X6_sign (kdb k_o)).2 h5 dX6_begin_35 ?_
      refine x_nmg (fun G6 e_G6 => ?_)
      replace hf := nm_ok hf G6 e_G6
      refine x_iinc (v := v2 + 1) (L' := [(0, .ref (kad K o)), (2, .int (v2 + 1))]) hc 1 [1, 0] dX6_begin_36 rfl rfl (by decide) rfl ?_
      refine x_goto (tgt := 19) hc dX6_begin_39 rfl ?_
      exact x_sub [0, 1] (ih _ _ _ hf hk) rfl
set_option maxHeartbeats 4000000 in
set_option maxRecDepth 100000 in
theorem c_X6_begin (l : Launch) (V : VT) (o : Nat) (a1 : Int32) (G : G_) (G' : G_) (hf : f_X6_begin o a1 G = some G') : MC l V yX6_begin cX6_begin 3 none 1 21 [.ref (V.2.2.1 o), .int a1] G none G' := by
  refine mc_of (by decide) (Nat.le_of_ble_eq_true rfl) (fun K hV ho hc hkl => ?_)
  subst hV
  replace hc : Ok K cX6_begin RX6 (Cond.code yX6_begin cX6_begin 3 none :: TB) none 1 21 3 := hc
  replace ho : Rets K none G' := ho
  show X K 0 [(0, .ref (kad K o)), (1, .int a1)] [] G
  unfold f_X6_begin at hf
  obtain ⟨k_o, hf⟩ := chk_ok hf
  refine x_aload_n hc 0 dX6_begin_0 rfl rfl ?_
  refine x_iconst (v := 0) hc rfl dX6_begin_1 ?_
  refine x_iload_n hc 1 dX6_begin_2 rfl rfl ?_
  refine x_aload_n hc 0 dX6_begin_3 rfl rfl ?_
  refine x_getR (T := TX6) (p0 := o) hc in_X6 rfl (by decide) (kdb k_o) 0 (by decide) tw_231 rfl rfl dX6_begin_4 ?_
  refine x_alenI (p0 := o + 1) (v := 80) hc (sh_X6_sign (kdb k_o)).1 (by decide) (by decide) (sh_X6_sign (kdb k_o)).2 rfl dX6_begin_7 ?_
  refine x_mmin hc tw_705 tw_391 tw_36 tw_392 (Nat.le_of_ble_eq_true rfl) (Nat.le_of_ble_eq_true rfl) dX6_begin_8 ?_
  refine x_mmax hc tw_706 tw_394 tw_36 tw_395 (Nat.le_of_ble_eq_true rfl) (Nat.le_of_ble_eq_true rfl) dX6_begin_11 ?_
  refine x_putI (T := TX6) (p0 := o) hc tyX6 tyX6_ok nmX6 in_X6 rfl (by decide) (kdb k_o) 1 (by decide) tw_232 rfl rfl rfl (by decide +kernel) dX6_begin_14 ?_
  refine x_nmg (fun G1 e_G1 => ?_)
  replace hf := nm_ok hf G1 e_G1
  refine x_iconst (v := 0) hc rfl dX6_begin_17 ?_
  refine x_istore_n (L' := [(0, .ref (kad K o)), (2, .int 0)]) hc [1, 0] dX6_begin_18 rfl (by decide) rfl ?_
  obtain ⟨G7, hl_19, hf⟩ := bj1_ok hf
  have he_42_n4 : X K 42 [] [] G7 := by
    clear hl_19
    cases hf
    exact x_vret hc rfl ho dX6_begin_42
  exact x_sub [0, 1] (c_X6_begin_l19_4 o hc k_o FU 0 G1 G7 hl_19 he_42_n4) rfl
def f_X6_value (o : Nat) (a1 : Int32) (G : G_) : Option Int32 :=
  chk (kd o == 6) <|
  bj1 (f_X6_has o a1 G) fun x1 =>
  if x1 = 0 then (
    some 1000)
  else (
    chk (inb a1 80) <|
    some (G.1 (o + 1) (ix a1)))
set_option maxHeartbeats 4000000 in
set_option maxRecDepth 100000 in
theorem c_X6_value (l : Launch) (V : VT) (o : Nat) (a1 : Int32) (G : G_) (r : Int32) (hf : f_X6_value o a1 G = some r) : MC l V yX6_value cX6_value 2 (some .int) 1 21 [.ref (V.2.2.1 o), .int a1] G (some (.int r)) G := by
  refine mc_of (by decide) (Nat.le_of_ble_eq_true rfl) (fun K hV ho hc hkl => ?_)
  subst hV
  replace hc : Ok K cX6_value RX6 (Cond.code yX6_value cX6_value 2 (some .int) :: TB) (some .int) 1 21 2 := hc
  replace ho : Rets K (some (.int r)) G := ho
  show X K 0 [(0, .ref (kad K o)), (1, .int a1)] [] G
  unfold f_X6_value at hf
  obtain ⟨k_o, hf⟩ := chk_ok hf
  refine x_aload_n hc 0 dX6_value_0 rfl rfl ?_
  refine x_iload_n hc 1 dX6_value_1 rfl rfl ?_
  obtain ⟨x1, r2, hf⟩ := bj1_ok hf
  refine x_callVr (As := [.int a1]) (p0 := o) (v := (.int x1)) (T := TX6) hc (c_X6_has (kl K) (kV K) o a1 G x1 r2) mw_X6_has tw_334 (kdb k_o) (by decide) rfl rfl (Nat.le_of_ble_eq_true rfl) ⟨Nat.le_of_ble_eq_true rfl, Nat.le_of_ble_eq_true rfl⟩ dX6_value_2 rfl ?_
  refine x_if_eq (tgt := 17) hc dX6_value_5 rfl (fun c_5 => ?_) (fun c_5 => ?_)
  · replace hf := if_p hf c_5
    refine x_sipush (v := 1000) hc rfl dX6_value_17 ?_
    cases hf
    exact x_iret hc rfl ho dX6_value_20
  · replace hf := if_n hf c_5
    refine x_aload_n hc 0 dX6_value_8 rfl rfl ?_
    refine x_getR (T := TX6) (p0 := o) hc in_X6 rfl (by decide) (kdb k_o) 0 (by decide) tw_231 rfl rfl dX6_value_9 ?_
    refine x_iload_n hc 1 dX6_value_12 rfl rfl ?_
    obtain ⟨h3, hf⟩ := chk_ok hf
    refine x_baload (p0 := o + 1) hc (sh_X6_sign (kdb k_o)).1 (sh_X6_sign (kdb k_o)).2 h3 dX6_value_13 ?_
    refine x_goto (tgt := 20) hc dX6_value_14 rfl ?_
    cases hf
    exact x_iret hc rfl ho dX6_value_20
def f_X6_set (o : Nat) (a1 : Int32) (a2 : Int32) (G : G_) : Option G_ :=
  chk (kd o == 6) <|
  bj1 (f_X6_has o a1 G) fun x1 =>
  if x1 = 0 then (
    some G)
  else (
    chk (inb a1 80) <|
    nm (sI G (o + 1) (ix a1) a2.toInt8.toInt32) fun G4 =>
    some G4)
set_option maxHeartbeats 4000000 in
set_option maxRecDepth 100000 in
theorem c_X6_set (l : Launch) (V : VT) (o : Nat) (a1 : Int32) (a2 : Int32) (G : G_) (G' : G_) (hf : f_X6_set o a1 a2 G = some G') : MC l V yX6_set cX6_set 3 none 1 21 [.ref (V.2.2.1 o), .int a1, .int a2] G none G' := by
  refine mc_of (by decide) (Nat.le_of_ble_eq_true rfl) (fun K hV ho hc hkl => ?_)
  subst hV
  replace hc : Ok K cX6_set RX6 (Cond.code yX6_set cX6_set 3 none :: TB) none 1 21 3 := hc
  replace ho : Rets K none G' := ho
  show X K 0 [(0, .ref (kad K o)), (1, .int a1), (2, .int a2)] [] G
  unfold f_X6_set at hf
  obtain ⟨k_o, hf⟩ := chk_ok hf
  refine x_aload_n hc 0 dX6_set_0 rfl rfl ?_
  refine x_iload_n hc 1 dX6_set_1 rfl rfl ?_
  obtain ⟨x1, r2, hf⟩ := bj1_ok hf
  refine x_callVr (As := [.int a1]) (p0 := o) (v := (.int x1)) (T := TX6) hc (c_X6_has (kl K) (kV K) o a1 G x1 r2) mw_X6_has tw_334 (kdb k_o) (by decide) rfl rfl (Nat.le_of_ble_eq_true rfl) ⟨Nat.le_of_ble_eq_true rfl, Nat.le_of_ble_eq_true rfl⟩ dX6_set_2 rfl ?_
  refine x_if_eq (tgt := 15) hc dX6_set_5 rfl (fun c_5 => ?_) (fun c_5 => ?_)
  · replace hf := if_p hf c_5
    cases hf
    exact x_vret hc rfl ho dX6_set_15
  · replace hf := if_n hf c_5
    refine x_aload_n hc 0 dX6_set_8 rfl rfl ?_
    refine x_getR (T := TX6) (p0 := o) hc in_X6 rfl (by decide) (kdb k_o) 0 (by decide) tw_231 rfl rfl dX6_set_9 ?_
    refine x_iload_n hc 1 dX6_set_12 rfl rfl ?_
    refine x_iload_n hc 2 dX6_set_13 rfl rfl ?_
    obtain ⟨h3, hf⟩ := chk_ok hf
    refine x_bastore (p0 := o + 1) hc (sh_X6_sign (kdb k_o)).1 (sh_X6_sign (kdb k_o)).2 h3 dX6_set_14 ?_
    refine x_nmg (fun G4 e_G4 => ?_)
    replace hf := nm_ok hf G4 e_G4
    cases hf
    exact x_vret hc rfl ho dX6_set_15
def f_X2_become_l6_5 (o : Nat) (a1 : Nat) : Nat → Int32 → G_ → Option (G_)
  | 0, _, _ => none
  | n5 + 1, v3, G4 =>
    if G4.1 a1 4 ≤ v3 then (
      some (G4))
    else (
      bj1 (f_X2_kindAt a1 v3 G4) fun x6 =>
      bj1 (f_X2_heatAt a1 v3 G4) fun x8 =>
      bj1 (f_X2_lengthAt a1 v3 G4) fun x10 =>
      bj1 (f_X2_add o x6 x8 x10 G4) fun G12 =>
      f_X2_become_l6_5 o a1 n5 (v3 + 1) G12)
def f_X2_become (o : Nat) (a1 : Nat) (G : G_) : Option G_ :=
  chk (kd o == 2) <|
  chk (kd a1 == 2) <|
  bj1 (f_X2_begin o G) fun G1 =>
  bj1 (f_X2_become_l6_5 o a1 FU 0 G1) fun G14 =>
  some G14
set_option maxHeartbeats 4000000 in
set_option maxRecDepth 100000 in
theorem c_X2_become_l6_5 {K : CT} (o : Nat) (a1 : Nat) (hc : Ok K cX2_become RX2 (Cond.code yX2_become cX2_become 3 none :: TB) none 2 42 3) (k_a1 : (kd a1 == 2) = true) (k_o : (kd o == 2) = true) : ∀ (n5 : Nat) (v3 : Int32) (G4 : G_) (G14 : G_), f_X2_become_l6_5 o a1 n5 v3 G4 = some (G14) → X K 39 [] [] G14 → X K 6 [(0, .ref (kad K o)), (1, .ref (kad K a1)), (2, .int v3)] [] G4 := by
  intro n5
  induction n5 with
  | zero =>
    intro v3 G4 G14 hf hk
    cases hf
  | succ n5 ih =>
    intro v3 G4 G14 hf hk
    unfold f_X2_become_l6_5 at hf
    refine x_iload_n hc 2 dX2_become_6 rfl rfl ?_
    refine x_aload_n hc 1 dX2_become_7 rfl rfl ?_
    refine x_getI (T := TX2) (p0 := a1) hc in_X2 rfl (by decide) (kdb k_a1) 4 (by decide) tw_71 rfl rfl dX2_become_8 ?_
    refine x_icmp_ge (tgt := 39) hc dX2_become_11 rfl (fun c_11 => ?_) (fun c_11 => ?_)
    · replace hf := if_p hf c_11
      cases hf
      exact x_sub [] hk rfl
    · replace hf := if_n hf c_11
      refine x_aload_n hc 0 dX2_become_14 rfl rfl ?_
      refine x_aload_n hc 1 dX2_become_15 rfl rfl ?_
      refine x_iload_n hc 2 dX2_become_16 rfl rfl ?_
      obtain ⟨x6, r7, hf⟩ := bj1_ok hf
      refine x_callVr (As := [.int v3]) (p0 := a1) (v := (.int x6)) (T := TX2) hc (c_X2_kindAt (kl K) (kV K) a1 v3 G4 x6 r7) mw_X2_kindAt tw_361 (kdb k_a1) (by decide) rfl rfl (Nat.le_of_ble_eq_true rfl) ⟨Nat.le_of_ble_eq_true rfl, Nat.le_of_ble_eq_true rfl⟩ dX2_become_17 rfl ?_
      refine x_aload_n hc 1 dX2_become_20 rfl rfl ?_
      refine x_iload_n hc 2 dX2_become_21 rfl rfl ?_
      obtain ⟨x8, r9, hf⟩ := bj1_ok hf
      refine x_callVr (As := [.int v3]) (p0 := a1) (v := (.int x8)) (T := TX2) hc (c_X2_heatAt (kl K) (kV K) a1 v3 G4 x8 r9) mw_X2_heatAt tw_369 (kdb k_a1) (by decide) rfl rfl (Nat.le_of_ble_eq_true rfl) ⟨Nat.le_of_ble_eq_true rfl, Nat.le_of_ble_eq_true rfl⟩ dX2_become_22 rfl ?_
      refine x_aload_n hc 1 dX2_become_25 rfl rfl ?_
      refine x_iload_n hc 2 dX2_become_26 rfl rfl ?_
      obtain ⟨x10, r11, hf⟩ := bj1_ok hf
      refine x_callVr (As := [.int v3]) (p0 := a1) (v := (.int x10)) (T := TX2) hc (c_X2_lengthAt (kl K) (kV K) a1 v3 G4 x10 r11) mw_X2_lengthAt tw_373 (kdb k_a1) (by decide) rfl rfl (Nat.le_of_ble_eq_true rfl) ⟨Nat.le_of_ble_eq_true rfl, Nat.le_of_ble_eq_true rfl⟩ dX2_become_27 rfl ?_
      obtain ⟨G12, r13, hf⟩ := bj1_ok hf
      refine x_callVv (As := [.int x6, .int x8, .int x10]) (p0 := o) (T := TX2) hc (c_X2_add (kl K) (kV K) o x6 x8 x10 G4 G12 r13) mw_X2_add tw_377 (kdb k_o) (by decide) rfl rfl (Nat.le_of_ble_eq_true rfl) ⟨Nat.le_of_ble_eq_true rfl, Nat.le_of_ble_eq_true rfl⟩ dX2_become_30 rfl ?_
      refine x_iinc (v := v3 + 1) (L' := [(0, .ref (kad K o)), (1, .ref (kad K a1)), (2, .int (v3 + 1))]) hc 2 [1, 2, 0] dX2_become_33 rfl rfl (by decide) rfl ?_
      refine x_goto (tgt := 6) hc dX2_become_36 rfl ?_
      exact x_sub [0, 1, 2] (ih _ _ _ hf hk) rfl
set_option maxHeartbeats 4000000 in
set_option maxRecDepth 100000 in
theorem c_X2_become (l : Launch) (V : VT) (o : Nat) (a1 : Nat) (G : G_) (G' : G_) (hf : f_X2_become o a1 G = some G') : MC l V yX2_become cX2_become 3 none 2 42 [.ref (V.2.2.1 o), .ref (V.2.2.1 a1)] G none G' := by
  refine mc_of (by decide) (Nat.le_of_ble_eq_true rfl) (fun K hV ho hc hkl => ?_)
  subst hV
  replace hc : Ok K cX2_become RX2 (Cond.code yX2_become cX2_become 3 none :: TB) none 2 42 3 := hc
  replace ho : Rets K none G' := ho
  show X K 0 [(0, .ref (kad K o)), (1, .ref (kad K a1))] [] G
  unfold f_X2_become at hf
  obtain ⟨k_o, hf⟩ := chk_ok hf
  obtain ⟨k_a1, hf⟩ := chk_ok hf
  refine x_aload_n hc 0 dX2_become_0 rfl rfl ?_
  obtain ⟨G1, r2, hf⟩ := bj1_ok hf
  refine x_callVv (As := []) (p0 := o) (T := TX2) hc (c_X2_begin (kl K) (kV K) o G G1 r2) mw_X2_begin tw_360 (kdb k_o) (by decide) rfl rfl (Nat.le_of_ble_eq_true rfl) ⟨Nat.le_of_ble_eq_true rfl, Nat.le_of_ble_eq_true rfl⟩ dX2_become_1 rfl ?_
  refine x_iconst (v := 0) hc rfl dX2_become_4 ?_
  refine x_istore_n (L' := [(0, .ref (kad K o)), (1, .ref (kad K a1)), (2, .int 0)]) hc [1, 2, 0] dX2_become_5 rfl (by decide) rfl ?_
  obtain ⟨G14, hl_6, hf⟩ := bj1_ok hf
  have he_39_n5 : X K 39 [] [] G14 := by
    clear hl_6
    cases hf
    exact x_vret hc rfl ho dX2_become_39
  exact x_sub [0, 1, 2] (c_X2_become_l6_5 o a1 hc k_a1 k_o FU 0 G1 G14 hl_6 he_39_n5) rfl
def f_X2_numbersAt (o : Nat) (a1 : Int32) (G : G_) : Option Int32 :=
  chk (kd o == 2) <|
  bj1 (f_X2_heatAt o a1 G) fun x1 =>
  bj1 (f_X2_lengthAt o a1 G) fun x3 =>
  some ((100 * x1) + x3)
set_option maxHeartbeats 4000000 in
set_option maxRecDepth 100000 in
theorem c_X2_numbersAt (l : Launch) (V : VT) (o : Nat) (a1 : Int32) (G : G_) (r : Int32) (hf : f_X2_numbersAt o a1 G = some r) : MC l V yX2_numbersAt cX2_numbersAt 2 (some .int) 2 42 [.ref (V.2.2.1 o), .int a1] G (some (.int r)) G := by
  refine mc_of (by decide) (Nat.le_of_ble_eq_true rfl) (fun K hV ho hc hkl => ?_)
  subst hV
  replace hc : Ok K cX2_numbersAt RX2 (Cond.code yX2_numbersAt cX2_numbersAt 2 (some .int) :: TB) (some .int) 2 42 2 := hc
  replace ho : Rets K (some (.int r)) G := ho
  show X K 0 [(0, .ref (kad K o)), (1, .int a1)] [] G
  unfold f_X2_numbersAt at hf
  obtain ⟨k_o, hf⟩ := chk_ok hf
  refine x_bipush (v := 100) hc rfl dX2_numbersAt_0 ?_
  refine x_aload_n hc 0 dX2_numbersAt_2 rfl rfl ?_
  refine x_iload_n hc 1 dX2_numbersAt_3 rfl rfl ?_
  obtain ⟨x1, r2, hf⟩ := bj1_ok hf
  refine x_callVr (As := [.int a1]) (p0 := o) (v := (.int x1)) (T := TX2) hc (c_X2_heatAt (kl K) (kV K) o a1 G x1 r2) mw_X2_heatAt tw_369 (kdb k_o) (by decide) rfl rfl (Nat.le_of_ble_eq_true rfl) ⟨Nat.le_of_ble_eq_true rfl, Nat.le_of_ble_eq_true rfl⟩ dX2_numbersAt_4 rfl ?_
  refine x_imul hc dX2_numbersAt_7 ?_
  refine x_aload_n hc 0 dX2_numbersAt_8 rfl rfl ?_
  refine x_iload_n hc 1 dX2_numbersAt_9 rfl rfl ?_
  obtain ⟨x3, r4, hf⟩ := bj1_ok hf
  refine x_callVr (As := [.int a1]) (p0 := o) (v := (.int x3)) (T := TX2) hc (c_X2_lengthAt (kl K) (kV K) o a1 G x3 r4) mw_X2_lengthAt tw_373 (kdb k_o) (by decide) rfl rfl (Nat.le_of_ble_eq_true rfl) ⟨Nat.le_of_ble_eq_true rfl, Nat.le_of_ble_eq_true rfl⟩ dX2_numbersAt_10 rfl ?_
  refine x_iadd hc dX2_numbersAt_13 ?_
  cases hf
  exact x_iret hc rfl ho dX2_numbersAt_14
def f_X4_digestOn_l15_3 (o : Nat) (G : G_) : Nat → Int64 → Int32 → Option (Int64)
  | 0, _, _ => none
  | n3 + 1, v1, v2 =>
    if G.1 o 1 ≤ v2 then (
      some (v1))
    else (
      bj1 (f_X4_value o v2 G) fun x4 =>
      f_X4_digestOn_l15_3 o G n3 ((31 * v1) + x4.toInt64) (v2 + 1))
def f_X4_digestOn (o : Nat) (a1 : Int64) (G : G_) : Option Int64 :=
  chk (kd o == 4) <|
  bj1 (f_X4_digestOn_l15_3 o G FU ((31 * a1) + ((G.1 o 1).toInt64)) 0) fun w6 =>
  some w6
set_option maxHeartbeats 4000000 in
set_option maxRecDepth 100000 in
theorem c_X4_digestOn_l15_3 {K : CT} (o : Nat) (G : G_) (hc : Ok K cX4_digestOn RX4 (Cond.code yX4_digestOn cX4_digestOn 6 (some .long) :: TB) (some .long) 2 42 6) (k_o : (kd o == 4) = true) : ∀ (n3 : Nat) (v1 : Int64) (v2 : Int32) (w6 : Int64), f_X4_digestOn_l15_3 o G n3 v1 v2 = some (w6) → X K 44 [(3, .long w6)] [] G → X K 15 [(0, .ref (kad K o)), (3, .long v1), (5, .int v2)] [] G := by
  intro n3
  induction n3 with
  | zero =>
    intro v1 v2 w6 hf hk
    cases hf
  | succ n3 ih =>
    intro v1 v2 w6 hf hk
    unfold f_X4_digestOn_l15_3 at hf
    refine x_iload hc 2 dX4_digestOn_15 rfl ?_
    refine x_aload_n hc 0 dX4_digestOn_17 rfl rfl ?_
    refine x_getI (T := TX4) (p0 := o) hc in_X4 rfl (by decide) (kdb k_o) 1 (by decide) tw_219 rfl rfl dX4_digestOn_18 ?_
    refine x_icmp_ge (tgt := 44) hc dX4_digestOn_21 rfl (fun c_21 => ?_) (fun c_21 => ?_)
    · replace hf := if_p hf c_21
      cases hf
      exact x_sub [1] hk rfl
    · replace hf := if_n hf c_21
      refine x_ldc2 (v := 31) hc dX4_digestOn_24 tw_679 ?_
      refine x_lload_n hc 1 dX4_digestOn_27 rfl rfl ?_
      refine x_lmul hc dX4_digestOn_28 ?_
      refine x_aload_n hc 0 dX4_digestOn_29 rfl rfl ?_
      refine x_iload hc 2 dX4_digestOn_30 rfl ?_
      obtain ⟨x4, r5, hf⟩ := bj1_ok hf
      refine x_callVr (As := [.int v2]) (p0 := o) (v := (.int x4)) (T := TX4) hc (c_X4_value (kl K) (kV K) o v2 G x4 r5) mw_X4_value tw_680 (kdb k_o) (by decide) rfl rfl (Nat.le_of_ble_eq_true rfl) ⟨Nat.le_of_ble_eq_true rfl, Nat.le_of_ble_eq_true rfl⟩ dX4_digestOn_32 rfl ?_
      refine x_i2l hc dX4_digestOn_35 ?_
      refine x_ladd hc dX4_digestOn_36 ?_
      refine x_lstore_n (L' := [(0, .ref (kad K o)), (3, .long ((31 * v1) + x4.toInt64)), (5, .int v2)]) hc [1, 0, 2] dX4_digestOn_37 rfl (by decide) rfl ?_
      refine x_iinc (v := v2 + 1) (L' := [(0, .ref (kad K o)), (3, .long ((31 * v1) + x4.toInt64)), (5, .int (v2 + 1))]) hc 2 [1, 2, 0] dX4_digestOn_38 rfl rfl (by decide) rfl ?_
      refine x_goto (tgt := 15) hc dX4_digestOn_41 rfl ?_
      exact x_sub [0, 1, 2] (ih _ _ _ hf hk) rfl
set_option maxHeartbeats 4000000 in
set_option maxRecDepth 100000 in
theorem c_X4_digestOn (l : Launch) (V : VT) (o : Nat) (a1 : Int64) (G : G_) (r : Int64) (hf : f_X4_digestOn o a1 G = some r) : MC l V yX4_digestOn cX4_digestOn 6 (some .long) 2 42 [.ref (V.2.2.1 o), .long a1] G (some (.long r)) G := by
  refine mc_of (by decide) (Nat.le_of_ble_eq_true rfl) (fun K hV ho hc hkl => ?_)
  subst hV
  replace hc : Ok K cX4_digestOn RX4 (Cond.code yX4_digestOn cX4_digestOn 6 (some .long) :: TB) (some .long) 2 42 6 := hc
  replace ho : Rets K (some (.long r)) G := ho
  show X K 0 [(0, .ref (kad K o)), (1, .long a1)] [] G
  unfold f_X4_digestOn at hf
  obtain ⟨k_o, hf⟩ := chk_ok hf
  refine x_ldc2 (v := 31) hc dX4_digestOn_0 tw_679 ?_
  refine x_lload_n hc 1 dX4_digestOn_3 rfl rfl ?_
  refine x_lmul hc dX4_digestOn_4 ?_
  refine x_aload_n hc 0 dX4_digestOn_5 rfl rfl ?_
  refine x_getI (T := TX4) (p0 := o) hc in_X4 rfl (by decide) (kdb k_o) 1 (by decide) tw_219 rfl rfl dX4_digestOn_6 ?_
  refine x_i2l hc dX4_digestOn_9 ?_
  refine x_ladd hc dX4_digestOn_10 ?_
  refine x_lstore_n (L' := [(0, .ref (kad K o)), (3, .long ((31 * a1) + ((G.1 o 1).toInt64)))]) hc [1, 0] dX4_digestOn_11 rfl (by decide) rfl ?_
  refine x_iconst (v := 0) hc rfl dX4_digestOn_12 ?_
  refine x_istore (L' := [(0, .ref (kad K o)), (3, .long ((31 * a1) + ((G.1 o 1).toInt64))), (5, .int 0)]) hc [1, 2, 0] dX4_digestOn_13 (by decide) rfl ?_
  obtain ⟨w6, hl_15, hf⟩ := bj1_ok hf
  have he_44_n3 : X K 44 [(3, .long w6)] [] G := by
    clear hl_15
    refine x_lload_n hc 0 dX4_digestOn_44 rfl rfl ?_
    cases hf
    exact x_lret hc rfl ho dX4_digestOn_45
  exact x_sub [0, 1, 2] (c_X4_digestOn_l15_3 o G hc k_o FU ((31 * a1) + ((G.1 o 1).toInt64)) 0 w6 hl_15 he_44_n3) rfl
def f_X6_digestOn_l15_3 (o : Nat) (G : G_) : Nat → Int64 → Int32 → Option (Int64)
  | 0, _, _ => none
  | n3 + 1, v1, v2 =>
    if G.1 o 1 ≤ v2 then (
      some (v1))
    else (
      bj1 (f_X6_value o v2 G) fun x4 =>
      f_X6_digestOn_l15_3 o G n3 ((31 * v1) + x4.toInt64) (v2 + 1))
def f_X6_digestOn (o : Nat) (a1 : Int64) (G : G_) : Option Int64 :=
  chk (kd o == 6) <|
  bj1 (f_X6_digestOn_l15_3 o G FU ((31 * a1) + ((G.1 o 1).toInt64)) 0) fun w6 =>
  some w6
set_option maxHeartbeats 4000000 in
set_option maxRecDepth 100000 in
theorem c_X6_digestOn_l15_3 {K : CT} (o : Nat) (G : G_) (hc : Ok K cX6_digestOn RX6 (Cond.code yX6_digestOn cX6_digestOn 6 (some .long) :: TB) (some .long) 2 42 6) (k_o : (kd o == 6) = true) : ∀ (n3 : Nat) (v1 : Int64) (v2 : Int32) (w6 : Int64), f_X6_digestOn_l15_3 o G n3 v1 v2 = some (w6) → X K 44 [(3, .long w6)] [] G → X K 15 [(0, .ref (kad K o)), (3, .long v1), (5, .int v2)] [] G := by
  intro n3
  induction n3 with
  | zero =>
    intro v1 v2 w6 hf hk
    cases hf
  | succ n3 ih =>
    intro v1 v2 w6 hf hk
    unfold f_X6_digestOn_l15_3 at hf
    refine x_iload hc 2 dX6_digestOn_15 rfl ?_
    refine x_aload_n hc 0 dX6_digestOn_17 rfl rfl ?_
    refine x_getI (T := TX6) (p0 := o) hc in_X6 rfl (by decide) (kdb k_o) 1 (by decide) tw_232 rfl rfl dX6_digestOn_18 ?_
    refine x_icmp_ge (tgt := 44) hc dX6_digestOn_21 rfl (fun c_21 => ?_) (fun c_21 => ?_)
    · replace hf := if_p hf c_21
      cases hf
      exact x_sub [1] hk rfl
    · replace hf := if_n hf c_21
      refine x_ldc2 (v := 31) hc dX6_digestOn_24 tw_685 ?_
      refine x_lload_n hc 1 dX6_digestOn_27 rfl rfl ?_
      refine x_lmul hc dX6_digestOn_28 ?_
      refine x_aload_n hc 0 dX6_digestOn_29 rfl rfl ?_
      refine x_iload hc 2 dX6_digestOn_30 rfl ?_
      obtain ⟨x4, r5, hf⟩ := bj1_ok hf
      refine x_callVr (As := [.int v2]) (p0 := o) (v := (.int x4)) (T := TX6) hc (c_X6_value (kl K) (kV K) o v2 G x4 r5) mw_X6_value tw_686 (kdb k_o) (by decide) rfl rfl (Nat.le_of_ble_eq_true rfl) ⟨Nat.le_of_ble_eq_true rfl, Nat.le_of_ble_eq_true rfl⟩ dX6_digestOn_32 rfl ?_
      refine x_i2l hc dX6_digestOn_35 ?_
      refine x_ladd hc dX6_digestOn_36 ?_
      refine x_lstore_n (L' := [(0, .ref (kad K o)), (3, .long ((31 * v1) + x4.toInt64)), (5, .int v2)]) hc [1, 0, 2] dX6_digestOn_37 rfl (by decide) rfl ?_
      refine x_iinc (v := v2 + 1) (L' := [(0, .ref (kad K o)), (3, .long ((31 * v1) + x4.toInt64)), (5, .int (v2 + 1))]) hc 2 [1, 2, 0] dX6_digestOn_38 rfl rfl (by decide) rfl ?_
      refine x_goto (tgt := 15) hc dX6_digestOn_41 rfl ?_
      exact x_sub [0, 1, 2] (ih _ _ _ hf hk) rfl
set_option maxHeartbeats 4000000 in
set_option maxRecDepth 100000 in
theorem c_X6_digestOn (l : Launch) (V : VT) (o : Nat) (a1 : Int64) (G : G_) (r : Int64) (hf : f_X6_digestOn o a1 G = some r) : MC l V yX6_digestOn cX6_digestOn 6 (some .long) 2 42 [.ref (V.2.2.1 o), .long a1] G (some (.long r)) G := by
  refine mc_of (by decide) (Nat.le_of_ble_eq_true rfl) (fun K hV ho hc hkl => ?_)
  subst hV
  replace hc : Ok K cX6_digestOn RX6 (Cond.code yX6_digestOn cX6_digestOn 6 (some .long) :: TB) (some .long) 2 42 6 := hc
  replace ho : Rets K (some (.long r)) G := ho
  show X K 0 [(0, .ref (kad K o)), (1, .long a1)] [] G
  unfold f_X6_digestOn at hf
  obtain ⟨k_o, hf⟩ := chk_ok hf
  refine x_ldc2 (v := 31) hc dX6_digestOn_0 tw_685 ?_
  refine x_lload_n hc 1 dX6_digestOn_3 rfl rfl ?_
  refine x_lmul hc dX6_digestOn_4 ?_
  refine x_aload_n hc 0 dX6_digestOn_5 rfl rfl ?_
  refine x_getI (T := TX6) (p0 := o) hc in_X6 rfl (by decide) (kdb k_o) 1 (by decide) tw_232 rfl rfl dX6_digestOn_6 ?_
  refine x_i2l hc dX6_digestOn_9 ?_
  refine x_ladd hc dX6_digestOn_10 ?_
  refine x_lstore_n (L' := [(0, .ref (kad K o)), (3, .long ((31 * a1) + ((G.1 o 1).toInt64)))]) hc [1, 0] dX6_digestOn_11 rfl (by decide) rfl ?_
  refine x_iconst (v := 0) hc rfl dX6_digestOn_12 ?_
  refine x_istore (L' := [(0, .ref (kad K o)), (3, .long ((31 * a1) + ((G.1 o 1).toInt64))), (5, .int 0)]) hc [1, 2, 0] dX6_digestOn_13 (by decide) rfl ?_
  obtain ⟨w6, hl_15, hf⟩ := bj1_ok hf
  have he_44_n3 : X K 44 [(3, .long w6)] [] G := by
    clear hl_15
    refine x_lload_n hc 0 dX6_digestOn_44 rfl rfl ?_
    cases hf
    exact x_lret hc rfl ho dX6_digestOn_45
  exact x_sub [0, 1, 2] (c_X6_digestOn_l15_3 o G hc k_o FU ((31 * a1) + ((G.1 o 1).toInt64)) 0 w6 hl_15 he_44_n3) rfl
def f_X2_digestOn_l20_3 (o : Nat) (G : G_) : Nat → Int64 → Int32 → Option (Int64)
  | 0, _, _ => none
  | n3 + 1, v1, v2 =>
    if G.1 o 4 ≤ v2 then (
      some (v1))
    else (
      bj1 (f_X2_kindAt o v2 G) fun x4 =>
      bj1 (f_X2_numbersAt o v2 G) fun x6 =>
      nm ((31 * ((31 * v1) + x4.toInt64)) + x6.toInt64) fun w8 =>
      f_X2_digestOn_l20_3 o G n3 w8 (v2 + 1))
def f_X2_digestOn (o : Nat) (a1 : Int64) (G : G_) : Option Int64 :=
  chk (kd o == 2) <|
  if G.1 o 3 = 0 then (
    some ((31 * a1) - 1))
  else (
    bj1 (f_X2_digestOn_l20_3 o G FU a1 0) fun w9 =>
    some w9)
set_option maxHeartbeats 4000000 in
set_option maxRecDepth 100000 in
theorem c_X2_digestOn_l20_3 {K : CT} (o : Nat) (G : G_) (hc : Ok K cX2_digestOn RX2 (Cond.code yX2_digestOn cX2_digestOn 6 (some .long) :: TB) (some .long) 3 63 6) (k_o : (kd o == 2) = true) : ∀ (n3 : Nat) (v1 : Int64) (v2 : Int32) (w9 : Int64), f_X2_digestOn_l20_3 o G n3 v1 v2 = some (w9) → X K 63 [(3, .long w9)] [] G → X K 20 [(0, .ref (kad K o)), (3, .long v1), (5, .int v2)] [] G := by
  intro n3
  induction n3 with
  | zero =>
    intro v1 v2 w9 hf hk
    cases hf
  | succ n3 ih =>
    intro v1 v2 w9 hf hk
    unfold f_X2_digestOn_l20_3 at hf
    refine x_iload hc 2 dX2_digestOn_20 rfl ?_
    refine x_aload_n hc 0 dX2_digestOn_22 rfl rfl ?_
    refine x_getI (T := TX2) (p0 := o) hc in_X2 rfl (by decide) (kdb k_o) 4 (by decide) tw_71 rfl rfl dX2_digestOn_23 ?_
    refine x_icmp_ge (tgt := 63) hc dX2_digestOn_26 rfl (fun c_26 => ?_) (fun c_26 => ?_)
    · replace hf := if_p hf c_26
      cases hf
      exact x_sub [1] hk rfl
    · replace hf := if_n hf c_26
      refine x_ldc2 (v := 31) hc dX2_digestOn_29 tw_663 ?_
      refine x_lload_n hc 1 dX2_digestOn_32 rfl rfl ?_
      refine x_lmul hc dX2_digestOn_33 ?_
      refine x_aload_n hc 0 dX2_digestOn_34 rfl rfl ?_
      refine x_iload hc 2 dX2_digestOn_35 rfl ?_
      obtain ⟨x4, r5, hf⟩ := bj1_ok hf
      refine x_callVr (As := [.int v2]) (p0 := o) (v := (.int x4)) (T := TX2) hc (c_X2_kindAt (kl K) (kV K) o v2 G x4 r5) mw_X2_kindAt tw_361 (kdb k_o) (by decide) rfl rfl (Nat.le_of_ble_eq_true rfl) ⟨Nat.le_of_ble_eq_true rfl, Nat.le_of_ble_eq_true rfl⟩ dX2_digestOn_37 rfl ?_
      refine x_i2l hc dX2_digestOn_40 ?_
      refine x_ladd hc dX2_digestOn_41 ?_
      refine x_lstore_n (L' := [(0, .ref (kad K o)), (3, .long ((31 * v1) + x4.toInt64)), (5, .int v2)]) hc [1, 0, 2] dX2_digestOn_42 rfl (by decide) rfl ?_
      refine x_ldc2 (v := 31) hc dX2_digestOn_43 tw_663 ?_
      refine x_lload_n hc 1 dX2_digestOn_46 rfl rfl ?_
      refine x_lmul hc dX2_digestOn_47 ?_
      refine x_aload_n hc 0 dX2_digestOn_48 rfl rfl ?_
      refine x_iload hc 2 dX2_digestOn_49 rfl ?_
      obtain ⟨x6, r7, hf⟩ := bj1_ok hf
      refine x_callVr (As := [.int v2]) (p0 := o) (v := (.int x6)) (T := TX2) hc (c_X2_numbersAt (kl K) (kV K) o v2 G x6 r7) mw_X2_numbersAt tw_664 (kdb k_o) (by decide) rfl rfl (Nat.le_of_ble_eq_true rfl) ⟨Nat.le_of_ble_eq_true rfl, Nat.le_of_ble_eq_true rfl⟩ dX2_digestOn_51 rfl ?_
      refine x_i2l hc dX2_digestOn_54 ?_
      refine x_ladd hc dX2_digestOn_55 ?_
      refine x_nml (fun w8 e_w8 => ?_)
      replace hf := nm_ok hf w8 e_w8
      refine x_lstore_n (L' := [(0, .ref (kad K o)), (3, .long w8), (5, .int v2)]) hc [1, 0, 2] dX2_digestOn_56 rfl (by decide) rfl ?_
      refine x_iinc (v := v2 + 1) (L' := [(0, .ref (kad K o)), (3, .long w8), (5, .int (v2 + 1))]) hc 2 [1, 2, 0] dX2_digestOn_57 rfl rfl (by decide) rfl ?_
      refine x_goto (tgt := 20) hc dX2_digestOn_60 rfl ?_
      exact x_sub [0, 1, 2] (ih _ _ _ hf hk) rfl
set_option maxHeartbeats 4000000 in
set_option maxRecDepth 100000 in
theorem c_X2_digestOn (l : Launch) (V : VT) (o : Nat) (a1 : Int64) (G : G_) (r : Int64) (hf : f_X2_digestOn o a1 G = some r) : MC l V yX2_digestOn cX2_digestOn 6 (some .long) 3 63 [.ref (V.2.2.1 o), .long a1] G (some (.long r)) G := by
  refine mc_of (by decide) (Nat.le_of_ble_eq_true rfl) (fun K hV ho hc hkl => ?_)
  subst hV
  replace hc : Ok K cX2_digestOn RX2 (Cond.code yX2_digestOn cX2_digestOn 6 (some .long) :: TB) (some .long) 3 63 6 := hc
  replace ho : Rets K (some (.long r)) G := ho
  show X K 0 [(0, .ref (kad K o)), (1, .long a1)] [] G
  unfold f_X2_digestOn at hf
  obtain ⟨k_o, hf⟩ := chk_ok hf
  refine x_aload_n hc 0 dX2_digestOn_0 rfl rfl ?_
  refine x_getI (T := TX2) (p0 := o) hc in_X2 rfl (by decide) (kdb k_o) 3 (by decide) tw_69 rfl rfl dX2_digestOn_1 ?_
  refine x_if_ne (tgt := 15) hc dX2_digestOn_4 rfl (fun c_4 => ?_) (fun c_4 => ?_)
  · replace hf := if_n hf c_4
    refine x_lload_n hc 1 dX2_digestOn_15 rfl rfl ?_
    refine x_lstore_n (L' := [(0, .ref (kad K o)), (3, .long a1)]) hc [1, 0] dX2_digestOn_16 rfl (by decide) rfl ?_
    refine x_iconst (v := 0) hc rfl dX2_digestOn_17 ?_
    refine x_istore (L' := [(0, .ref (kad K o)), (3, .long a1), (5, .int 0)]) hc [1, 2, 0] dX2_digestOn_18 (by decide) rfl ?_
    obtain ⟨w9, hl_20, hf⟩ := bj1_ok hf
    have he_63_n3 : X K 63 [(3, .long w9)] [] G := by
      clear hl_20
      refine x_lload_n hc 0 dX2_digestOn_63 rfl rfl ?_
      cases hf
      exact x_lret hc rfl ho dX2_digestOn_64
    exact x_sub [0, 1, 2] (c_X2_digestOn_l20_3 o G hc k_o FU a1 0 w9 hl_20 he_63_n3) rfl
  · replace hf := if_p hf c_4
    refine x_ldc2 (v := 31) hc dX2_digestOn_7 tw_663 ?_
    refine x_lload_n hc 1 dX2_digestOn_10 rfl rfl ?_
    refine x_lmul hc dX2_digestOn_11 ?_
    refine x_lconst (v := 1) hc rfl dX2_digestOn_12 ?_
    refine x_lsub hc dX2_digestOn_13 ?_
    cases hf
    exact x_lret hc rfl ho dX2_digestOn_14

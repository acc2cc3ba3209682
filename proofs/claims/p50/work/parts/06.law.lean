theorem tw_27 : Cond.initialized RL ∈ TB := TB_mem 27 (by decide +kernel) (by decide +kernel)
theorem tw_298 : Cond.methodLink RL 37 yX7_plan ∈ TB := TB_mem 298 (by decide +kernel) (by decide +kernel)
theorem tw_602 : Cond.methodLink RL 40 yX7_asked ∈ TB := TB_mem 602 (by decide +kernel) (by decide +kernel)
theorem tw_688 : Cond.static yL_numbers ∈ TB := TB_mem 688 (by decide +kernel) (by decide +kernel)
theorem tw_689 : Cond.code yL_numbers cL_numbers 3 none ∈ TB := TB_mem 689 (by decide +kernel) (by decide +kernel)
theorem tw_690 : Cond.methodLink RL 19 yL_cell ∈ TB := TB_mem 690 (by decide +kernel) (by decide +kernel)
theorem tw_691 : Cond.static yL_cell ∈ TB := TB_mem 691 (by decide +kernel) (by decide +kernel)
theorem tw_692 : Cond.code yL_cell cL_cell 2 (some .int) ∈ TB := TB_mem 692 (by decide +kernel) (by decide +kernel)
theorem tw_693 : Cond.constant RL 7 268435455 ∈ TB := TB_mem 693 (by decide +kernel) (by decide +kernel)
theorem tw_695 : Cond.static yL_slab ∈ TB := TB_mem 695 (by decide +kernel) (by decide +kernel)
theorem tw_696 : Cond.code yL_slab cL_slab 5 (some .boolean) ∈ TB := TB_mem 696 (by decide +kernel) (by decide +kernel)
theorem tw_697 : Cond.methodLink RL 23 yX7_text ∈ TB := TB_mem 697 (by decide +kernel) (by decide +kernel)
theorem tw_707 : Cond.methodLink RL 14 yL_put ∈ TB := TB_mem 707 (by decide +kernel) (by decide +kernel)
theorem tw_708 : Cond.static yL_put ∈ TB := TB_mem 708 (by decide +kernel) (by decide +kernel)
theorem tw_709 : Cond.code yL_put cL_put 3 (some .int) ∈ TB := TB_mem 709 (by decide +kernel) (by decide +kernel)
theorem tw_710 : Cond.methodLink RL 8 yX7_put ∈ TB := TB_mem 710 (by decide +kernel) (by decide +kernel)
theorem tw_720 : Cond.methodLink RL 27 yL_number ∈ TB := TB_mem 720 (by decide +kernel) (by decide +kernel)
theorem tw_721 : Cond.static yL_number ∈ TB := TB_mem 721 (by decide +kernel) (by decide +kernel)
theorem tw_722 : Cond.code yL_number cL_number 3 (some .int) ∈ TB := TB_mem 722 (by decide +kernel) (by decide +kernel)
theorem tw_723 : Cond.methodLink RL 30 yX7_fault ∈ TB := TB_mem 723 (by decide +kernel) (by decide +kernel)
theorem tw_739 : Cond.methodLink RL 34 yX7_slab ∈ TB := TB_mem 739 (by decide +kernel) (by decide +kernel)
theorem tw_748 : Cond.static yL_plans ∈ TB := TB_mem 748 (by decide +kernel) (by decide +kernel)
theorem tw_749 : Cond.code yL_plans cL_plans 7 none ∈ TB := TB_mem 749 (by decide +kernel) (by decide +kernel)
theorem tw_751 : Cond.static yL_plan ∈ TB := TB_mem 751 (by decide +kernel) (by decide +kernel)
theorem tw_752 : Cond.code yL_plan cL_plan 6 (some .boolean) ∈ TB := TB_mem 752 (by decide +kernel) (by decide +kernel)
theorem tw_754 : Cond.static yL_ticks ∈ TB := TB_mem 754 (by decide +kernel) (by decide +kernel)
theorem tw_755 : Cond.code yL_ticks cL_ticks 3 (some .int) ∈ TB := TB_mem 755 (by decide +kernel) (by decide +kernel)
theorem tw_757 : Cond.static yL_tells ∈ TB := TB_mem 757 (by decide +kernel) (by decide +kernel)
theorem tw_758 : Cond.code yL_tells cL_tells 2 (some .int) ∈ TB := TB_mem 758 (by decide +kernel) (by decide +kernel)
theorem tw_760 : Cond.static yL_ways ∈ TB := TB_mem 760 (by decide +kernel) (by decide +kernel)
theorem tw_761 : Cond.code yL_ways cL_ways 14 (some .boolean) ∈ TB := TB_mem 761 (by decide +kernel) (by decide +kernel)
theorem tw_762 : Cond.methodLink RL 131 yX7_turns ∈ TB := TB_mem 762 (by decide +kernel) (by decide +kernel)
theorem tw_777 : Cond.methodLink RL 134 yX7_way ∈ TB := TB_mem 777 (by decide +kernel) (by decide +kernel)
theorem tw_785 : Cond.methodLink RL 138 yX7_often ∈ TB := TB_mem 785 (by decide +kernel) (by decide +kernel)
theorem tw_793 : Cond.methodLink RL 141 yX7_most ∈ TB := TB_mem 793 (by decide +kernel) (by decide +kernel)
theorem tw_800 : Cond.methodLink RL 144 yX7_off ∈ TB := TB_mem 800 (by decide +kernel) (by decide +kernel)
theorem tw_812 : Cond.methodLink RL 147 yX7_safe ∈ TB := TB_mem 812 (by decide +kernel) (by decide +kernel)
theorem tw_820 : Cond.methodLink RL 150 yX7_same ∈ TB := TB_mem 820 (by decide +kernel) (by decide +kernel)
theorem tw_829 : Cond.methodLink RL 154 yX7_rule ∈ TB := TB_mem 829 (by decide +kernel) (by decide +kernel)
theorem tw_841 : Cond.static yL_copy ∈ TB := TB_mem 841 (by decide +kernel) (by decide +kernel)
theorem tw_842 : Cond.code yL_copy cL_copy 4 none ∈ TB := TB_mem 842 (by decide +kernel) (by decide +kernel)
theorem mw_L_cell : MWS yL_cell cL_cell 2 (some .int) 2 := ⟨⟨by decide, by decide, by decide +kernel⟩, tw_692, tw_27, tw_691⟩
theorem mw_L_ticks : MWS yL_ticks cL_ticks 3 (some .int) 1 := ⟨⟨by decide, by decide, by decide +kernel⟩, tw_755, tw_27, tw_754⟩
theorem mw_L_copy : MWS yL_copy cL_copy 4 none 3 := ⟨⟨by decide, by decide, by decide +kernel⟩, tw_842, tw_27, tw_841⟩
theorem mw_L_numbers : MWS yL_numbers cL_numbers 3 none 3 := ⟨⟨by decide, by decide, by decide +kernel⟩, tw_689, tw_27, tw_688⟩
theorem mw_L_plans : MWS yL_plans cL_plans 7 none 4 := ⟨⟨by decide, by decide, by decide +kernel⟩, tw_749, tw_27, tw_748⟩
theorem mw_L_tells : MWS yL_tells cL_tells 2 (some .int) 2 := ⟨⟨by decide, by decide, by decide +kernel⟩, tw_758, tw_27, tw_757⟩
theorem mw_L_put : MWS yL_put cL_put 3 (some .int) 3 := ⟨⟨by decide, by decide, by decide +kernel⟩, tw_709, tw_27, tw_708⟩
theorem mw_L_number : MWS yL_number cL_number 3 (some .int) 3 := ⟨⟨by decide, by decide, by decide +kernel⟩, tw_722, tw_27, tw_721⟩
theorem mw_L_slab : MWS yL_slab cL_slab 5 (some .boolean) 3 := ⟨⟨by decide, by decide, by decide +kernel⟩, tw_696, tw_27, tw_695⟩
theorem mw_L_plan : MWS yL_plan cL_plan 6 (some .boolean) 3 := ⟨⟨by decide, by decide, by decide +kernel⟩, tw_752, tw_27, tw_751⟩
theorem mw_L_ways : MWS yL_ways cL_ways 14 (some .boolean) 3 := ⟨⟨by decide, by decide, by decide +kernel⟩, tw_761, tw_27, tw_760⟩
theorem dL_cell_0 : decode cL_cell 0 = .ok (.iload_n 1, 1) := by decide +kernel
theorem dL_cell_1 : decode cL_cell 1 = .ok (.aload_n 0, 1) := by decide +kernel
theorem dL_cell_2 : decode cL_cell 2 = .ok (.arraylength, 1) := by decide +kernel
theorem dL_cell_3 : decode cL_cell 3 = .ok (.if_icmp .ge 12, 3) := by decide +kernel
theorem dL_cell_6 : decode cL_cell 6 = .ok (.aload_n 0, 1) := by decide +kernel
theorem dL_cell_7 : decode cL_cell 7 = .ok (.iload_n 1, 1) := by decide +kernel
theorem dL_cell_8 : decode cL_cell 8 = .ok (.iaload, 1) := by decide +kernel
theorem dL_cell_9 : decode cL_cell 9 = .ok (.ldc 7, 2) := by decide +kernel
theorem dL_cell_11 : decode cL_cell 11 = .ok (.iand, 1) := by decide +kernel
theorem dL_cell_12 : decode cL_cell 12 = .ok (.goto 14, 3) := by decide +kernel
theorem dL_cell_15 : decode cL_cell 15 = .ok (.bipush 61, 2) := by decide +kernel
theorem dL_cell_17 : decode cL_cell 17 = .ok (.iload_n 1, 1) := by decide +kernel
theorem dL_cell_18 : decode cL_cell 18 = .ok (.imul, 1) := by decide +kernel
theorem dL_cell_19 : decode cL_cell 19 = .ok (.bipush 7, 2) := by decide +kernel
theorem dL_cell_21 : decode cL_cell 21 = .ok (.iadd, 1) := by decide +kernel
theorem dL_cell_22 : decode cL_cell 22 = .ok (.iload_n 1, 1) := by decide +kernel
theorem dL_cell_23 : decode cL_cell 23 = .ok (.iconst 3, 1) := by decide +kernel
theorem dL_cell_24 : decode cL_cell 24 = .ok (.iadd, 1) := by decide +kernel
theorem dL_cell_25 : decode cL_cell 25 = .ok (.imul, 1) := by decide +kernel
theorem dL_cell_26 : decode cL_cell 26 = .ok (.ireturn, 1) := by decide +kernel
theorem dL_ticks_0 : decode cL_ticks 0 = .ok (.iconst 0, 1) := by decide +kernel
theorem dL_ticks_1 : decode cL_ticks 1 = .ok (.istore_n 1, 1) := by decide +kernel
theorem dL_ticks_2 : decode cL_ticks 2 = .ok (.iconst 0, 1) := by decide +kernel
theorem dL_ticks_3 : decode cL_ticks 3 = .ok (.istore_n 2, 1) := by decide +kernel
theorem dL_ticks_4 : decode cL_ticks 4 = .ok (.iload_n 2, 1) := by decide +kernel
theorem dL_ticks_5 : decode cL_ticks 5 = .ok (.aload_n 0, 1) := by decide +kernel
theorem dL_ticks_6 : decode cL_ticks 6 = .ok (.iconst 0, 1) := by decide +kernel
theorem dL_ticks_7 : decode cL_ticks 7 = .ok (.iaload, 1) := by decide +kernel
theorem dL_ticks_8 : decode cL_ticks 8 = .ok (.if_icmp .ge 19, 3) := by decide +kernel
theorem dL_ticks_11 : decode cL_ticks 11 = .ok (.iload_n 1, 1) := by decide +kernel
theorem dL_ticks_12 : decode cL_ticks 12 = .ok (.aload_n 0, 1) := by decide +kernel
theorem dL_ticks_13 : decode cL_ticks 13 = .ok (.iconst 3, 1) := by decide +kernel
theorem dL_ticks_14 : decode cL_ticks 14 = .ok (.iconst 3, 1) := by decide +kernel
theorem dL_ticks_15 : decode cL_ticks 15 = .ok (.iload_n 2, 1) := by decide +kernel
theorem dL_ticks_16 : decode cL_ticks 16 = .ok (.imul, 1) := by decide +kernel
theorem dL_ticks_17 : decode cL_ticks 17 = .ok (.iadd, 1) := by decide +kernel
theorem dL_ticks_18 : decode cL_ticks 18 = .ok (.iaload, 1) := by decide +kernel
theorem dL_ticks_19 : decode cL_ticks 19 = .ok (.iadd, 1) := by decide +kernel
theorem dL_ticks_20 : decode cL_ticks 20 = .ok (.istore_n 1, 1) := by decide +kernel
theorem dL_ticks_21 : decode cL_ticks 21 = .ok (.iinc 2 1, 3) := by decide +kernel
theorem dL_ticks_24 : decode cL_ticks 24 = .ok (.goto (-20), 3) := by decide +kernel
theorem dL_ticks_27 : decode cL_ticks 27 = .ok (.iload_n 1, 1) := by decide +kernel
theorem dL_ticks_28 : decode cL_ticks 28 = .ok (.ireturn, 1) := by decide +kernel
theorem dL_copy_0 : decode cL_copy 0 = .ok (.iconst 0, 1) := by decide +kernel
theorem dL_copy_1 : decode cL_copy 1 = .ok (.istore_n 3, 1) := by decide +kernel
theorem dL_copy_2 : decode cL_copy 2 = .ok (.iload_n 3, 1) := by decide +kernel
theorem dL_copy_3 : decode cL_copy 3 = .ok (.iload_n 2, 1) := by decide +kernel
theorem dL_copy_4 : decode cL_copy 4 = .ok (.if_icmp .ge 15, 3) := by decide +kernel
theorem dL_copy_7 : decode cL_copy 7 = .ok (.aload_n 1, 1) := by decide +kernel
theorem dL_copy_8 : decode cL_copy 8 = .ok (.iload_n 3, 1) := by decide +kernel
theorem dL_copy_9 : decode cL_copy 9 = .ok (.aload_n 0, 1) := by decide +kernel
theorem dL_copy_10 : decode cL_copy 10 = .ok (.iload_n 3, 1) := by decide +kernel
theorem dL_copy_11 : decode cL_copy 11 = .ok (.iaload, 1) := by decide +kernel
theorem dL_copy_12 : decode cL_copy 12 = .ok (.iastore, 1) := by decide +kernel
theorem dL_copy_13 : decode cL_copy 13 = .ok (.iinc 3 1, 3) := by decide +kernel
theorem dL_copy_16 : decode cL_copy 16 = .ok (.goto (-14), 3) := by decide +kernel
theorem dL_copy_19 : decode cL_copy 19 = .ok (.return_, 1) := by decide +kernel
theorem dL_numbers_0 : decode cL_numbers 0 = .ok (.aload_n 2, 1) := by decide +kernel
theorem dL_numbers_1 : decode cL_numbers 1 = .ok (.iconst 0, 1) := by decide +kernel
theorem dL_numbers_2 : decode cL_numbers 2 = .ok (.iconst 3, 1) := by decide +kernel
theorem dL_numbers_3 : decode cL_numbers 3 = .ok (.aload_n 0, 1) := by decide +kernel
theorem dL_numbers_4 : decode cL_numbers 4 = .ok (.iload_n 1, 1) := by decide +kernel
theorem dL_numbers_5 : decode cL_numbers 5 = .ok (.invokestatic 19, 3) := by decide +kernel
theorem dL_numbers_8 : decode cL_numbers 8 = .ok (.bipush 12, 2) := by decide +kernel
theorem dL_numbers_10 : decode cL_numbers 10 = .ok (.irem, 1) := by decide +kernel
theorem dL_numbers_11 : decode cL_numbers 11 = .ok (.iadd, 1) := by decide +kernel
theorem dL_numbers_12 : decode cL_numbers 12 = .ok (.iastore, 1) := by decide +kernel
theorem dL_numbers_13 : decode cL_numbers 13 = .ok (.aload_n 2, 1) := by decide +kernel
theorem dL_numbers_14 : decode cL_numbers 14 = .ok (.iconst 1, 1) := by decide +kernel
theorem dL_numbers_15 : decode cL_numbers 15 = .ok (.aload_n 0, 1) := by decide +kernel
theorem dL_numbers_16 : decode cL_numbers 16 = .ok (.iload_n 1, 1) := by decide +kernel
theorem dL_numbers_17 : decode cL_numbers 17 = .ok (.iconst 1, 1) := by decide +kernel
theorem dL_numbers_18 : decode cL_numbers 18 = .ok (.iadd, 1) := by decide +kernel
theorem dL_numbers_19 : decode cL_numbers 19 = .ok (.invokestatic 19, 3) := by decide +kernel
theorem dL_numbers_22 : decode cL_numbers 22 = .ok (.bipush 30, 2) := by decide +kernel
theorem dL_numbers_24 : decode cL_numbers 24 = .ok (.irem, 1) := by decide +kernel
theorem dL_numbers_25 : decode cL_numbers 25 = .ok (.iastore, 1) := by decide +kernel
theorem dL_numbers_26 : decode cL_numbers 26 = .ok (.aload_n 2, 1) := by decide +kernel
theorem dL_numbers_27 : decode cL_numbers 27 = .ok (.iconst 2, 1) := by decide +kernel
theorem dL_numbers_28 : decode cL_numbers 28 = .ok (.aload_n 0, 1) := by decide +kernel
theorem dL_numbers_29 : decode cL_numbers 29 = .ok (.iload_n 1, 1) := by decide +kernel
theorem dL_numbers_30 : decode cL_numbers 30 = .ok (.iconst 2, 1) := by decide +kernel
theorem dL_numbers_31 : decode cL_numbers 31 = .ok (.iadd, 1) := by decide +kernel
theorem dL_numbers_32 : decode cL_numbers 32 = .ok (.invokestatic 19, 3) := by decide +kernel
theorem dL_numbers_35 : decode cL_numbers 35 = .ok (.iconst 2, 1) := by decide +kernel
theorem dL_numbers_36 : decode cL_numbers 36 = .ok (.irem, 1) := by decide +kernel
theorem dL_numbers_37 : decode cL_numbers 37 = .ok (.ifCond .ne 7, 3) := by decide +kernel
theorem dL_numbers_40 : decode cL_numbers 40 = .ok (.iconst 0, 1) := by decide +kernel
theorem dL_numbers_41 : decode cL_numbers 41 = .ok (.goto 15, 3) := by decide +kernel
theorem dL_numbers_44 : decode cL_numbers 44 = .ok (.aload_n 0, 1) := by decide +kernel
theorem dL_numbers_45 : decode cL_numbers 45 = .ok (.iload_n 1, 1) := by decide +kernel
theorem dL_numbers_46 : decode cL_numbers 46 = .ok (.iconst 2, 1) := by decide +kernel
theorem dL_numbers_47 : decode cL_numbers 47 = .ok (.iadd, 1) := by decide +kernel
theorem dL_numbers_48 : decode cL_numbers 48 = .ok (.invokestatic 19, 3) := by decide +kernel
theorem dL_numbers_51 : decode cL_numbers 51 = .ok (.iconst 2, 1) := by decide +kernel
theorem dL_numbers_52 : decode cL_numbers 52 = .ok (.idiv, 1) := by decide +kernel
theorem dL_numbers_53 : decode cL_numbers 53 = .ok (.bipush 61, 2) := by decide +kernel
theorem dL_numbers_55 : decode cL_numbers 55 = .ok (.irem, 1) := by decide +kernel
theorem dL_numbers_56 : decode cL_numbers 56 = .ok (.iastore, 1) := by decide +kernel
theorem dL_numbers_57 : decode cL_numbers 57 = .ok (.aload_n 2, 1) := by decide +kernel
theorem dL_numbers_58 : decode cL_numbers 58 = .ok (.iconst 3, 1) := by decide +kernel
theorem dL_numbers_59 : decode cL_numbers 59 = .ok (.aload_n 0, 1) := by decide +kernel
theorem dL_numbers_60 : decode cL_numbers 60 = .ok (.iload_n 1, 1) := by decide +kernel
theorem dL_numbers_61 : decode cL_numbers 61 = .ok (.iconst 3, 1) := by decide +kernel
theorem dL_numbers_62 : decode cL_numbers 62 = .ok (.iadd, 1) := by decide +kernel
theorem dL_numbers_63 : decode cL_numbers 63 = .ok (.invokestatic 19, 3) := by decide +kernel
theorem dL_numbers_66 : decode cL_numbers 66 = .ok (.bipush 10, 2) := by decide +kernel
theorem dL_numbers_68 : decode cL_numbers 68 = .ok (.irem, 1) := by decide +kernel
theorem dL_numbers_69 : decode cL_numbers 69 = .ok (.iastore, 1) := by decide +kernel
theorem dL_numbers_70 : decode cL_numbers 70 = .ok (.return_, 1) := by decide +kernel
theorem dL_plans_0 : decode cL_plans 0 = .ok (.aload_n 3, 1) := by decide +kernel
theorem dL_plans_1 : decode cL_plans 1 = .ok (.iconst 0, 1) := by decide +kernel
theorem dL_plans_2 : decode cL_plans 2 = .ok (.iconst 1, 1) := by decide +kernel
theorem dL_plans_3 : decode cL_plans 3 = .ok (.aload_n 0, 1) := by decide +kernel
theorem dL_plans_4 : decode cL_plans 4 = .ok (.iload_n 1, 1) := by decide +kernel
theorem dL_plans_5 : decode cL_plans 5 = .ok (.invokestatic 19, 3) := by decide +kernel
theorem dL_plans_8 : decode cL_plans 8 = .ok (.iload_n 2, 1) := by decide +kernel
theorem dL_plans_9 : decode cL_plans 9 = .ok (.irem, 1) := by decide +kernel
theorem dL_plans_10 : decode cL_plans 10 = .ok (.iadd, 1) := by decide +kernel
theorem dL_plans_11 : decode cL_plans 11 = .ok (.iastore, 1) := by decide +kernel
theorem dL_plans_12 : decode cL_plans 12 = .ok (.iconst 0, 1) := by decide +kernel
theorem dL_plans_13 : decode cL_plans 13 = .ok (.istore 4, 2) := by decide +kernel
theorem dL_plans_15 : decode cL_plans 15 = .ok (.iload 4, 2) := by decide +kernel
theorem dL_plans_17 : decode cL_plans 17 = .ok (.aload_n 3, 1) := by decide +kernel
theorem dL_plans_18 : decode cL_plans 18 = .ok (.iconst 0, 1) := by decide +kernel
theorem dL_plans_19 : decode cL_plans 19 = .ok (.iaload, 1) := by decide +kernel
theorem dL_plans_20 : decode cL_plans 20 = .ok (.if_icmp .ge 150, 3) := by decide +kernel
theorem dL_plans_23 : decode cL_plans 23 = .ok (.aload_n 0, 1) := by decide +kernel
theorem dL_plans_24 : decode cL_plans 24 = .ok (.iload_n 1, 1) := by decide +kernel
theorem dL_plans_25 : decode cL_plans 25 = .ok (.iconst 1, 1) := by decide +kernel
theorem dL_plans_26 : decode cL_plans 26 = .ok (.iadd, 1) := by decide +kernel
theorem dL_plans_27 : decode cL_plans 27 = .ok (.iload 4, 2) := by decide +kernel
theorem dL_plans_29 : decode cL_plans 29 = .ok (.iadd, 1) := by decide +kernel
theorem dL_plans_30 : decode cL_plans 30 = .ok (.invokestatic 19, 3) := by decide +kernel
theorem dL_plans_33 : decode cL_plans 33 = .ok (.istore 5, 2) := by decide +kernel
theorem dL_plans_35 : decode cL_plans 35 = .ok (.iload 5, 2) := by decide +kernel
theorem dL_plans_37 : decode cL_plans 37 = .ok (.bipush 8, 2) := by decide +kernel
theorem dL_plans_39 : decode cL_plans 39 = .ok (.irem, 1) := by decide +kernel
theorem dL_plans_40 : decode cL_plans 40 = .ok (.istore 6, 2) := by decide +kernel
theorem dL_plans_42 : decode cL_plans 42 = .ok (.iload 6, 2) := by decide +kernel
theorem dL_plans_44 : decode cL_plans 44 = .ok (.iconst 3, 1) := by decide +kernel
theorem dL_plans_45 : decode cL_plans 45 = .ok (.if_icmp .ge 7, 3) := by decide +kernel
theorem dL_plans_48 : decode cL_plans 48 = .ok (.iconst 1, 1) := by decide +kernel
theorem dL_plans_49 : decode cL_plans 49 = .ok (.goto 7, 3) := by decide +kernel
theorem dL_plans_52 : decode cL_plans 52 = .ok (.iload 6, 2) := by decide +kernel
theorem dL_plans_54 : decode cL_plans 54 = .ok (.iconst 1, 1) := by decide +kernel
theorem dL_plans_55 : decode cL_plans 55 = .ok (.isub, 1) := by decide +kernel
theorem dL_plans_56 : decode cL_plans 56 = .ok (.istore 6, 2) := by decide +kernel
theorem dL_plans_58 : decode cL_plans 58 = .ok (.aload_n 3, 1) := by decide +kernel
theorem dL_plans_59 : decode cL_plans 59 = .ok (.iconst 1, 1) := by decide +kernel
theorem dL_plans_60 : decode cL_plans 60 = .ok (.iconst 3, 1) := by decide +kernel
theorem dL_plans_61 : decode cL_plans 61 = .ok (.iload 4, 2) := by decide +kernel
theorem dL_plans_63 : decode cL_plans 63 = .ok (.imul, 1) := by decide +kernel
theorem dL_plans_64 : decode cL_plans 64 = .ok (.iadd, 1) := by decide +kernel
theorem dL_plans_65 : decode cL_plans 65 = .ok (.iload 6, 2) := by decide +kernel
theorem dL_plans_67 : decode cL_plans 67 = .ok (.iastore, 1) := by decide +kernel
theorem dL_plans_68 : decode cL_plans 68 = .ok (.aload_n 3, 1) := by decide +kernel
theorem dL_plans_69 : decode cL_plans 69 = .ok (.iconst 2, 1) := by decide +kernel
theorem dL_plans_70 : decode cL_plans 70 = .ok (.iconst 3, 1) := by decide +kernel
theorem dL_plans_71 : decode cL_plans 71 = .ok (.iload 4, 2) := by decide +kernel
theorem dL_plans_73 : decode cL_plans 73 = .ok (.imul, 1) := by decide +kernel
theorem dL_plans_74 : decode cL_plans 74 = .ok (.iadd, 1) := by decide +kernel
theorem dL_plans_75 : decode cL_plans 75 = .ok (.iload 6, 2) := by decide +kernel
theorem dL_plans_77 : decode cL_plans 77 = .ok (.iconst 3, 1) := by decide +kernel
theorem dL_plans_78 : decode cL_plans 78 = .ok (.if_icmp .le 7, 3) := by decide +kernel
theorem dL_plans_81 : decode cL_plans 81 = .ok (.iconst 0, 1) := by decide +kernel
theorem dL_plans_82 : decode cL_plans 82 = .ok (.goto 52, 3) := by decide +kernel
theorem dL_plans_85 : decode cL_plans 85 = .ok (.iload 6, 2) := by decide +kernel
theorem dL_plans_87 : decode cL_plans 87 = .ok (.iconst 1, 1) := by decide +kernel
theorem dL_plans_88 : decode cL_plans 88 = .ok (.if_icmp .ne 17, 3) := by decide +kernel
theorem dL_plans_91 : decode cL_plans 91 = .ok (.bipush 14, 2) := by decide +kernel
theorem dL_plans_93 : decode cL_plans 93 = .ok (.iload 5, 2) := by decide +kernel
theorem dL_plans_95 : decode cL_plans 95 = .ok (.bipush 8, 2) := by decide +kernel
theorem dL_plans_97 : decode cL_plans 97 = .ok (.idiv, 1) := by decide +kernel
theorem dL_plans_98 : decode cL_plans 98 = .ok (.bipush 17, 2) := by decide +kernel
theorem dL_plans_100 : decode cL_plans 100 = .ok (.irem, 1) := by decide +kernel
theorem dL_plans_101 : decode cL_plans 101 = .ok (.iadd, 1) := by decide +kernel
theorem dL_plans_102 : decode cL_plans 102 = .ok (.goto 32, 3) := by decide +kernel
theorem dL_plans_105 : decode cL_plans 105 = .ok (.iload 6, 2) := by decide +kernel
theorem dL_plans_107 : decode cL_plans 107 = .ok (.iconst 2, 1) := by decide +kernel
theorem dL_plans_108 : decode cL_plans 108 = .ok (.if_icmp .ne 17, 3) := by decide +kernel
theorem dL_plans_111 : decode cL_plans 111 = .ok (.bipush 8, 2) := by decide +kernel
theorem dL_plans_113 : decode cL_plans 113 = .ok (.iload 5, 2) := by decide +kernel
theorem dL_plans_115 : decode cL_plans 115 = .ok (.bipush 8, 2) := by decide +kernel
theorem dL_plans_117 : decode cL_plans 117 = .ok (.idiv, 1) := by decide +kernel
theorem dL_plans_118 : decode cL_plans 118 = .ok (.bipush 20, 2) := by decide +kernel
theorem dL_plans_120 : decode cL_plans 120 = .ok (.irem, 1) := by decide +kernel
theorem dL_plans_121 : decode cL_plans 121 = .ok (.iadd, 1) := by decide +kernel
theorem dL_plans_122 : decode cL_plans 122 = .ok (.goto 12, 3) := by decide +kernel
theorem dL_plans_125 : decode cL_plans 125 = .ok (.iconst 5, 1) := by decide +kernel
theorem dL_plans_126 : decode cL_plans 126 = .ok (.iload 5, 2) := by decide +kernel
theorem dL_plans_128 : decode cL_plans 128 = .ok (.bipush 8, 2) := by decide +kernel
theorem dL_plans_130 : decode cL_plans 130 = .ok (.idiv, 1) := by decide +kernel
theorem dL_plans_131 : decode cL_plans 131 = .ok (.iconst 5, 1) := by decide +kernel
theorem dL_plans_132 : decode cL_plans 132 = .ok (.irem, 1) := by decide +kernel
theorem dL_plans_133 : decode cL_plans 133 = .ok (.iadd, 1) := by decide +kernel
theorem dL_plans_134 : decode cL_plans 134 = .ok (.iastore, 1) := by decide +kernel
theorem dL_plans_135 : decode cL_plans 135 = .ok (.aload_n 3, 1) := by decide +kernel
theorem dL_plans_136 : decode cL_plans 136 = .ok (.iconst 3, 1) := by decide +kernel
theorem dL_plans_137 : decode cL_plans 137 = .ok (.iconst 3, 1) := by decide +kernel
theorem dL_plans_138 : decode cL_plans 138 = .ok (.iload 4, 2) := by decide +kernel
theorem dL_plans_140 : decode cL_plans 140 = .ok (.imul, 1) := by decide +kernel
theorem dL_plans_141 : decode cL_plans 141 = .ok (.iadd, 1) := by decide +kernel
theorem dL_plans_142 : decode cL_plans 142 = .ok (.iload 6, 2) := by decide +kernel
theorem dL_plans_144 : decode cL_plans 144 = .ok (.iconst 4, 1) := by decide +kernel
theorem dL_plans_145 : decode cL_plans 145 = .ok (.if_icmp .le 7, 3) := by decide +kernel
theorem dL_plans_148 : decode cL_plans 148 = .ok (.iconst 0, 1) := by decide +kernel
theorem dL_plans_149 : decode cL_plans 149 = .ok (.goto 14, 3) := by decide +kernel
theorem dL_plans_152 : decode cL_plans 152 = .ok (.iconst 1, 1) := by decide +kernel
theorem dL_plans_153 : decode cL_plans 153 = .ok (.iload 5, 2) := by decide +kernel
theorem dL_plans_155 : decode cL_plans 155 = .ok (.sipush 512, 3) := by decide +kernel
theorem dL_plans_158 : decode cL_plans 158 = .ok (.idiv, 1) := by decide +kernel
theorem dL_plans_159 : decode cL_plans 159 = .ok (.bipush 18, 2) := by decide +kernel
theorem dL_plans_161 : decode cL_plans 161 = .ok (.irem, 1) := by decide +kernel
theorem dL_plans_162 : decode cL_plans 162 = .ok (.iadd, 1) := by decide +kernel
theorem dL_plans_163 : decode cL_plans 163 = .ok (.iastore, 1) := by decide +kernel
theorem dL_plans_164 : decode cL_plans 164 = .ok (.iinc 4 1, 3) := by decide +kernel
theorem dL_plans_167 : decode cL_plans 167 = .ok (.goto (-152), 3) := by decide +kernel
theorem dL_plans_170 : decode cL_plans 170 = .ok (.return_, 1) := by decide +kernel
theorem dL_tells_0 : decode cL_tells 0 = .ok (.iload_n 1, 1) := by decide +kernel
theorem dL_tells_1 : decode cL_tells 1 = .ok (.iconst 1, 1) := by decide +kernel
theorem dL_tells_2 : decode cL_tells 2 = .ok (.if_icmp .ne 10, 3) := by decide +kernel
theorem dL_tells_5 : decode cL_tells 5 = .ok (.aload_n 0, 1) := by decide +kernel
theorem dL_tells_6 : decode cL_tells 6 = .ok (.invokevirtual 40, 3) := by decide +kernel
theorem dL_tells_9 : decode cL_tells 9 = .ok (.goto 6, 3) := by decide +kernel
theorem dL_tells_12 : decode cL_tells 12 = .ok (.sipush (-7777), 3) := by decide +kernel
theorem dL_tells_15 : decode cL_tells 15 = .ok (.ireturn, 1) := by decide +kernel
theorem dL_put_0 : decode cL_put 0 = .ok (.iload_n 1, 1) := by decide +kernel
theorem dL_put_1 : decode cL_put 1 = .ok (.ifCond .lt 22, 3) := by decide +kernel
theorem dL_put_4 : decode cL_put 4 = .ok (.aload_n 0, 1) := by decide +kernel
theorem dL_put_5 : decode cL_put 5 = .ok (.iconst 3, 1) := by decide +kernel
theorem dL_put_6 : decode cL_put 6 = .ok (.iload_n 1, 1) := by decide +kernel
theorem dL_put_7 : decode cL_put 7 = .ok (.iload_n 2, 1) := by decide +kernel
theorem dL_put_8 : decode cL_put 8 = .ok (.invokevirtual 8, 3) := by decide +kernel
theorem dL_put_11 : decode cL_put 11 = .ok (.sipush 1032, 3) := by decide +kernel
theorem dL_put_14 : decode cL_put 14 = .ok (.if_icmp .ne 9, 3) := by decide +kernel
theorem dL_put_17 : decode cL_put 17 = .ok (.iload_n 1, 1) := by decide +kernel
theorem dL_put_18 : decode cL_put 18 = .ok (.iconst 1, 1) := by decide +kernel
theorem dL_put_19 : decode cL_put 19 = .ok (.iadd, 1) := by decide +kernel
theorem dL_put_20 : decode cL_put 20 = .ok (.goto 6, 3) := by decide +kernel
theorem dL_put_23 : decode cL_put 23 = .ok (.sipush (-1000), 3) := by decide +kernel
theorem dL_put_26 : decode cL_put 26 = .ok (.ireturn, 1) := by decide +kernel
theorem dL_number_0 : decode cL_number 0 = .ok (.iload_n 2, 1) := by decide +kernel
theorem dL_number_1 : decode cL_number 1 = .ok (.bipush 10, 2) := by decide +kernel
theorem dL_number_3 : decode cL_number 3 = .ok (.if_icmp .ge 15, 3) := by decide +kernel
theorem dL_number_6 : decode cL_number 6 = .ok (.aload_n 0, 1) := by decide +kernel
theorem dL_number_7 : decode cL_number 7 = .ok (.iload_n 1, 1) := by decide +kernel
theorem dL_number_8 : decode cL_number 8 = .ok (.bipush 48, 2) := by decide +kernel
theorem dL_number_10 : decode cL_number 10 = .ok (.iload_n 2, 1) := by decide +kernel
theorem dL_number_11 : decode cL_number 11 = .ok (.iadd, 1) := by decide +kernel
theorem dL_number_12 : decode cL_number 12 = .ok (.invokestatic 14, 3) := by decide +kernel
theorem dL_number_15 : decode cL_number 15 = .ok (.goto 26, 3) := by decide +kernel
theorem dL_number_18 : decode cL_number 18 = .ok (.aload_n 0, 1) := by decide +kernel
theorem dL_number_19 : decode cL_number 19 = .ok (.aload_n 0, 1) := by decide +kernel
theorem dL_number_20 : decode cL_number 20 = .ok (.iload_n 1, 1) := by decide +kernel
theorem dL_number_21 : decode cL_number 21 = .ok (.bipush 48, 2) := by decide +kernel
theorem dL_number_23 : decode cL_number 23 = .ok (.iload_n 2, 1) := by decide +kernel
theorem dL_number_24 : decode cL_number 24 = .ok (.bipush 10, 2) := by decide +kernel
theorem dL_number_26 : decode cL_number 26 = .ok (.idiv, 1) := by decide +kernel
theorem dL_number_27 : decode cL_number 27 = .ok (.iadd, 1) := by decide +kernel
theorem dL_number_28 : decode cL_number 28 = .ok (.invokestatic 14, 3) := by decide +kernel
theorem dL_number_31 : decode cL_number 31 = .ok (.bipush 48, 2) := by decide +kernel
theorem dL_number_33 : decode cL_number 33 = .ok (.iload_n 2, 1) := by decide +kernel
theorem dL_number_34 : decode cL_number 34 = .ok (.bipush 10, 2) := by decide +kernel
theorem dL_number_36 : decode cL_number 36 = .ok (.irem, 1) := by decide +kernel
theorem dL_number_37 : decode cL_number 37 = .ok (.iadd, 1) := by decide +kernel
theorem dL_number_38 : decode cL_number 38 = .ok (.invokestatic 14, 3) := by decide +kernel
theorem dL_number_41 : decode cL_number 41 = .ok (.ireturn, 1) := by decide +kernel
theorem dL_slab_0 : decode cL_slab 0 = .ok (.aload_n 0, 1) := by decide +kernel
theorem dL_slab_1 : decode cL_slab 1 = .ok (.iconst 3, 1) := by decide +kernel
theorem dL_slab_2 : decode cL_slab 2 = .ok (.bipush 24, 2) := by decide +kernel
theorem dL_slab_4 : decode cL_slab 4 = .ok (.invokevirtual 23, 3) := by decide +kernel
theorem dL_slab_7 : decode cL_slab 7 = .ok (.bipush 24, 2) := by decide +kernel
theorem dL_slab_9 : decode cL_slab 9 = .ok (.if_icmp .eq 5, 3) := by decide +kernel
theorem dL_slab_12 : decode cL_slab 12 = .ok (.iconst 0, 1) := by decide +kernel
theorem dL_slab_13 : decode cL_slab 13 = .ok (.ireturn, 1) := by decide +kernel
theorem dL_slab_14 : decode cL_slab 14 = .ok (.iconst 1, 1) := by decide +kernel
theorem dL_slab_15 : decode cL_slab 15 = .ok (.istore_n 3, 1) := by decide +kernel
theorem dL_slab_16 : decode cL_slab 16 = .ok (.iconst 0, 1) := by decide +kernel
theorem dL_slab_17 : decode cL_slab 17 = .ok (.istore 4, 2) := by decide +kernel
theorem dL_slab_19 : decode cL_slab 19 = .ok (.iload 4, 2) := by decide +kernel
theorem dL_slab_21 : decode cL_slab 21 = .ok (.iconst 4, 1) := by decide +kernel
theorem dL_slab_22 : decode cL_slab 22 = .ok (.if_icmp .ge 57, 3) := by decide +kernel
theorem dL_slab_25 : decode cL_slab 25 = .ok (.aload_n 0, 1) := by decide +kernel
theorem dL_slab_26 : decode cL_slab 26 = .ok (.aload_n 0, 1) := by decide +kernel
theorem dL_slab_27 : decode cL_slab 27 = .ok (.iload_n 3, 1) := by decide +kernel
theorem dL_slab_28 : decode cL_slab 28 = .ok (.iload 4, 2) := by decide +kernel
theorem dL_slab_30 : decode cL_slab 30 = .ok (.ifCond .ne 8, 3) := by decide +kernel
theorem dL_slab_33 : decode cL_slab 33 = .ok (.bipush 116, 2) := by decide +kernel
theorem dL_slab_35 : decode cL_slab 35 = .ok (.goto 27, 3) := by decide +kernel
theorem dL_slab_38 : decode cL_slab 38 = .ok (.iload 4, 2) := by decide +kernel
theorem dL_slab_40 : decode cL_slab 40 = .ok (.iconst 1, 1) := by decide +kernel
theorem dL_slab_41 : decode cL_slab 41 = .ok (.if_icmp .ne 8, 3) := by decide +kernel
theorem dL_slab_44 : decode cL_slab 44 = .ok (.bipush 99, 2) := by decide +kernel
theorem dL_slab_46 : decode cL_slab 46 = .ok (.goto 16, 3) := by decide +kernel
theorem dL_slab_49 : decode cL_slab 49 = .ok (.iload 4, 2) := by decide +kernel
theorem dL_slab_51 : decode cL_slab 51 = .ok (.iconst 2, 1) := by decide +kernel
theorem dL_slab_52 : decode cL_slab 52 = .ok (.if_icmp .ne 8, 3) := by decide +kernel
theorem dL_slab_55 : decode cL_slab 55 = .ok (.bipush 115, 2) := by decide +kernel
theorem dL_slab_57 : decode cL_slab 57 = .ok (.goto 5, 3) := by decide +kernel
theorem dL_slab_60 : decode cL_slab 60 = .ok (.bipush 102, 2) := by decide +kernel
theorem dL_slab_62 : decode cL_slab 62 = .ok (.invokestatic 14, 3) := by decide +kernel
theorem dL_slab_65 : decode cL_slab 65 = .ok (.aload_n 2, 1) := by decide +kernel
theorem dL_slab_66 : decode cL_slab 66 = .ok (.iload 4, 2) := by decide +kernel
theorem dL_slab_68 : decode cL_slab 68 = .ok (.iaload, 1) := by decide +kernel
theorem dL_slab_69 : decode cL_slab 69 = .ok (.invokestatic 27, 3) := by decide +kernel
theorem dL_slab_72 : decode cL_slab 72 = .ok (.istore_n 3, 1) := by decide +kernel
theorem dL_slab_73 : decode cL_slab 73 = .ok (.iinc 4 1, 3) := by decide +kernel
theorem dL_slab_76 : decode cL_slab 76 = .ok (.goto (-57), 3) := by decide +kernel
theorem dL_slab_79 : decode cL_slab 79 = .ok (.iload_n 3, 1) := by decide +kernel
theorem dL_slab_80 : decode cL_slab 80 = .ok (.ifCond .le 28, 3) := by decide +kernel
theorem dL_slab_83 : decode cL_slab 83 = .ok (.aload_n 0, 1) := by decide +kernel
theorem dL_slab_84 : decode cL_slab 84 = .ok (.iconst 3, 1) := by decide +kernel
theorem dL_slab_85 : decode cL_slab 85 = .ok (.iconst 0, 1) := by decide +kernel
theorem dL_slab_86 : decode cL_slab 86 = .ok (.invokevirtual 30, 3) := by decide +kernel
theorem dL_slab_89 : decode cL_slab 89 = .ok (.bipush (-9), 2) := by decide +kernel
theorem dL_slab_91 : decode cL_slab 91 = .ok (.if_icmp .ne 17, 3) := by decide +kernel
theorem dL_slab_94 : decode cL_slab 94 = .ok (.aload_n 0, 1) := by decide +kernel
theorem dL_slab_95 : decode cL_slab 95 = .ok (.iload_n 1, 1) := by decide +kernel
theorem dL_slab_96 : decode cL_slab 96 = .ok (.iconst 3, 1) := by decide +kernel
theorem dL_slab_97 : decode cL_slab 97 = .ok (.invokevirtual 34, 3) := by decide +kernel
theorem dL_slab_100 : decode cL_slab 100 = .ok (.iconst 4, 1) := by decide +kernel
theorem dL_slab_101 : decode cL_slab 101 = .ok (.if_icmp .ne 7, 3) := by decide +kernel
theorem dL_slab_104 : decode cL_slab 104 = .ok (.iconst 1, 1) := by decide +kernel
theorem dL_slab_105 : decode cL_slab 105 = .ok (.goto 4, 3) := by decide +kernel
theorem dL_slab_108 : decode cL_slab 108 = .ok (.iconst 0, 1) := by decide +kernel
theorem dL_slab_109 : decode cL_slab 109 = .ok (.ireturn, 1) := by decide +kernel
theorem dL_plan_0 : decode cL_plan 0 = .ok (.aload_n 0, 1) := by decide +kernel
theorem dL_plan_1 : decode cL_plan 1 = .ok (.iconst 3, 1) := by decide +kernel
theorem dL_plan_2 : decode cL_plan 2 = .ok (.bipush 80, 2) := by decide +kernel
theorem dL_plan_4 : decode cL_plan 4 = .ok (.invokevirtual 23, 3) := by decide +kernel
theorem dL_plan_7 : decode cL_plan 7 = .ok (.bipush 80, 2) := by decide +kernel
theorem dL_plan_9 : decode cL_plan 9 = .ok (.if_icmp .eq 5, 3) := by decide +kernel
theorem dL_plan_12 : decode cL_plan 12 = .ok (.iconst 0, 1) := by decide +kernel
theorem dL_plan_13 : decode cL_plan 13 = .ok (.ireturn, 1) := by decide +kernel
theorem dL_plan_14 : decode cL_plan 14 = .ok (.iconst 0, 1) := by decide +kernel
theorem dL_plan_15 : decode cL_plan 15 = .ok (.istore_n 3, 1) := by decide +kernel
theorem dL_plan_16 : decode cL_plan 16 = .ok (.iconst 0, 1) := by decide +kernel
theorem dL_plan_17 : decode cL_plan 17 = .ok (.istore 4, 2) := by decide +kernel
theorem dL_plan_19 : decode cL_plan 19 = .ok (.iload 4, 2) := by decide +kernel
theorem dL_plan_21 : decode cL_plan 21 = .ok (.aload_n 2, 1) := by decide +kernel
theorem dL_plan_22 : decode cL_plan 22 = .ok (.iconst 0, 1) := by decide +kernel
theorem dL_plan_23 : decode cL_plan 23 = .ok (.iaload, 1) := by decide +kernel
theorem dL_plan_24 : decode cL_plan 24 = .ok (.if_icmp .ge 136, 3) := by decide +kernel
theorem dL_plan_27 : decode cL_plan 27 = .ok (.aload_n 2, 1) := by decide +kernel
theorem dL_plan_28 : decode cL_plan 28 = .ok (.iconst 1, 1) := by decide +kernel
theorem dL_plan_29 : decode cL_plan 29 = .ok (.iconst 3, 1) := by decide +kernel
theorem dL_plan_30 : decode cL_plan 30 = .ok (.iload 4, 2) := by decide +kernel
theorem dL_plan_32 : decode cL_plan 32 = .ok (.imul, 1) := by decide +kernel
theorem dL_plan_33 : decode cL_plan 33 = .ok (.iadd, 1) := by decide +kernel
theorem dL_plan_34 : decode cL_plan 34 = .ok (.iaload, 1) := by decide +kernel
theorem dL_plan_35 : decode cL_plan 35 = .ok (.istore 5, 2) := by decide +kernel
theorem dL_plan_37 : decode cL_plan 37 = .ok (.aload_n 0, 1) := by decide +kernel
theorem dL_plan_38 : decode cL_plan 38 = .ok (.iload_n 3, 1) := by decide +kernel
theorem dL_plan_39 : decode cL_plan 39 = .ok (.iload 5, 2) := by decide +kernel
theorem dL_plan_41 : decode cL_plan 41 = .ok (.iconst 1, 1) := by decide +kernel
theorem dL_plan_42 : decode cL_plan 42 = .ok (.if_icmp .ne 8, 3) := by decide +kernel
theorem dL_plan_45 : decode cL_plan 45 = .ok (.bipush 105, 2) := by decide +kernel
theorem dL_plan_47 : decode cL_plan 47 = .ok (.goto 49, 3) := by decide +kernel
theorem dL_plan_50 : decode cL_plan 50 = .ok (.iload 5, 2) := by decide +kernel
theorem dL_plan_52 : decode cL_plan 52 = .ok (.iconst 2, 1) := by decide +kernel
theorem dL_plan_53 : decode cL_plan 53 = .ok (.if_icmp .ne 8, 3) := by decide +kernel
theorem dL_plan_56 : decode cL_plan 56 = .ok (.bipush 111, 2) := by decide +kernel
theorem dL_plan_58 : decode cL_plan 58 = .ok (.goto 38, 3) := by decide +kernel
theorem dL_plan_61 : decode cL_plan 61 = .ok (.iload 5, 2) := by decide +kernel
theorem dL_plan_63 : decode cL_plan 63 = .ok (.iconst 3, 1) := by decide +kernel
theorem dL_plan_64 : decode cL_plan 64 = .ok (.if_icmp .ne 8, 3) := by decide +kernel
theorem dL_plan_67 : decode cL_plan 67 = .ok (.bipush 98, 2) := by decide +kernel
theorem dL_plan_69 : decode cL_plan 69 = .ok (.goto 27, 3) := by decide +kernel
theorem dL_plan_72 : decode cL_plan 72 = .ok (.iload 5, 2) := by decide +kernel
theorem dL_plan_74 : decode cL_plan 74 = .ok (.iconst 4, 1) := by decide +kernel
theorem dL_plan_75 : decode cL_plan 75 = .ok (.if_icmp .ne 8, 3) := by decide +kernel
theorem dL_plan_78 : decode cL_plan 78 = .ok (.bipush 114, 2) := by decide +kernel
theorem dL_plan_80 : decode cL_plan 80 = .ok (.goto 16, 3) := by decide +kernel
theorem dL_plan_83 : decode cL_plan 83 = .ok (.iload 5, 2) := by decide +kernel
theorem dL_plan_85 : decode cL_plan 85 = .ok (.iconst 5, 1) := by decide +kernel
theorem dL_plan_86 : decode cL_plan 86 = .ok (.if_icmp .ne 8, 3) := by decide +kernel
theorem dL_plan_89 : decode cL_plan 89 = .ok (.bipush 117, 2) := by decide +kernel
theorem dL_plan_91 : decode cL_plan 91 = .ok (.goto 5, 3) := by decide +kernel
theorem dL_plan_94 : decode cL_plan 94 = .ok (.bipush 100, 2) := by decide +kernel
theorem dL_plan_96 : decode cL_plan 96 = .ok (.invokestatic 14, 3) := by decide +kernel
theorem dL_plan_99 : decode cL_plan 99 = .ok (.istore_n 3, 1) := by decide +kernel
theorem dL_plan_100 : decode cL_plan 100 = .ok (.iload 5, 2) := by decide +kernel
theorem dL_plan_102 : decode cL_plan 102 = .ok (.iconst 3, 1) := by decide +kernel
theorem dL_plan_103 : decode cL_plan 103 = .ok (.if_icmp .le 7, 3) := by decide +kernel
theorem dL_plan_106 : decode cL_plan 106 = .ok (.iload_n 3, 1) := by decide +kernel
theorem dL_plan_107 : decode cL_plan 107 = .ok (.goto 22, 3) := by decide +kernel
theorem dL_plan_110 : decode cL_plan 110 = .ok (.aload_n 0, 1) := by decide +kernel
theorem dL_plan_111 : decode cL_plan 111 = .ok (.aload_n 0, 1) := by decide +kernel
theorem dL_plan_112 : decode cL_plan 112 = .ok (.iload_n 3, 1) := by decide +kernel
theorem dL_plan_113 : decode cL_plan 113 = .ok (.aload_n 2, 1) := by decide +kernel
theorem dL_plan_114 : decode cL_plan 114 = .ok (.iconst 2, 1) := by decide +kernel
theorem dL_plan_115 : decode cL_plan 115 = .ok (.iconst 3, 1) := by decide +kernel
theorem dL_plan_116 : decode cL_plan 116 = .ok (.iload 4, 2) := by decide +kernel
theorem dL_plan_118 : decode cL_plan 118 = .ok (.imul, 1) := by decide +kernel
theorem dL_plan_119 : decode cL_plan 119 = .ok (.iadd, 1) := by decide +kernel
theorem dL_plan_120 : decode cL_plan 120 = .ok (.iaload, 1) := by decide +kernel
theorem dL_plan_121 : decode cL_plan 121 = .ok (.invokestatic 27, 3) := by decide +kernel
theorem dL_plan_124 : decode cL_plan 124 = .ok (.bipush 58, 2) := by decide +kernel
theorem dL_plan_126 : decode cL_plan 126 = .ok (.invokestatic 14, 3) := by decide +kernel
theorem dL_plan_129 : decode cL_plan 129 = .ok (.istore_n 3, 1) := by decide +kernel
theorem dL_plan_130 : decode cL_plan 130 = .ok (.iload 5, 2) := by decide +kernel
theorem dL_plan_132 : decode cL_plan 132 = .ok (.iconst 4, 1) := by decide +kernel
theorem dL_plan_133 : decode cL_plan 133 = .ok (.if_icmp .le 7, 3) := by decide +kernel
theorem dL_plan_136 : decode cL_plan 136 = .ok (.iload_n 3, 1) := by decide +kernel
theorem dL_plan_137 : decode cL_plan 137 = .ok (.goto 16, 3) := by decide +kernel
theorem dL_plan_140 : decode cL_plan 140 = .ok (.aload_n 0, 1) := by decide +kernel
theorem dL_plan_141 : decode cL_plan 141 = .ok (.iload_n 3, 1) := by decide +kernel
theorem dL_plan_142 : decode cL_plan 142 = .ok (.aload_n 2, 1) := by decide +kernel
theorem dL_plan_143 : decode cL_plan 143 = .ok (.iconst 3, 1) := by decide +kernel
theorem dL_plan_144 : decode cL_plan 144 = .ok (.iconst 3, 1) := by decide +kernel
theorem dL_plan_145 : decode cL_plan 145 = .ok (.iload 4, 2) := by decide +kernel
theorem dL_plan_147 : decode cL_plan 147 = .ok (.imul, 1) := by decide +kernel
theorem dL_plan_148 : decode cL_plan 148 = .ok (.iadd, 1) := by decide +kernel
theorem dL_plan_149 : decode cL_plan 149 = .ok (.iaload, 1) := by decide +kernel
theorem dL_plan_150 : decode cL_plan 150 = .ok (.invokestatic 27, 3) := by decide +kernel
theorem dL_plan_153 : decode cL_plan 153 = .ok (.istore_n 3, 1) := by decide +kernel
theorem dL_plan_154 : decode cL_plan 154 = .ok (.iinc 4 1, 3) := by decide +kernel
theorem dL_plan_157 : decode cL_plan 157 = .ok (.goto (-138), 3) := by decide +kernel
theorem dL_plan_160 : decode cL_plan 160 = .ok (.iload_n 3, 1) := by decide +kernel
theorem dL_plan_161 : decode cL_plan 161 = .ok (.ifCond .lt 30, 3) := by decide +kernel
theorem dL_plan_164 : decode cL_plan 164 = .ok (.aload_n 0, 1) := by decide +kernel
theorem dL_plan_165 : decode cL_plan 165 = .ok (.iconst 3, 1) := by decide +kernel
theorem dL_plan_166 : decode cL_plan 166 = .ok (.iconst 1, 1) := by decide +kernel
theorem dL_plan_167 : decode cL_plan 167 = .ok (.invokevirtual 30, 3) := by decide +kernel
theorem dL_plan_170 : decode cL_plan 170 = .ok (.bipush (-9), 2) := by decide +kernel
theorem dL_plan_172 : decode cL_plan 172 = .ok (.if_icmp .ne 19, 3) := by decide +kernel
theorem dL_plan_175 : decode cL_plan 175 = .ok (.aload_n 0, 1) := by decide +kernel
theorem dL_plan_176 : decode cL_plan 176 = .ok (.iload_n 1, 1) := by decide +kernel
theorem dL_plan_177 : decode cL_plan 177 = .ok (.iconst 3, 1) := by decide +kernel
theorem dL_plan_178 : decode cL_plan 178 = .ok (.invokevirtual 37, 3) := by decide +kernel
theorem dL_plan_181 : decode cL_plan 181 = .ok (.aload_n 2, 1) := by decide +kernel
theorem dL_plan_182 : decode cL_plan 182 = .ok (.iconst 0, 1) := by decide +kernel
theorem dL_plan_183 : decode cL_plan 183 = .ok (.iaload, 1) := by decide +kernel
theorem dL_plan_184 : decode cL_plan 184 = .ok (.if_icmp .ne 7, 3) := by decide +kernel
theorem dL_plan_187 : decode cL_plan 187 = .ok (.iconst 1, 1) := by decide +kernel
theorem dL_plan_188 : decode cL_plan 188 = .ok (.goto 4, 3) := by decide +kernel
theorem dL_plan_191 : decode cL_plan 191 = .ok (.iconst 0, 1) := by decide +kernel
theorem dL_plan_192 : decode cL_plan 192 = .ok (.ireturn, 1) := by decide +kernel
theorem dL_ways_0 : decode cL_ways 0 = .ok (.bipush 10, 2) := by decide +kernel
theorem dL_ways_2 : decode cL_ways 2 = .ok (.aload_n 1, 1) := by decide +kernel
theorem dL_ways_3 : decode cL_ways 3 = .ok (.iconst 0, 1) := by decide +kernel
theorem dL_ways_4 : decode cL_ways 4 = .ok (.invokestatic 19, 3) := by decide +kernel
theorem dL_ways_7 : decode cL_ways 7 = .ok (.bipush 21, 2) := by decide +kernel
theorem dL_ways_9 : decode cL_ways 9 = .ok (.irem, 1) := by decide +kernel
theorem dL_ways_10 : decode cL_ways 10 = .ok (.iadd, 1) := by decide +kernel
theorem dL_ways_11 : decode cL_ways 11 = .ok (.istore_n 3, 1) := by decide +kernel
theorem dL_ways_12 : decode cL_ways 12 = .ok (.iconst 1, 1) := by decide +kernel
theorem dL_ways_13 : decode cL_ways 13 = .ok (.aload_n 1, 1) := by decide +kernel
theorem dL_ways_14 : decode cL_ways 14 = .ok (.iconst 1, 1) := by decide +kernel
theorem dL_ways_15 : decode cL_ways 15 = .ok (.invokestatic 19, 3) := by decide +kernel
theorem dL_ways_18 : decode cL_ways 18 = .ok (.bipush 80, 2) := by decide +kernel
theorem dL_ways_20 : decode cL_ways 20 = .ok (.irem, 1) := by decide +kernel
theorem dL_ways_21 : decode cL_ways 21 = .ok (.iadd, 1) := by decide +kernel
theorem dL_ways_22 : decode cL_ways 22 = .ok (.istore 4, 2) := by decide +kernel
theorem dL_ways_24 : decode cL_ways 24 = .ok (.aload_n 0, 1) := by decide +kernel
theorem dL_ways_25 : decode cL_ways 25 = .ok (.iconst 0, 1) := by decide +kernel
theorem dL_ways_26 : decode cL_ways 26 = .ok (.iload_n 3, 1) := by decide +kernel
theorem dL_ways_27 : decode cL_ways 27 = .ok (.iload 4, 2) := by decide +kernel
theorem dL_ways_29 : decode cL_ways 29 = .ok (.invokevirtual 131, 3) := by decide +kernel
theorem dL_ways_32 : decode cL_ways 32 = .ok (.istore 5, 2) := by decide +kernel
theorem dL_ways_34 : decode cL_ways 34 = .ok (.aload_n 0, 1) := by decide +kernel
theorem dL_ways_35 : decode cL_ways 35 = .ok (.invokevirtual 40, 3) := by decide +kernel
theorem dL_ways_38 : decode cL_ways 38 = .ok (.istore 6, 2) := by decide +kernel
theorem dL_ways_40 : decode cL_ways 40 = .ok (.iload 5, 2) := by decide +kernel
theorem dL_ways_42 : decode cL_ways 42 = .ok (.iconst 1, 1) := by decide +kernel
theorem dL_ways_43 : decode cL_ways 43 = .ok (.if_icmp .lt 32, 3) := by decide +kernel
theorem dL_ways_46 : decode cL_ways 46 = .ok (.iload 5, 2) := by decide +kernel
theorem dL_ways_48 : decode cL_ways 48 = .ok (.bipush 60, 2) := by decide +kernel
theorem dL_ways_50 : decode cL_ways 50 = .ok (.if_icmp .gt 25, 3) := by decide +kernel
theorem dL_ways_53 : decode cL_ways 53 = .ok (.aload_n 0, 1) := by decide +kernel
theorem dL_ways_54 : decode cL_ways 54 = .ok (.iconst 0, 1) := by decide +kernel
theorem dL_ways_55 : decode cL_ways 55 = .ok (.iload_n 3, 1) := by decide +kernel
theorem dL_ways_56 : decode cL_ways 56 = .ok (.iload 4, 2) := by decide +kernel
theorem dL_ways_58 : decode cL_ways 58 = .ok (.iload 5, 2) := by decide +kernel
theorem dL_ways_60 : decode cL_ways 60 = .ok (.invokevirtual 134, 3) := by decide +kernel
theorem dL_ways_63 : decode cL_ways 63 = .ok (.ifCond .lt 12, 3) := by decide +kernel
theorem dL_ways_66 : decode cL_ways 66 = .ok (.aload_n 0, 1) := by decide +kernel
theorem dL_ways_67 : decode cL_ways 67 = .ok (.invokevirtual 40, 3) := by decide +kernel
theorem dL_ways_70 : decode cL_ways 70 = .ok (.iload 6, 2) := by decide +kernel
theorem dL_ways_72 : decode cL_ways 72 = .ok (.if_icmp .eq 5, 3) := by decide +kernel
theorem dL_ways_75 : decode cL_ways 75 = .ok (.iconst 0, 1) := by decide +kernel
theorem dL_ways_76 : decode cL_ways 76 = .ok (.ireturn, 1) := by decide +kernel
theorem dL_ways_77 : decode cL_ways 77 = .ok (.iconst 0, 1) := by decide +kernel
theorem dL_ways_78 : decode cL_ways 78 = .ok (.istore 7, 2) := by decide +kernel
theorem dL_ways_80 : decode cL_ways 80 = .ok (.iload 7, 2) := by decide +kernel
theorem dL_ways_82 : decode cL_ways 82 = .ok (.iconst 4, 1) := by decide +kernel
theorem dL_ways_83 : decode cL_ways 83 = .ok (.if_icmp .ge 104, 3) := by decide +kernel
theorem dL_ways_86 : decode cL_ways 86 = .ok (.iconst 1, 1) := by decide +kernel
theorem dL_ways_87 : decode cL_ways 87 = .ok (.aload_n 1, 1) := by decide +kernel
theorem dL_ways_88 : decode cL_ways 88 = .ok (.iconst 2, 1) := by decide +kernel
theorem dL_ways_89 : decode cL_ways 89 = .ok (.iload 7, 2) := by decide +kernel
theorem dL_ways_91 : decode cL_ways 91 = .ok (.iadd, 1) := by decide +kernel
theorem dL_ways_92 : decode cL_ways 92 = .ok (.invokestatic 19, 3) := by decide +kernel
theorem dL_ways_95 : decode cL_ways 95 = .ok (.bipush 60, 2) := by decide +kernel
theorem dL_ways_97 : decode cL_ways 97 = .ok (.irem, 1) := by decide +kernel
theorem dL_ways_98 : decode cL_ways 98 = .ok (.iadd, 1) := by decide +kernel
theorem dL_ways_99 : decode cL_ways 99 = .ok (.istore 8, 2) := by decide +kernel
theorem dL_ways_101 : decode cL_ways 101 = .ok (.aload_n 0, 1) := by decide +kernel
theorem dL_ways_102 : decode cL_ways 102 = .ok (.iconst 0, 1) := by decide +kernel
theorem dL_ways_103 : decode cL_ways 103 = .ok (.iload_n 3, 1) := by decide +kernel
theorem dL_ways_104 : decode cL_ways 104 = .ok (.iload 4, 2) := by decide +kernel
theorem dL_ways_106 : decode cL_ways 106 = .ok (.iload 8, 2) := by decide +kernel
theorem dL_ways_108 : decode cL_ways 108 = .ok (.invokevirtual 134, 3) := by decide +kernel
theorem dL_ways_111 : decode cL_ways 111 = .ok (.istore 9, 2) := by decide +kernel
theorem dL_ways_113 : decode cL_ways 113 = .ok (.aload_n 0, 1) := by decide +kernel
theorem dL_ways_114 : decode cL_ways 114 = .ok (.invokevirtual 40, 3) := by decide +kernel
theorem dL_ways_117 : decode cL_ways 117 = .ok (.istore 10, 2) := by decide +kernel
theorem dL_ways_119 : decode cL_ways 119 = .ok (.aload_n 0, 1) := by decide +kernel
theorem dL_ways_120 : decode cL_ways 120 = .ok (.iconst 0, 1) := by decide +kernel
theorem dL_ways_121 : decode cL_ways 121 = .ok (.iload_n 3, 1) := by decide +kernel
theorem dL_ways_122 : decode cL_ways 122 = .ok (.iload 4, 2) := by decide +kernel
theorem dL_ways_124 : decode cL_ways 124 = .ok (.iload 8, 2) := by decide +kernel
theorem dL_ways_126 : decode cL_ways 126 = .ok (.invokevirtual 138, 3) := by decide +kernel
theorem dL_ways_129 : decode cL_ways 129 = .ok (.istore 11, 2) := by decide +kernel
theorem dL_ways_131 : decode cL_ways 131 = .ok (.iload 9, 2) := by decide +kernel
theorem dL_ways_133 : decode cL_ways 133 = .ok (.ifCond .lt 46, 3) := by decide +kernel
theorem dL_ways_136 : decode cL_ways 136 = .ok (.iload 10, 2) := by decide +kernel
theorem dL_ways_138 : decode cL_ways 138 = .ok (.iload 6, 2) := by decide +kernel
theorem dL_ways_140 : decode cL_ways 140 = .ok (.if_icmp .gt 39, 3) := by decide +kernel
theorem dL_ways_143 : decode cL_ways 143 = .ok (.iload 10, 2) := by decide +kernel
theorem dL_ways_145 : decode cL_ways 145 = .ok (.iload 6, 2) := by decide +kernel
theorem dL_ways_147 : decode cL_ways 147 = .ok (.if_icmp .ne 10, 3) := by decide +kernel
theorem dL_ways_150 : decode cL_ways 150 = .ok (.iload 8, 2) := by decide +kernel
theorem dL_ways_152 : decode cL_ways 152 = .ok (.iload 5, 2) := by decide +kernel
theorem dL_ways_154 : decode cL_ways 154 = .ok (.if_icmp .lt 25, 3) := by decide +kernel
theorem dL_ways_157 : decode cL_ways 157 = .ok (.iload 11, 2) := by decide +kernel
theorem dL_ways_159 : decode cL_ways 159 = .ok (.bipush 100, 2) := by decide +kernel
theorem dL_ways_161 : decode cL_ways 161 = .ok (.aload_n 2, 1) := by decide +kernel
theorem dL_ways_162 : decode cL_ways 162 = .ok (.iconst 0, 1) := by decide +kernel
theorem dL_ways_163 : decode cL_ways 163 = .ok (.iaload, 1) := by decide +kernel
theorem dL_ways_164 : decode cL_ways 164 = .ok (.isub, 1) := by decide +kernel
theorem dL_ways_165 : decode cL_ways 165 = .ok (.if_icmp .lt 14, 3) := by decide +kernel
theorem dL_ways_168 : decode cL_ways 168 = .ok (.iload 11, 2) := by decide +kernel
theorem dL_ways_170 : decode cL_ways 170 = .ok (.bipush 100, 2) := by decide +kernel
theorem dL_ways_172 : decode cL_ways 172 = .ok (.aload_n 2, 1) := by decide +kernel
theorem dL_ways_173 : decode cL_ways 173 = .ok (.iconst 0, 1) := by decide +kernel
theorem dL_ways_174 : decode cL_ways 174 = .ok (.iaload, 1) := by decide +kernel
theorem dL_ways_175 : decode cL_ways 175 = .ok (.iadd, 1) := by decide +kernel
theorem dL_ways_176 : decode cL_ways 176 = .ok (.if_icmp .le 5, 3) := by decide +kernel
theorem dL_ways_179 : decode cL_ways 179 = .ok (.iconst 0, 1) := by decide +kernel
theorem dL_ways_180 : decode cL_ways 180 = .ok (.ireturn, 1) := by decide +kernel
theorem dL_ways_181 : decode cL_ways 181 = .ok (.iinc 7 1, 3) := by decide +kernel
theorem dL_ways_184 : decode cL_ways 184 = .ok (.goto (-104), 3) := by decide +kernel
theorem dL_ways_187 : decode cL_ways 187 = .ok (.aload_n 0, 1) := by decide +kernel
theorem dL_ways_188 : decode cL_ways 188 = .ok (.iconst 0, 1) := by decide +kernel
theorem dL_ways_189 : decode cL_ways 189 = .ok (.iload_n 3, 1) := by decide +kernel
theorem dL_ways_190 : decode cL_ways 190 = .ok (.iload 4, 2) := by decide +kernel
theorem dL_ways_192 : decode cL_ways 192 = .ok (.iload 4, 2) := by decide +kernel
theorem dL_ways_194 : decode cL_ways 194 = .ok (.iconst 1, 1) := by decide +kernel
theorem dL_ways_195 : decode cL_ways 195 = .ok (.iadd, 1) := by decide +kernel
theorem dL_ways_196 : decode cL_ways 196 = .ok (.iconst 2, 1) := by decide +kernel
theorem dL_ways_197 : decode cL_ways 197 = .ok (.idiv, 1) := by decide +kernel
theorem dL_ways_198 : decode cL_ways 198 = .ok (.invokevirtual 138, 3) := by decide +kernel
theorem dL_ways_201 : decode cL_ways 201 = .ok (.bipush 100, 2) := by decide +kernel
theorem dL_ways_203 : decode cL_ways 203 = .ok (.if_icmp .ne 10, 3) := by decide +kernel
theorem dL_ways_206 : decode cL_ways 206 = .ok (.aload_n 0, 1) := by decide +kernel
theorem dL_ways_207 : decode cL_ways 207 = .ok (.invokevirtual 40, 3) := by decide +kernel
theorem dL_ways_210 : decode cL_ways 210 = .ok (.ifCond .eq 5, 3) := by decide +kernel
theorem dL_ways_213 : decode cL_ways 213 = .ok (.iconst 0, 1) := by decide +kernel
theorem dL_ways_214 : decode cL_ways 214 = .ok (.ireturn, 1) := by decide +kernel
theorem dL_ways_215 : decode cL_ways 215 = .ok (.aload_n 0, 1) := by decide +kernel
theorem dL_ways_216 : decode cL_ways 216 = .ok (.iconst 0, 1) := by decide +kernel
theorem dL_ways_217 : decode cL_ways 217 = .ok (.sipush 500, 3) := by decide +kernel
theorem dL_ways_220 : decode cL_ways 220 = .ok (.sipush 649, 3) := by decide +kernel
theorem dL_ways_223 : decode cL_ways 223 = .ok (.iconst 0, 1) := by decide +kernel
theorem dL_ways_224 : decode cL_ways 224 = .ok (.invokevirtual 141, 3) := by decide +kernel
theorem dL_ways_227 : decode cL_ways 227 = .ok (.istore 7, 2) := by decide +kernel
theorem dL_ways_229 : decode cL_ways 229 = .ok (.aload_n 0, 1) := by decide +kernel
theorem dL_ways_230 : decode cL_ways 230 = .ok (.invokevirtual 40, 3) := by decide +kernel
theorem dL_ways_233 : decode cL_ways 233 = .ok (.istore 8, 2) := by decide +kernel
theorem dL_ways_235 : decode cL_ways 235 = .ok (.iload 7, 2) := by decide +kernel
theorem dL_ways_237 : decode cL_ways 237 = .ok (.ifCond .lt 47, 3) := by decide +kernel
theorem dL_ways_240 : decode cL_ways 240 = .ok (.aload_n 0, 1) := by decide +kernel
theorem dL_ways_241 : decode cL_ways 241 = .ok (.iconst 0, 1) := by decide +kernel
theorem dL_ways_242 : decode cL_ways 242 = .ok (.iload 7, 2) := by decide +kernel
theorem dL_ways_244 : decode cL_ways 244 = .ok (.sipush 10000, 3) := by decide +kernel
theorem dL_ways_247 : decode cL_ways 247 = .ok (.idiv, 1) := by decide +kernel
theorem dL_ways_248 : decode cL_ways 248 = .ok (.iload 7, 2) := by decide +kernel
theorem dL_ways_250 : decode cL_ways 250 = .ok (.bipush 100, 2) := by decide +kernel
theorem dL_ways_252 : decode cL_ways 252 = .ok (.idiv, 1) := by decide +kernel
theorem dL_ways_253 : decode cL_ways 253 = .ok (.bipush 100, 2) := by decide +kernel
theorem dL_ways_255 : decode cL_ways 255 = .ok (.irem, 1) := by decide +kernel
theorem dL_ways_256 : decode cL_ways 256 = .ok (.iload 7, 2) := by decide +kernel
theorem dL_ways_258 : decode cL_ways 258 = .ok (.bipush 100, 2) := by decide +kernel
theorem dL_ways_260 : decode cL_ways 260 = .ok (.irem, 1) := by decide +kernel
theorem dL_ways_261 : decode cL_ways 261 = .ok (.invokevirtual 134, 3) := by decide +kernel
theorem dL_ways_264 : decode cL_ways 264 = .ok (.ifCond .lt 20, 3) := by decide +kernel
theorem dL_ways_267 : decode cL_ways 267 = .ok (.aload_n 0, 1) := by decide +kernel
theorem dL_ways_268 : decode cL_ways 268 = .ok (.invokevirtual 40, 3) := by decide +kernel
theorem dL_ways_271 : decode cL_ways 271 = .ok (.iload 8, 2) := by decide +kernel
theorem dL_ways_273 : decode cL_ways 273 = .ok (.if_icmp .ne 11, 3) := by decide +kernel
theorem dL_ways_276 : decode cL_ways 276 = .ok (.iload 8, 2) := by decide +kernel
theorem dL_ways_278 : decode cL_ways 278 = .ok (.aload_n 2, 1) := by decide +kernel
theorem dL_ways_279 : decode cL_ways 279 = .ok (.iconst 0, 1) := by decide +kernel
theorem dL_ways_280 : decode cL_ways 280 = .ok (.iaload, 1) := by decide +kernel
theorem dL_ways_281 : decode cL_ways 281 = .ok (.if_icmp .le 5, 3) := by decide +kernel
theorem dL_ways_284 : decode cL_ways 284 = .ok (.iconst 0, 1) := by decide +kernel
theorem dL_ways_285 : decode cL_ways 285 = .ok (.ireturn, 1) := by decide +kernel
theorem dL_ways_286 : decode cL_ways 286 = .ok (.aload_n 0, 1) := by decide +kernel
theorem dL_ways_287 : decode cL_ways 287 = .ok (.iconst 0, 1) := by decide +kernel
theorem dL_ways_288 : decode cL_ways 288 = .ok (.iload_n 3, 1) := by decide +kernel
theorem dL_ways_289 : decode cL_ways 289 = .ok (.iconst 4, 1) := by decide +kernel
theorem dL_ways_290 : decode cL_ways 290 = .ok (.sipush 550, 3) := by decide +kernel
theorem dL_ways_293 : decode cL_ways 293 = .ok (.invokevirtual 144, 3) := by decide +kernel
theorem dL_ways_296 : decode cL_ways 296 = .ok (.istore 9, 2) := by decide +kernel
theorem dL_ways_298 : decode cL_ways 298 = .ok (.aload_n 0, 1) := by decide +kernel
theorem dL_ways_299 : decode cL_ways 299 = .ok (.invokevirtual 40, 3) := by decide +kernel
theorem dL_ways_302 : decode cL_ways 302 = .ok (.istore 10, 2) := by decide +kernel
theorem dL_ways_304 : decode cL_ways 304 = .ok (.bipush 6, 2) := by decide +kernel
theorem dL_ways_306 : decode cL_ways 306 = .ok (.aload_n 1, 1) := by decide +kernel
theorem dL_ways_307 : decode cL_ways 307 = .ok (.bipush 6, 2) := by decide +kernel
theorem dL_ways_309 : decode cL_ways 309 = .ok (.invokestatic 19, 3) := by decide +kernel
theorem dL_ways_312 : decode cL_ways 312 = .ok (.iconst 4, 1) := by decide +kernel
theorem dL_ways_313 : decode cL_ways 313 = .ok (.irem, 1) := by decide +kernel
theorem dL_ways_314 : decode cL_ways 314 = .ok (.iadd, 1) := by decide +kernel
theorem dL_ways_315 : decode cL_ways 315 = .ok (.istore 11, 2) := by decide +kernel
theorem dL_ways_317 : decode cL_ways 317 = .ok (.aload_n 0, 1) := by decide +kernel
theorem dL_ways_318 : decode cL_ways 318 = .ok (.iconst 0, 1) := by decide +kernel
theorem dL_ways_319 : decode cL_ways 319 = .ok (.iload 11, 2) := by decide +kernel
theorem dL_ways_321 : decode cL_ways 321 = .ok (.invokevirtual 147, 3) := by decide +kernel
theorem dL_ways_324 : decode cL_ways 324 = .ok (.istore 12, 2) := by decide +kernel
theorem dL_ways_326 : decode cL_ways 326 = .ok (.aload_n 0, 1) := by decide +kernel
theorem dL_ways_327 : decode cL_ways 327 = .ok (.iconst 0, 1) := by decide +kernel
theorem dL_ways_328 : decode cL_ways 328 = .ok (.iload 11, 2) := by decide +kernel
theorem dL_ways_330 : decode cL_ways 330 = .ok (.iconst 1, 1) := by decide +kernel
theorem dL_ways_331 : decode cL_ways 331 = .ok (.iadd, 1) := by decide +kernel
theorem dL_ways_332 : decode cL_ways 332 = .ok (.invokevirtual 147, 3) := by decide +kernel
theorem dL_ways_335 : decode cL_ways 335 = .ok (.istore 13, 2) := by decide +kernel
theorem dL_ways_337 : decode cL_ways 337 = .ok (.iload 9, 2) := by decide +kernel
theorem dL_ways_339 : decode cL_ways 339 = .ok (.iconst 1, 1) := by decide +kernel
theorem dL_ways_340 : decode cL_ways 340 = .ok (.if_icmp .lt 85, 3) := by decide +kernel
theorem dL_ways_343 : decode cL_ways 343 = .ok (.iload 9, 2) := by decide +kernel
theorem dL_ways_345 : decode cL_ways 345 = .ok (.bipush 120, 2) := by decide +kernel
theorem dL_ways_347 : decode cL_ways 347 = .ok (.if_icmp .gt 78, 3) := by decide +kernel
theorem dL_ways_350 : decode cL_ways 350 = .ok (.iload 10, 2) := by decide +kernel
theorem dL_ways_352 : decode cL_ways 352 = .ok (.ifCond .lt 73, 3) := by decide +kernel
theorem dL_ways_355 : decode cL_ways 355 = .ok (.iload 12, 2) := by decide +kernel
theorem dL_ways_357 : decode cL_ways 357 = .ok (.ifCond .lt 16, 3) := by decide +kernel
theorem dL_ways_360 : decode cL_ways 360 = .ok (.iload 13, 2) := by decide +kernel
theorem dL_ways_362 : decode cL_ways 362 = .ok (.iconst 1, 1) := by decide +kernel
theorem dL_ways_363 : decode cL_ways 363 = .ok (.if_icmp .lt 62, 3) := by decide +kernel
theorem dL_ways_366 : decode cL_ways 366 = .ok (.iload 13, 2) := by decide +kernel
theorem dL_ways_368 : decode cL_ways 368 = .ok (.iload 12, 2) := by decide +kernel
theorem dL_ways_370 : decode cL_ways 370 = .ok (.if_icmp .gt 55, 3) := by decide +kernel
theorem dL_ways_373 : decode cL_ways 373 = .ok (.aload_n 0, 1) := by decide +kernel
theorem dL_ways_374 : decode cL_ways 374 = .ok (.iconst 0, 1) := by decide +kernel
theorem dL_ways_375 : decode cL_ways 375 = .ok (.iconst 0, 1) := by decide +kernel
theorem dL_ways_376 : decode cL_ways 376 = .ok (.iload_n 3, 1) := by decide +kernel
theorem dL_ways_377 : decode cL_ways 377 = .ok (.iconst 3, 1) := by decide +kernel
theorem dL_ways_378 : decode cL_ways 378 = .ok (.sipush 300, 3) := by decide +kernel
theorem dL_ways_381 : decode cL_ways 381 = .ok (.sipush 300, 3) := by decide +kernel
theorem dL_ways_384 : decode cL_ways 384 = .ok (.invokevirtual 150, 3) := by decide +kernel
theorem dL_ways_387 : decode cL_ways 387 = .ok (.ifCond .gt 38, 3) := by decide +kernel
theorem dL_ways_390 : decode cL_ways 390 = .ok (.aload_n 0, 1) := by decide +kernel
theorem dL_ways_391 : decode cL_ways 391 = .ok (.iconst 0, 1) := by decide +kernel
theorem dL_ways_392 : decode cL_ways 392 = .ok (.iconst 0, 1) := by decide +kernel
theorem dL_ways_393 : decode cL_ways 393 = .ok (.iload_n 3, 1) := by decide +kernel
theorem dL_ways_394 : decode cL_ways 394 = .ok (.iconst 3, 1) := by decide +kernel
theorem dL_ways_395 : decode cL_ways 395 = .ok (.sipush 300, 3) := by decide +kernel
theorem dL_ways_398 : decode cL_ways 398 = .ok (.sipush 400, 3) := by decide +kernel
theorem dL_ways_401 : decode cL_ways 401 = .ok (.invokevirtual 150, 3) := by decide +kernel
theorem dL_ways_404 : decode cL_ways 404 = .ok (.bipush (-9), 2) := by decide +kernel
theorem dL_ways_406 : decode cL_ways 406 = .ok (.if_icmp .lt 19, 3) := by decide +kernel
theorem dL_ways_409 : decode cL_ways 409 = .ok (.aload_n 0, 1) := by decide +kernel
theorem dL_ways_410 : decode cL_ways 410 = .ok (.iconst 0, 1) := by decide +kernel
theorem dL_ways_411 : decode cL_ways 411 = .ok (.iload_n 3, 1) := by decide +kernel
theorem dL_ways_412 : decode cL_ways 412 = .ok (.iconst 3, 1) := by decide +kernel
theorem dL_ways_413 : decode cL_ways 413 = .ok (.iconst 0, 1) := by decide +kernel
theorem dL_ways_414 : decode cL_ways 414 = .ok (.invokevirtual 154, 3) := by decide +kernel
theorem dL_ways_417 : decode cL_ways 417 = .ok (.iconst 1, 1) := by decide +kernel
theorem dL_ways_418 : decode cL_ways 418 = .ok (.if_icmp .ne 7, 3) := by decide +kernel
theorem dL_ways_421 : decode cL_ways 421 = .ok (.iconst 1, 1) := by decide +kernel
theorem dL_ways_422 : decode cL_ways 422 = .ok (.goto 4, 3) := by decide +kernel
theorem dL_ways_425 : decode cL_ways 425 = .ok (.iconst 0, 1) := by decide +kernel
theorem dL_ways_426 : decode cL_ways 426 = .ok (.ireturn, 1) := by decide +kernel
def f_L_cell (sl : Nat) (xs : Nat → Int32) (a1 : Int32) (G : G_) : Option Int32 :=
  if Int32.ofNat sl ≤ a1 then (
    some (((61 * a1) + 7) * (a1 + 3)))
  else (
    chk (inb a1 sl) <|
    some ((xs (ix a1)) &&& 268435455))
set_option maxHeartbeats 4000000 in
set_option maxRecDepth 100000 in
theorem c_L_cell (l : Launch) (V : VT) (sl : Nat) (xs : Nat → Int32) (a1 : Int32) (G : G_) (r : Int32) (k_sc : SCO V sl xs) (hf : f_L_cell sl xs a1 G = some r) : MC l V yL_cell cL_cell 2 (some .int) 0 0 [.ref (vSB V), .int a1] G (some (.int r)) G := by
  refine mc_of (by decide) (Nat.le_of_ble_eq_true rfl) (fun K hV ho hc hkl => ?_)
  subst hV
  replace hc : Ok K cL_cell RL (Cond.code yL_cell cL_cell 2 (some .int) :: TB) (some .int) 0 0 2 := hc
  replace ho : Rets K (some (.int r)) G := ho
  show X K 0 [(0, .ref (vSB (kV K))), (1, .int a1)] [] G
  unfold f_L_cell at hf
  refine x_iload_n hc 1 dL_cell_0 rfl rfl ?_
  refine x_aload_n hc 0 dL_cell_1 rfl rfl ?_
  refine x_slen hc k_sc dL_cell_2 ?_
  refine x_icmp_ge (tgt := 15) hc dL_cell_3 rfl (fun c_3 => ?_) (fun c_3 => ?_)
  · replace hf := if_p hf c_3
    refine x_bipush (v := 61) hc rfl dL_cell_15 ?_
    refine x_iload_n hc 1 dL_cell_17 rfl rfl ?_
    refine x_imul hc dL_cell_18 ?_
    refine x_bipush (v := 7) hc rfl dL_cell_19 ?_
    refine x_iadd hc dL_cell_21 ?_
    refine x_iload_n hc 1 dL_cell_22 rfl rfl ?_
    refine x_iconst (v := 3) hc rfl dL_cell_23 ?_
    refine x_iadd hc dL_cell_24 ?_
    refine x_imul hc dL_cell_25 ?_
    cases hf
    exact x_iret hc rfl ho dL_cell_26
  · replace hf := if_n hf c_3
    refine x_aload_n hc 0 dL_cell_6 rfl rfl ?_
    refine x_iload_n hc 1 dL_cell_7 rfl rfl ?_
    obtain ⟨h1, hf⟩ := chk_ok hf
    refine x_sld hc k_sc h1 dL_cell_8 ?_
    refine x_ldc (v := 268435455) hc dL_cell_9 tw_693 ?_
    refine x_iand hc dL_cell_11 ?_
    refine x_goto (tgt := 26) hc dL_cell_12 rfl ?_
    cases hf
    exact x_iret hc rfl ho dL_cell_26
def f_L_ticks_l4_3 (a0 : Nat) (G : G_) : Nat → Int32 → Int32 → Option (Int32)
  | 0, _, _ => none
  | n3 + 1, v1, v2 =>
    chk (inb 0 40) <|
    if G.1 a0 (ix 0) ≤ v2 then (
      some (v1))
    else (
      chk (inb (3 + (3 * v2)) 40) <|
      f_L_ticks_l4_3 a0 G n3 (v1 + (G.1 a0 (ix (3 + (3 * v2))))) (v2 + 1))
def f_L_ticks (a0 : Nat) (G : G_) : Option Int32 :=
  bj1 (f_L_ticks_l4_3 a0 G FU 0 0) fun x6 =>
  some x6
set_option maxHeartbeats 4000000 in
set_option maxRecDepth 100000 in
theorem c_L_ticks_l4_3 {K : CT} (a0 : Nat) (G : G_) (hc : Ok K cL_ticks RL (Cond.code yL_ticks cL_ticks 3 (some .int) :: TB) (some .int) 0 0 3) (k_a0 : AOK (kV K) a0 40) : ∀ (n3 : Nat) (v1 : Int32) (v2 : Int32) (x6 : Int32), f_L_ticks_l4_3 a0 G n3 v1 v2 = some (x6) → X K 27 [(1, .int x6)] [] G → X K 4 [(0, .ref (kad K a0)), (1, .int v1), (2, .int v2)] [] G := by
  intro n3
  induction n3 with
  | zero =>
    intro v1 v2 x6 hf hk
    cases hf
  | succ n3 ih =>
    intro v1 v2 x6 hf hk
    unfold f_L_ticks_l4_3 at hf
    refine x_iload_n hc 2 dL_ticks_4 rfl rfl ?_
    refine x_aload_n hc 0 dL_ticks_5 rfl rfl ?_
    refine x_iconst (v := 0) hc rfl dL_ticks_6 ?_
    obtain ⟨h4, hf⟩ := chk_ok hf
    refine x_ialoadA (p0 := a0) hc k_a0 h4 dL_ticks_7 ?_
    refine x_icmp_ge (tgt := 27) hc dL_ticks_8 rfl (fun c_8 => ?_) (fun c_8 => ?_)
    · replace hf := if_p hf c_8
      cases hf
      exact x_sub [1] hk rfl
    · replace hf := if_n hf c_8
      refine x_iload_n hc 1 dL_ticks_11 rfl rfl ?_
      refine x_aload_n hc 0 dL_ticks_12 rfl rfl ?_
      refine x_iconst (v := 3) hc rfl dL_ticks_13 ?_
      refine x_iconst (v := 3) hc rfl dL_ticks_14 ?_
      refine x_iload_n hc 2 dL_ticks_15 rfl rfl ?_
      refine x_imul hc dL_ticks_16 ?_
      refine x_iadd hc dL_ticks_17 ?_
      obtain ⟨h5, hf⟩ := chk_ok hf
      refine x_ialoadA (p0 := a0) hc k_a0 h5 dL_ticks_18 ?_
      refine x_iadd hc dL_ticks_19 ?_
      refine x_istore_n (L' := [(0, .ref (kad K a0)), (1, .int (v1 + (G.1 a0 (ix (3 + (3 * v2)))))), (2, .int v2)]) hc [1, 0, 2] dL_ticks_20 rfl (by decide) rfl ?_
      refine x_iinc (v := v2 + 1) (L' := [(0, .ref (kad K a0)), (1, .int (v1 + (G.1 a0 (ix (3 + (3 * v2)))))), (2, .int (v2 + 1))]) hc 2 [1, 2, 0] dL_ticks_21 rfl rfl (by decide) rfl ?_
      refine x_goto (tgt := 4) hc dL_ticks_24 rfl ?_
      exact x_sub [0, 1, 2] (ih _ _ _ hf hk) rfl
set_option maxHeartbeats 4000000 in
set_option maxRecDepth 100000 in
theorem c_L_ticks (l : Launch) (V : VT) (a0 : Nat) (G : G_) (r : Int32) (k_a0 : AOK V a0 40) (hf : f_L_ticks a0 G = some r) : MC l V yL_ticks cL_ticks 3 (some .int) 0 0 [.ref (V.2.2.1 a0)] G (some (.int r)) G := by
  refine mc_of (by decide) (Nat.le_of_ble_eq_true rfl) (fun K hV ho hc hkl => ?_)
  subst hV
  replace hc : Ok K cL_ticks RL (Cond.code yL_ticks cL_ticks 3 (some .int) :: TB) (some .int) 0 0 3 := hc
  replace ho : Rets K (some (.int r)) G := ho
  show X K 0 [(0, .ref (kad K a0))] [] G
  unfold f_L_ticks at hf
  refine x_iconst (v := 0) hc rfl dL_ticks_0 ?_
  refine x_istore_n (L' := [(0, .ref (kad K a0)), (1, .int 0)]) hc [1, 0] dL_ticks_1 rfl (by decide) rfl ?_
  refine x_iconst (v := 0) hc rfl dL_ticks_2 ?_
  refine x_istore_n (L' := [(0, .ref (kad K a0)), (1, .int 0), (2, .int 0)]) hc [1, 2, 0] dL_ticks_3 rfl (by decide) rfl ?_
  obtain ⟨x6, hl_4, hf⟩ := bj1_ok hf
  have he_27_n3 : X K 27 [(1, .int x6)] [] G := by
    clear hl_4
    refine x_iload_n hc 0 dL_ticks_27 rfl rfl ?_
    cases hf
    exact x_iret hc rfl ho dL_ticks_28
  exact x_sub [0, 1, 2] (c_L_ticks_l4_3 a0 G hc k_a0 FU 0 0 x6 hl_4 he_27_n3) rfl
def f_L_copy_l2_3 (a0 : Nat) (a1 : Nat) (a2 : Int32) : Nat → Int32 → G_ → Option (G_)
  | 0, _, _ => none
  | n3 + 1, v1, G2 =>
    if a2 ≤ v1 then (
      some (G2))
    else (
      chk (inb v1 8) <|
      chk (inb v1 8) <|
      nm (sI G2 a1 (ix v1) (G2.1 a0 (ix v1))) fun G6 =>
      f_L_copy_l2_3 a0 a1 a2 n3 (v1 + 1) G6)
def f_L_copy (a0 : Nat) (a1 : Nat) (a2 : Int32) (G : G_) : Option G_ :=
  bj1 (f_L_copy_l2_3 a0 a1 a2 FU 0 G) fun G7 =>
  some G7
set_option maxHeartbeats 4000000 in
set_option maxRecDepth 100000 in
theorem c_L_copy_l2_3 {K : CT} (a0 : Nat) (a1 : Nat) (a2 : Int32) (hc : Ok K cL_copy RL (Cond.code yL_copy cL_copy 4 none :: TB) none 0 0 4) (k_a0 : AOK (kV K) a0 8) (k_a1 : AOK (kV K) a1 8) : ∀ (n3 : Nat) (v1 : Int32) (G2 : G_) (G7 : G_), f_L_copy_l2_3 a0 a1 a2 n3 v1 G2 = some (G7) → X K 19 [] [] G7 → X K 2 [(0, .ref (kad K a0)), (1, .ref (kad K a1)), (2, .int a2), (3, .int v1)] [] G2 := by
  intro n3
  induction n3 with
  | zero =>
    intro v1 G2 G7 hf hk
    cases hf
  | succ n3 ih =>
    intro v1 G2 G7 hf hk
    unfold f_L_copy_l2_3 at hf
    refine x_iload_n hc 3 dL_copy_2 rfl rfl ?_
    refine x_iload_n hc 2 dL_copy_3 rfl rfl ?_
    refine x_icmp_ge (tgt := 19) hc dL_copy_4 rfl (fun c_4 => ?_) (fun c_4 => ?_)
    · replace hf := if_p hf c_4
      cases hf
      exact x_sub [] hk rfl
    · replace hf := if_n hf c_4
      refine x_aload_n hc 1 dL_copy_7 rfl rfl ?_
      refine x_iload_n hc 3 dL_copy_8 rfl rfl ?_
      refine x_aload_n hc 0 dL_copy_9 rfl rfl ?_
      refine x_iload_n hc 3 dL_copy_10 rfl rfl ?_
      obtain ⟨h4, hf⟩ := chk_ok hf
      refine x_ialoadA (p0 := a0) hc k_a0 h4 dL_copy_11 ?_
      obtain ⟨h5, hf⟩ := chk_ok hf
      refine x_iastoreA (p0 := a1) hc k_a1 h5 dL_copy_12 ?_
      refine x_nmg (fun G6 e_G6 => ?_)
      replace hf := nm_ok hf G6 e_G6
      refine x_iinc (v := v1 + 1) (L' := [(0, .ref (kad K a0)), (1, .ref (kad K a1)), (2, .int a2), (3, .int (v1 + 1))]) hc 3 [1, 2, 3, 0] dL_copy_13 rfl rfl (by decide) rfl ?_
      refine x_goto (tgt := 2) hc dL_copy_16 rfl ?_
      exact x_sub [0, 1, 2, 3] (ih _ _ _ hf hk) rfl
set_option maxHeartbeats 4000000 in
set_option maxRecDepth 100000 in
theorem c_L_copy (l : Launch) (V : VT) (a0 : Nat) (a1 : Nat) (a2 : Int32) (G : G_) (G' : G_) (k_a0 : AOK V a0 8) (k_a1 : AOK V a1 8) (hf : f_L_copy a0 a1 a2 G = some G') : MC l V yL_copy cL_copy 4 none 0 0 [.ref (V.2.2.1 a0), .ref (V.2.2.1 a1), .int a2] G none G' := by
  refine mc_of (by decide) (Nat.le_of_ble_eq_true rfl) (fun K hV ho hc hkl => ?_)
  subst hV
  replace hc : Ok K cL_copy RL (Cond.code yL_copy cL_copy 4 none :: TB) none 0 0 4 := hc
  replace ho : Rets K none G' := ho
  show X K 0 [(0, .ref (kad K a0)), (1, .ref (kad K a1)), (2, .int a2)] [] G
  unfold f_L_copy at hf
  refine x_iconst (v := 0) hc rfl dL_copy_0 ?_
  refine x_istore_n (L' := [(0, .ref (kad K a0)), (1, .ref (kad K a1)), (2, .int a2), (3, .int 0)]) hc [1, 2, 3, 0] dL_copy_1 rfl (by decide) rfl ?_
  obtain ⟨G7, hl_2, hf⟩ := bj1_ok hf
  have he_19_n3 : X K 19 [] [] G7 := by
    clear hl_2
    cases hf
    exact x_vret hc rfl ho dL_copy_19
  exact x_sub [0, 1, 2, 3] (c_L_copy_l2_3 a0 a1 a2 hc k_a0 k_a1 FU 0 G G7 hl_2 he_19_n3) rfl
def f_L_numbers (sl : Nat) (xs : Nat → Int32) (a1 : Int32) (a2 : Nat) (G : G_) : Option G_ :=
  bj1 (f_L_cell sl xs a1 G) fun x1 =>
  chk (inb 0 8) <|
  nm (sI G a2 (ix 0) (3 + (x1 - x1 / 12 * 12))) fun G4 =>
  bj1 (f_L_cell sl xs (a1 + 1) G4) fun x5 =>
  chk (inb 1 8) <|
  nm (sI G4 a2 (ix 1) (x5 - x5 / 30 * 30)) fun G8 =>
  bj1 (f_L_cell sl xs (a1 + 2) G8) fun x9 =>
  bj1 (
    if x9 - x9 / 2 * 2 = 0 then (
      some (0))
    else (
      bj1 (f_L_cell sl xs (a1 + 2) G8) fun x12 =>
      some ((x12 / 2) - (x12 / 2) / 61 * 61))) fun (x14 : Int32) =>
  chk (inb 2 8) <|
  nm (sI G8 a2 (ix 2) x14) fun G16 =>
  bj1 (f_L_cell sl xs (a1 + 3) G16) fun x17 =>
  chk (inb 3 8) <|
  nm (sI G16 a2 (ix 3) (x17 - x17 / 10 * 10)) fun G20 =>
  some G20
set_option maxHeartbeats 4000000 in
set_option maxRecDepth 100000 in
theorem c_L_numbers (l : Launch) (V : VT) (sl : Nat) (xs : Nat → Int32) (a1 : Int32) (a2 : Nat) (G : G_) (G' : G_) (k_sc : SCO V sl xs) (k_a2 : AOK V a2 8) (hf : f_L_numbers sl xs a1 a2 G = some G') : MC l V yL_numbers cL_numbers 3 none 1 21 [.ref (vSB V), .int a1, .ref (V.2.2.1 a2)] G none G' := by
  refine mc_of (by decide) (Nat.le_of_ble_eq_true rfl) (fun K hV ho hc hkl => ?_)
  subst hV
  replace hc : Ok K cL_numbers RL (Cond.code yL_numbers cL_numbers 3 none :: TB) none 1 21 3 := hc
  replace ho : Rets K none G' := ho
  show X K 0 [(0, .ref (vSB (kV K))), (1, .int a1), (2, .ref (kad K a2))] [] G
  unfold f_L_numbers at hf
  refine x_aload_n hc 2 dL_numbers_0 rfl rfl ?_
  refine x_iconst (v := 0) hc rfl dL_numbers_1 ?_
  refine x_iconst (v := 3) hc rfl dL_numbers_2 ?_
  refine x_aload_n hc 0 dL_numbers_3 rfl rfl ?_
  refine x_iload_n hc 1 dL_numbers_4 rfl rfl ?_
  obtain ⟨x1, r2, hf⟩ := bj1_ok hf
  refine x_callSr (As := [.ref (vSB (kV K)), .int a1]) (v := (.int x1)) hc (c_L_cell (kl K) (kV K) sl xs a1 G x1 k_sc r2) mw_L_cell tw_690 rfl (Nat.le_of_ble_eq_true rfl) ⟨Nat.le_of_ble_eq_true rfl, Nat.le_of_ble_eq_true rfl⟩ dL_numbers_5 rfl ?_
  refine x_bipush (v := 12) hc rfl dL_numbers_8 ?_
  refine x_irem hc (by decide) dL_numbers_10 ?_
  refine x_iadd hc dL_numbers_11 ?_
  obtain ⟨h3, hf⟩ := chk_ok hf
  refine x_iastoreA (p0 := a2) hc k_a2 h3 dL_numbers_12 ?_
  refine x_nmg (fun G4 e_G4 => ?_)
  replace hf := nm_ok hf G4 e_G4
  refine x_aload_n hc 2 dL_numbers_13 rfl rfl ?_
  refine x_iconst (v := 1) hc rfl dL_numbers_14 ?_
  refine x_aload_n hc 0 dL_numbers_15 rfl rfl ?_
  refine x_iload_n hc 1 dL_numbers_16 rfl rfl ?_
  refine x_iconst (v := 1) hc rfl dL_numbers_17 ?_
  refine x_iadd hc dL_numbers_18 ?_
  obtain ⟨x5, r6, hf⟩ := bj1_ok hf
  refine x_callSr (As := [.ref (vSB (kV K)), .int (a1 + 1)]) (v := (.int x5)) hc (c_L_cell (kl K) (kV K) sl xs (a1 + 1) G4 x5 k_sc r6) mw_L_cell tw_690 rfl (Nat.le_of_ble_eq_true rfl) ⟨Nat.le_of_ble_eq_true rfl, Nat.le_of_ble_eq_true rfl⟩ dL_numbers_19 rfl ?_
  refine x_bipush (v := 30) hc rfl dL_numbers_22 ?_
  refine x_irem hc (by decide) dL_numbers_24 ?_
  obtain ⟨h7, hf⟩ := chk_ok hf
  refine x_iastoreA (p0 := a2) hc k_a2 h7 dL_numbers_25 ?_
  refine x_nmg (fun G8 e_G8 => ?_)
  replace hf := nm_ok hf G8 e_G8
  refine x_aload_n hc 2 dL_numbers_26 rfl rfl ?_
  refine x_iconst (v := 2) hc rfl dL_numbers_27 ?_
  refine x_aload_n hc 0 dL_numbers_28 rfl rfl ?_
  refine x_iload_n hc 1 dL_numbers_29 rfl rfl ?_
  refine x_iconst (v := 2) hc rfl dL_numbers_30 ?_
  refine x_iadd hc dL_numbers_31 ?_
  obtain ⟨x9, r10, hf⟩ := bj1_ok hf
  refine x_callSr (As := [.ref (vSB (kV K)), .int (a1 + 2)]) (v := (.int x9)) hc (c_L_cell (kl K) (kV K) sl xs (a1 + 2) G8 x9 k_sc r10) mw_L_cell tw_690 rfl (Nat.le_of_ble_eq_true rfl) ⟨Nat.le_of_ble_eq_true rfl, Nat.le_of_ble_eq_true rfl⟩ dL_numbers_32 rfl ?_
  refine x_iconst (v := 2) hc rfl dL_numbers_35 ?_
  refine x_irem hc (by decide) dL_numbers_36 ?_
  obtain ⟨x14, hr, hf⟩ := bj1_ok hf
  have hj_56_11 : X K 56 [(0, .ref (vSB (kV K))), (1, .int a1), (2, .ref (kad K a2))] [.int x14, .int 2, .ref (kad K a2)] G8 := by
    clear hr
    obtain ⟨h15, hf⟩ := chk_ok hf
    refine x_iastoreA (p0 := a2) hc k_a2 h15 dL_numbers_56 ?_
    refine x_nmg (fun G16 e_G16 => ?_)
    replace hf := nm_ok hf G16 e_G16
    refine x_aload_n hc 2 dL_numbers_57 rfl rfl ?_
    refine x_iconst (v := 3) hc rfl dL_numbers_58 ?_
    refine x_aload_n hc 0 dL_numbers_59 rfl rfl ?_
    refine x_iload_n hc 1 dL_numbers_60 rfl rfl ?_
    refine x_iconst (v := 3) hc rfl dL_numbers_61 ?_
    refine x_iadd hc dL_numbers_62 ?_
    obtain ⟨x17, r18, hf⟩ := bj1_ok hf
    refine x_callSr (As := [.ref (vSB (kV K)), .int (a1 + 3)]) (v := (.int x17)) hc (c_L_cell (kl K) (kV K) sl xs (a1 + 3) G16 x17 k_sc r18) mw_L_cell tw_690 rfl (Nat.le_of_ble_eq_true rfl) ⟨Nat.le_of_ble_eq_true rfl, Nat.le_of_ble_eq_true rfl⟩ dL_numbers_63 rfl ?_
    refine x_bipush (v := 10) hc rfl dL_numbers_66 ?_
    refine x_irem hc (by decide) dL_numbers_68 ?_
    obtain ⟨h19, hf⟩ := chk_ok hf
    refine x_iastoreA (p0 := a2) hc k_a2 h19 dL_numbers_69 ?_
    refine x_nmg (fun G20 e_G20 => ?_)
    replace hf := nm_ok hf G20 e_G20
    cases hf
    exact x_vret hc rfl ho dL_numbers_70
  replace hf := hr
  clear hr
  refine x_if_ne (tgt := 44) hc dL_numbers_37 rfl (fun c_37 => ?_) (fun c_37 => ?_)
  · replace hf := if_n hf c_37
    refine x_aload_n hc 0 dL_numbers_44 rfl rfl ?_
    refine x_iload_n hc 1 dL_numbers_45 rfl rfl ?_
    refine x_iconst (v := 2) hc rfl dL_numbers_46 ?_
    refine x_iadd hc dL_numbers_47 ?_
    obtain ⟨x12, r13, hf⟩ := bj1_ok hf
    refine x_callSr (As := [.ref (vSB (kV K)), .int (a1 + 2)]) (v := (.int x12)) hc (c_L_cell (kl K) (kV K) sl xs (a1 + 2) G8 x12 k_sc r13) mw_L_cell tw_690 rfl (Nat.le_of_ble_eq_true rfl) ⟨Nat.le_of_ble_eq_true rfl, Nat.le_of_ble_eq_true rfl⟩ dL_numbers_48 rfl ?_
    refine x_iconst (v := 2) hc rfl dL_numbers_51 ?_
    refine x_idiv hc (by decide) dL_numbers_52 ?_
    refine x_bipush (v := 61) hc rfl dL_numbers_53 ?_
    refine x_irem hc (by decide) dL_numbers_55 ?_
    cases hf
    exact x_sub [0, 1, 2] hj_56_11 rfl
  · replace hf := if_p hf c_37
    refine x_iconst (v := 0) hc rfl dL_numbers_40 ?_
    refine x_goto (tgt := 56) hc dL_numbers_41 rfl ?_
    cases hf
    exact x_sub [0, 1, 2] hj_56_11 rfl
def f_L_plans_l15_8 (a1 : Int32) (a3 : Nat) (sl : Nat) (xs : Nat → Int32) : Nat → Int32 → G_ → Option (G_)
  | 0, _, _ => none
  | n8 + 1, v6, G7 =>
    chk (inb 0 40) <|
    if G7.1 a3 (ix 0) ≤ v6 then (
      some (G7))
    else (
      bj1 (f_L_cell sl xs ((a1 + 1) + v6) G7) fun x10 =>
      bj1 (
        if 3 ≤ x10 - x10 / 8 * 8 then (
          some ((x10 - x10 / 8 * 8) - 1))
        else (
          some (1))) fun (x13 : Int32) =>
      chk (inb (1 + (3 * v6)) 40) <|
      nm (sI G7 a3 (ix (1 + (3 * v6))) x13) fun G15 =>
      bj1 (
        if x13 ≤ 3 then (
          if x13 = 1 then (
            some (14 + ((x10 / 8) - (x10 / 8) / 17 * 17)))
          else (
            if x13 = 2 then (
              some (8 + ((x10 / 8) - (x10 / 8) / 20 * 20)))
            else (
              some (5 + ((x10 / 8) - (x10 / 8) / 5 * 5)))))
        else (
          some (0))) fun (x17 : Int32) =>
      chk (inb (2 + (3 * v6)) 40) <|
      nm (sI G15 a3 (ix (2 + (3 * v6))) x17) fun G19 =>
      bj1 (
        if x13 ≤ 4 then (
          some (1 + ((x10 / 512) - (x10 / 512) / 18 * 18)))
        else (
          some (0))) fun (x21 : Int32) =>
      chk (inb (3 + (3 * v6)) 40) <|
      nm (sI G19 a3 (ix (3 + (3 * v6))) x21) fun G23 =>
      f_L_plans_l15_8 a1 a3 sl xs n8 (v6 + 1) G23)
def f_L_plans (sl : Nat) (xs : Nat → Int32) (a1 : Int32) (a2 : Int32) (a3 : Nat) (G : G_) : Option G_ :=
  bj1 (f_L_cell sl xs a1 G) fun x1 =>
  chk (a2 != 0) <|
  chk (inb 0 40) <|
  nm (sI G a3 (ix 0) (1 + (x1 - x1 / a2 * a2))) fun G5 =>
  bj1 (f_L_plans_l15_8 a1 a3 sl xs FU 0 G5) fun G24 =>
  some G24
set_option maxHeartbeats 4000000 in
set_option maxRecDepth 100000 in
theorem c_L_plans_l15_8 {K : CT} (a1 : Int32) (a3 : Nat) (sl : Nat) (xs : Nat → Int32) (hc : Ok K cL_plans RL (Cond.code yL_plans cL_plans 7 none :: TB) none 1 21 7) (k_a3 : AOK (kV K) a3 40) (k_sc : SCO (kV K) sl xs) : ∀ (n8 : Nat) (v6 : Int32) (G7 : G_) (G24 : G_), f_L_plans_l15_8 a1 a3 sl xs n8 v6 G7 = some (G24) → X K 170 [] [] G24 → X K 15 [(0, .ref (vSB (kV K))), (1, .int a1), (3, .ref (kad K a3)), (4, .int v6)] [] G7 := by
  intro n8
  induction n8 with
  | zero =>
    intro v6 G7 G24 hf hk
    cases hf
  | succ n8 ih =>
    intro v6 G7 G24 hf hk
    unfold f_L_plans_l15_8 at hf
    refine x_iload hc 3 dL_plans_15 rfl ?_
    refine x_aload_n hc 2 dL_plans_17 rfl rfl ?_
    refine x_iconst (v := 0) hc rfl dL_plans_18 ?_
    obtain ⟨h9, hf⟩ := chk_ok hf
    refine x_ialoadA (p0 := a3) hc k_a3 h9 dL_plans_19 ?_
    refine x_icmp_ge (tgt := 170) hc dL_plans_20 rfl (fun c_20 => ?_) (fun c_20 => ?_)
    · replace hf := if_p hf c_20
      cases hf
      exact x_sub [] hk rfl
    · replace hf := if_n hf c_20
      refine x_aload_n hc 0 dL_plans_23 rfl rfl ?_
      refine x_iload_n hc 1 dL_plans_24 rfl rfl ?_
      refine x_iconst (v := 1) hc rfl dL_plans_25 ?_
      refine x_iadd hc dL_plans_26 ?_
      refine x_iload hc 3 dL_plans_27 rfl ?_
      refine x_iadd hc dL_plans_29 ?_
      obtain ⟨x10, r11, hf⟩ := bj1_ok hf
      refine x_callSr (As := [.ref (vSB (kV K)), .int ((a1 + 1) + v6)]) (v := (.int x10)) hc (c_L_cell (kl K) (kV K) sl xs ((a1 + 1) + v6) G7 x10 k_sc r11) mw_L_cell tw_690 rfl (Nat.le_of_ble_eq_true rfl) ⟨Nat.le_of_ble_eq_true rfl, Nat.le_of_ble_eq_true rfl⟩ dL_plans_30 rfl ?_
      refine x_istore (L' := [(0, .ref (vSB (kV K))), (1, .int a1), (3, .ref (kad K a3)), (4, .int v6), (5, .int x10)]) hc [1, 2, 3, 4, 0] dL_plans_33 (by decide) rfl ?_
      refine x_iload hc 4 dL_plans_35 rfl ?_
      refine x_bipush (v := 8) hc rfl dL_plans_37 ?_
      refine x_irem hc (by decide) dL_plans_39 ?_
      refine x_istore (L' := [(0, .ref (vSB (kV K))), (1, .int a1), (3, .ref (kad K a3)), (4, .int v6), (5, .int x10), (6, .int (x10 - x10 / 8 * 8))]) hc [1, 2, 3, 4, 5, 0] dL_plans_40 (by decide) rfl ?_
      refine x_iload hc 5 dL_plans_42 rfl ?_
      refine x_iconst (v := 3) hc rfl dL_plans_44 ?_
      obtain ⟨x13, hr, hf⟩ := bj1_ok hf
      have hj_56_12 : X K 56 [(0, .ref (vSB (kV K))), (1, .int a1), (3, .ref (kad K a3)), (4, .int v6), (5, .int x10)] [.int x13] G7 := by
        clear hr
        refine x_istore (L' := [(0, .ref (vSB (kV K))), (1, .int a1), (3, .ref (kad K a3)), (4, .int v6), (5, .int x10), (6, .int x13)]) hc [1, 2, 3, 4, 5, 0] dL_plans_56 (by decide) rfl ?_
        refine x_aload_n hc 2 dL_plans_58 rfl rfl ?_
        refine x_iconst (v := 1) hc rfl dL_plans_59 ?_
        refine x_iconst (v := 3) hc rfl dL_plans_60 ?_
        refine x_iload hc 3 dL_plans_61 rfl ?_
        refine x_imul hc dL_plans_63 ?_
        refine x_iadd hc dL_plans_64 ?_
        refine x_iload hc 5 dL_plans_65 rfl ?_
        obtain ⟨h14, hf⟩ := chk_ok hf
        refine x_iastoreA (p0 := a3) hc k_a3 h14 dL_plans_67 ?_
        refine x_nmg (fun G15 e_G15 => ?_)
        replace hf := nm_ok hf G15 e_G15
        refine x_aload_n hc 2 dL_plans_68 rfl rfl ?_
        refine x_iconst (v := 2) hc rfl dL_plans_69 ?_
        refine x_iconst (v := 3) hc rfl dL_plans_70 ?_
        refine x_iload hc 3 dL_plans_71 rfl ?_
        refine x_imul hc dL_plans_73 ?_
        refine x_iadd hc dL_plans_74 ?_
        refine x_iload hc 5 dL_plans_75 rfl ?_
        refine x_iconst (v := 3) hc rfl dL_plans_77 ?_
        obtain ⟨x17, hr, hf⟩ := bj1_ok hf
        have hj_134_16 : X K 134 [(0, .ref (vSB (kV K))), (1, .int a1), (3, .ref (kad K a3)), (4, .int v6), (5, .int x10), (6, .int x13)] [.int x17, .int (2 + (3 * v6)), .ref (kad K a3)] G15 := by
          clear hr
          obtain ⟨h18, hf⟩ := chk_ok hf
          refine x_iastoreA (p0 := a3) hc k_a3 h18 dL_plans_134 ?_
          refine x_nmg (fun G19 e_G19 => ?_)
          replace hf := nm_ok hf G19 e_G19
          refine x_aload_n hc 2 dL_plans_135 rfl rfl ?_
          refine x_iconst (v := 3) hc rfl dL_plans_136 ?_
          refine x_iconst (v := 3) hc rfl dL_plans_137 ?_
          refine x_iload hc 3 dL_plans_138 rfl ?_
          refine x_imul hc dL_plans_140 ?_
          refine x_iadd hc dL_plans_141 ?_
          refine x_iload hc 5 dL_plans_142 rfl ?_
          refine x_iconst (v := 4) hc rfl dL_plans_144 ?_
          obtain ⟨x21, hr, hf⟩ := bj1_ok hf
          have hj_163_20 : X K 163 [(0, .ref (vSB (kV K))), (1, .int a1), (3, .ref (kad K a3)), (4, .int v6)] [.int x21, .int (3 + (3 * v6)), .ref (kad K a3)] G19 := by
            clear hr
            obtain ⟨h22, hf⟩ := chk_ok hf
            refine x_iastoreA (p0 := a3) hc k_a3 h22 dL_plans_163 ?_
            refine x_nmg (fun G23 e_G23 => ?_)
            replace hf := nm_ok hf G23 e_G23
            refine x_iinc (v := v6 + 1) (L' := [(0, .ref (vSB (kV K))), (1, .int a1), (3, .ref (kad K a3)), (4, .int (v6 + 1))]) hc 3 [1, 2, 3, 0] dL_plans_164 rfl rfl (by decide) rfl ?_
            refine x_goto (tgt := 15) hc dL_plans_167 rfl ?_
            exact x_sub [0, 1, 2, 3] (ih _ _ _ hf hk) rfl
          replace hf := hr
          clear hr
          refine x_icmp_le (tgt := 152) hc dL_plans_145 rfl (fun c_145 => ?_) (fun c_145 => ?_)
          · replace hf := if_p hf c_145
            refine x_iconst (v := 1) hc rfl dL_plans_152 ?_
            refine x_iload hc 4 dL_plans_153 rfl ?_
            refine x_sipush (v := 512) hc rfl dL_plans_155 ?_
            refine x_idiv hc (by decide) dL_plans_158 ?_
            refine x_bipush (v := 18) hc rfl dL_plans_159 ?_
            refine x_irem hc (by decide) dL_plans_161 ?_
            refine x_iadd hc dL_plans_162 ?_
            cases hf
            exact x_sub [0, 1, 2, 3] hj_163_20 rfl
          · replace hf := if_n hf c_145
            refine x_iconst (v := 0) hc rfl dL_plans_148 ?_
            refine x_goto (tgt := 163) hc dL_plans_149 rfl ?_
            cases hf
            exact x_sub [0, 1, 2, 3] hj_163_20 rfl
        replace hf := hr
        clear hr
        refine x_icmp_le (tgt := 85) hc dL_plans_78 rfl (fun c_78 => ?_) (fun c_78 => ?_)
        · replace hf := if_p hf c_78
          refine x_iload hc 5 dL_plans_85 rfl ?_
          refine x_iconst (v := 1) hc rfl dL_plans_87 ?_
          refine x_icmp_ne (tgt := 105) hc dL_plans_88 rfl (fun c_88 => ?_) (fun c_88 => ?_)
          · replace hf := if_n hf c_88
            refine x_iload hc 5 dL_plans_105 rfl ?_
            refine x_iconst (v := 2) hc rfl dL_plans_107 ?_
            refine x_icmp_ne (tgt := 125) hc dL_plans_108 rfl (fun c_108 => ?_) (fun c_108 => ?_)
            · replace hf := if_n hf c_108
              refine x_iconst (v := 5) hc rfl dL_plans_125 ?_
              refine x_iload hc 4 dL_plans_126 rfl ?_
              refine x_bipush (v := 8) hc rfl dL_plans_128 ?_
              refine x_idiv hc (by decide) dL_plans_130 ?_
              refine x_iconst (v := 5) hc rfl dL_plans_131 ?_
              refine x_irem hc (by decide) dL_plans_132 ?_
              refine x_iadd hc dL_plans_133 ?_
              cases hf
              exact x_sub [0, 1, 2, 3, 4, 5] hj_134_16 rfl
            · replace hf := if_p hf c_108
              refine x_bipush (v := 8) hc rfl dL_plans_111 ?_
              refine x_iload hc 4 dL_plans_113 rfl ?_
              refine x_bipush (v := 8) hc rfl dL_plans_115 ?_
              refine x_idiv hc (by decide) dL_plans_117 ?_
              refine x_bipush (v := 20) hc rfl dL_plans_118 ?_
              refine x_irem hc (by decide) dL_plans_120 ?_
              refine x_iadd hc dL_plans_121 ?_
              refine x_goto (tgt := 134) hc dL_plans_122 rfl ?_
              cases hf
              exact x_sub [0, 1, 2, 3, 4, 5] hj_134_16 rfl
          · replace hf := if_p hf c_88
            refine x_bipush (v := 14) hc rfl dL_plans_91 ?_
            refine x_iload hc 4 dL_plans_93 rfl ?_
            refine x_bipush (v := 8) hc rfl dL_plans_95 ?_
            refine x_idiv hc (by decide) dL_plans_97 ?_
            refine x_bipush (v := 17) hc rfl dL_plans_98 ?_
            refine x_irem hc (by decide) dL_plans_100 ?_
            refine x_iadd hc dL_plans_101 ?_
            refine x_goto (tgt := 134) hc dL_plans_102 rfl ?_
            cases hf
            exact x_sub [0, 1, 2, 3, 4, 5] hj_134_16 rfl
        · replace hf := if_n hf c_78
          refine x_iconst (v := 0) hc rfl dL_plans_81 ?_
          refine x_goto (tgt := 134) hc dL_plans_82 rfl ?_
          cases hf
          exact x_sub [0, 1, 2, 3, 4, 5] hj_134_16 rfl
      replace hf := hr
      clear hr
      refine x_icmp_ge (tgt := 52) hc dL_plans_45 rfl (fun c_45 => ?_) (fun c_45 => ?_)
      · replace hf := if_p hf c_45
        refine x_iload hc 5 dL_plans_52 rfl ?_
        refine x_iconst (v := 1) hc rfl dL_plans_54 ?_
        refine x_isub hc dL_plans_55 ?_
        cases hf
        exact x_sub [0, 1, 2, 3, 4] hj_56_12 rfl
      · replace hf := if_n hf c_45
        refine x_iconst (v := 1) hc rfl dL_plans_48 ?_
        refine x_goto (tgt := 56) hc dL_plans_49 rfl ?_
        cases hf
        exact x_sub [0, 1, 2, 3, 4] hj_56_12 rfl
set_option maxHeartbeats 4000000 in
set_option maxRecDepth 100000 in
theorem c_L_plans (l : Launch) (V : VT) (sl : Nat) (xs : Nat → Int32) (a1 : Int32) (a2 : Int32) (a3 : Nat) (G : G_) (G' : G_) (k_sc : SCO V sl xs) (k_a3 : AOK V a3 40) (hf : f_L_plans sl xs a1 a2 a3 G = some G') : MC l V yL_plans cL_plans 7 none 1 21 [.ref (vSB V), .int a1, .int a2, .ref (V.2.2.1 a3)] G none G' := by
  refine mc_of (by decide) (Nat.le_of_ble_eq_true rfl) (fun K hV ho hc hkl => ?_)
  subst hV
  replace hc : Ok K cL_plans RL (Cond.code yL_plans cL_plans 7 none :: TB) none 1 21 7 := hc
  replace ho : Rets K none G' := ho
  show X K 0 [(0, .ref (vSB (kV K))), (1, .int a1), (2, .int a2), (3, .ref (kad K a3))] [] G
  unfold f_L_plans at hf
  refine x_aload_n hc 3 dL_plans_0 rfl rfl ?_
  refine x_iconst (v := 0) hc rfl dL_plans_1 ?_
  refine x_iconst (v := 1) hc rfl dL_plans_2 ?_
  refine x_aload_n hc 0 dL_plans_3 rfl rfl ?_
  refine x_iload_n hc 1 dL_plans_4 rfl rfl ?_
  obtain ⟨x1, r2, hf⟩ := bj1_ok hf
  refine x_callSr (As := [.ref (vSB (kV K)), .int a1]) (v := (.int x1)) hc (c_L_cell (kl K) (kV K) sl xs a1 G x1 k_sc r2) mw_L_cell tw_690 rfl (Nat.le_of_ble_eq_true rfl) ⟨Nat.le_of_ble_eq_true rfl, Nat.le_of_ble_eq_true rfl⟩ dL_plans_5 rfl ?_
  refine x_iload_n hc 2 dL_plans_8 rfl rfl ?_
  obtain ⟨h3, hf⟩ := chk_ok hf
  refine x_irem hc (by simpa using h3) dL_plans_9 ?_
  refine x_iadd hc dL_plans_10 ?_
  obtain ⟨h4, hf⟩ := chk_ok hf
  refine x_iastoreA (p0 := a3) hc k_a3 h4 dL_plans_11 ?_
  refine x_nmg (fun G5 e_G5 => ?_)
  replace hf := nm_ok hf G5 e_G5
  refine x_iconst (v := 0) hc rfl dL_plans_12 ?_
  refine x_istore (L' := [(0, .ref (vSB (kV K))), (1, .int a1), (3, .ref (kad K a3)), (4, .int 0)]) hc [1, 2, 4, 0] dL_plans_13 (by decide) rfl ?_
  obtain ⟨G24, hl_15, hf⟩ := bj1_ok hf
  have he_170_n8 : X K 170 [] [] G24 := by
    clear hl_15
    cases hf
    exact x_vret hc rfl ho dL_plans_170
  exact x_sub [0, 1, 2, 3] (c_L_plans_l15_8 a1 a3 sl xs hc k_a3 k_sc FU 0 G5 G24 hl_15 he_170_n8) rfl
def f_L_tells (a1 : Int32) (G : G_) : Option Int32 :=
  if a1 = 1 then (
    bj1 (f_X7_asked G) fun x1 =>
    some x1)
  else (
    some (-7777))
set_option maxHeartbeats 4000000 in
set_option maxRecDepth 100000 in
theorem c_L_tells (l : Launch) (V : VT) (a1 : Int32) (G : G_) (r : Int32) (hf : f_L_tells a1 G = some r) : MC l V yL_tells cL_tells 2 (some .int) 1 20 [.ref (V.2.2.1 0), .int a1] G (some (.int r)) G := by
  refine mc_of (by decide) (Nat.le_of_ble_eq_true rfl) (fun K hV ho hc hkl => ?_)
  subst hV
  replace hc : Ok K cL_tells RL (Cond.code yL_tells cL_tells 2 (some .int) :: TB) (some .int) 1 20 2 := hc
  replace ho : Rets K (some (.int r)) G := ho
  show X K 0 [(0, .ref (kad K 0)), (1, .int a1)] [] G
  unfold f_L_tells at hf
  refine x_iload_n hc 1 dL_tells_0 rfl rfl ?_
  refine x_iconst (v := 1) hc rfl dL_tells_1 ?_
  refine x_icmp_ne (tgt := 12) hc dL_tells_2 rfl (fun c_2 => ?_) (fun c_2 => ?_)
  · replace hf := if_n hf c_2
    refine x_sipush (v := (-7777)) hc rfl dL_tells_12 ?_
    cases hf
    exact x_iret hc rfl ho dL_tells_15
  · replace hf := if_p hf c_2
    refine x_aload_n hc 0 dL_tells_5 rfl rfl ?_
    obtain ⟨x1, r2, hf⟩ := bj1_ok hf
    refine x_callVr (As := []) (p0 := 0) (v := (.int x1)) (T := TX7) hc (c_X7_asked (kl K) (kV K) G x1 r2) mw_X7_asked tw_602 (rfl : kd 0 = 7) (by decide) rfl rfl (Nat.le_of_ble_eq_true rfl) ⟨Nat.le_of_ble_eq_true rfl, Nat.le_of_ble_eq_true rfl⟩ dL_tells_6 rfl ?_
    refine x_goto (tgt := 15) hc dL_tells_9 rfl ?_
    cases hf
    exact x_iret hc rfl ho dL_tells_15
def f_L_put (a1 : Int32) (a2 : Int32) (G : G_) : Option (Int32 × G_) :=
  if a1 < 0 then (
    some ((-1000), G))
  else (
    bj2 (f_X7_put 3 a1 a2 G) fun x2 G1 =>
    if x2 = 1032 then (
      some (a1 + 1, G1))
    else (
      some ((-1000), G1)))
set_option maxHeartbeats 4000000 in
set_option maxRecDepth 100000 in
theorem c_L_put (l : Launch) (V : VT) (a1 : Int32) (a2 : Int32) (G : G_) (r : Int32) (G' : G_) (hf : f_L_put a1 a2 G = some (r, G')) : MC l V yL_put cL_put 3 (some .int) 3 68 [.ref (V.2.2.1 0), .int a1, .int a2] G (some (.int r)) G' := by
  refine mc_of (by decide) (Nat.le_of_ble_eq_true rfl) (fun K hV ho hc hkl => ?_)
  subst hV
  replace hc : Ok K cL_put RL (Cond.code yL_put cL_put 3 (some .int) :: TB) (some .int) 3 68 3 := hc
  replace ho : Rets K (some (.int r)) G' := ho
  show X K 0 [(0, .ref (kad K 0)), (1, .int a1), (2, .int a2)] [] G
  unfold f_L_put at hf
  refine x_iload_n hc 1 dL_put_0 rfl rfl ?_
  refine x_if_lt (tgt := 23) hc dL_put_1 rfl (fun c_1 => ?_) (fun c_1 => ?_)
  · replace hf := if_p hf c_1
    refine x_sipush (v := (-1000)) hc rfl dL_put_23 ?_
    cases hf
    exact x_iret hc rfl ho dL_put_26
  · replace hf := if_n hf c_1
    refine x_aload_n hc 0 dL_put_4 rfl rfl ?_
    refine x_iconst (v := 3) hc rfl dL_put_5 ?_
    refine x_iload_n hc 1 dL_put_6 rfl rfl ?_
    refine x_iload_n hc 2 dL_put_7 rfl rfl ?_
    obtain ⟨x2, G1, r3, hf⟩ := bj2_ok hf
    refine x_callVr (As := [.int 3, .int a1, .int a2]) (p0 := 0) (v := (.int x2)) (T := TX7) hc (c_X7_put (kl K) (kV K) 3 a1 a2 G x2 G1 r3) mw_X7_put tw_710 (rfl : kd 0 = 7) (by decide) rfl rfl (Nat.le_of_ble_eq_true rfl) ⟨Nat.le_of_ble_eq_true rfl, Nat.le_of_ble_eq_true rfl⟩ dL_put_8 rfl ?_
    refine x_sipush (v := 1032) hc rfl dL_put_11 ?_
    refine x_icmp_ne (tgt := 23) hc dL_put_14 rfl (fun c_14 => ?_) (fun c_14 => ?_)
    · replace hf := if_n hf c_14
      refine x_sipush (v := (-1000)) hc rfl dL_put_23 ?_
      cases hf
      exact x_iret hc rfl ho dL_put_26
    · replace hf := if_p hf c_14
      refine x_iload_n hc 1 dL_put_17 rfl rfl ?_
      refine x_iconst (v := 1) hc rfl dL_put_18 ?_
      refine x_iadd hc dL_put_19 ?_
      refine x_goto (tgt := 26) hc dL_put_20 rfl ?_
      cases hf
      exact x_iret hc rfl ho dL_put_26
def f_L_number (a1 : Int32) (a2 : Int32) (G : G_) : Option (Int32 × G_) :=
  if 10 ≤ a2 then (
    bj2 (f_L_put a1 (48 + (a2 / 10)) G) fun x2 G1 =>
    bj2 (f_L_put x2 (48 + (a2 - a2 / 10 * 10)) G1) fun x5 G4 =>
    some (x5, G4))
  else (
    bj2 (f_L_put a1 (48 + a2) G) fun x8 G7 =>
    some (x8, G7))
set_option maxHeartbeats 4000000 in
set_option maxRecDepth 100000 in
theorem c_L_number (l : Launch) (V : VT) (a1 : Int32) (a2 : Int32) (G : G_) (r : Int32) (G' : G_) (hf : f_L_number a1 a2 G = some (r, G')) : MC l V yL_number cL_number 3 (some .int) 4 90 [.ref (V.2.2.1 0), .int a1, .int a2] G (some (.int r)) G' := by
  refine mc_of (by decide) (Nat.le_of_ble_eq_true rfl) (fun K hV ho hc hkl => ?_)
  subst hV
  replace hc : Ok K cL_number RL (Cond.code yL_number cL_number 3 (some .int) :: TB) (some .int) 4 90 3 := hc
  replace ho : Rets K (some (.int r)) G' := ho
  show X K 0 [(0, .ref (kad K 0)), (1, .int a1), (2, .int a2)] [] G
  unfold f_L_number at hf
  refine x_iload_n hc 2 dL_number_0 rfl rfl ?_
  refine x_bipush (v := 10) hc rfl dL_number_1 ?_
  refine x_icmp_ge (tgt := 18) hc dL_number_3 rfl (fun c_3 => ?_) (fun c_3 => ?_)
  · replace hf := if_p hf c_3
    refine x_aload_n hc 0 dL_number_18 rfl rfl ?_
    refine x_aload_n hc 0 dL_number_19 rfl rfl ?_
    refine x_iload_n hc 1 dL_number_20 rfl rfl ?_
    refine x_bipush (v := 48) hc rfl dL_number_21 ?_
    refine x_iload_n hc 2 dL_number_23 rfl rfl ?_
    refine x_bipush (v := 10) hc rfl dL_number_24 ?_
    refine x_idiv hc (by decide) dL_number_26 ?_
    refine x_iadd hc dL_number_27 ?_
    obtain ⟨x2, G1, r3, hf⟩ := bj2_ok hf
    refine x_callSr (As := [.ref (kad K 0), .int a1, .int (48 + (a2 / 10))]) (v := (.int x2)) hc (c_L_put (kl K) (kV K) a1 (48 + (a2 / 10)) G x2 G1 r3) mw_L_put tw_707 rfl (Nat.le_of_ble_eq_true rfl) ⟨Nat.le_of_ble_eq_true rfl, Nat.le_of_ble_eq_true rfl⟩ dL_number_28 rfl ?_
    refine x_bipush (v := 48) hc rfl dL_number_31 ?_
    refine x_iload_n hc 2 dL_number_33 rfl rfl ?_
    refine x_bipush (v := 10) hc rfl dL_number_34 ?_
    refine x_irem hc (by decide) dL_number_36 ?_
    refine x_iadd hc dL_number_37 ?_
    obtain ⟨x5, G4, r6, hf⟩ := bj2_ok hf
    refine x_callSr (As := [.ref (kad K 0), .int x2, .int (48 + (a2 - a2 / 10 * 10))]) (v := (.int x5)) hc (c_L_put (kl K) (kV K) x2 (48 + (a2 - a2 / 10 * 10)) G1 x5 G4 r6) mw_L_put tw_707 rfl (Nat.le_of_ble_eq_true rfl) ⟨Nat.le_of_ble_eq_true rfl, Nat.le_of_ble_eq_true rfl⟩ dL_number_38 rfl ?_
    cases hf
    exact x_iret hc rfl ho dL_number_41
  · replace hf := if_n hf c_3
    refine x_aload_n hc 0 dL_number_6 rfl rfl ?_
    refine x_iload_n hc 1 dL_number_7 rfl rfl ?_
    refine x_bipush (v := 48) hc rfl dL_number_8 ?_
    refine x_iload_n hc 2 dL_number_10 rfl rfl ?_
    refine x_iadd hc dL_number_11 ?_
    obtain ⟨x8, G7, r9, hf⟩ := bj2_ok hf
    refine x_callSr (As := [.ref (kad K 0), .int a1, .int (48 + a2)]) (v := (.int x8)) hc (c_L_put (kl K) (kV K) a1 (48 + a2) G x8 G7 r9) mw_L_put tw_707 rfl (Nat.le_of_ble_eq_true rfl) ⟨Nat.le_of_ble_eq_true rfl, Nat.le_of_ble_eq_true rfl⟩ dL_number_12 rfl ?_
    refine x_goto (tgt := 41) hc dL_number_15 rfl ?_
    cases hf
    exact x_iret hc rfl ho dL_number_41
def f_L_slab_l19_7 (a1 : Int32) (a2 : Nat) : Nat → Int32 → Int32 → G_ → Option (Int32 × G_)
  | 0, _, _, _ => none
  | n7 + 1, v4, v5, G6 =>
    if 4 ≤ v5 then (
      some (v4, G6))
    else (
      bj1 (
        if v5 = 0 then (
          some (116))
        else (
          if v5 = 1 then (
            some (99))
          else (
            if v5 = 2 then (
              some (115))
            else (
              some (102))))) fun (x9 : Int32) =>
      bj2 (f_L_put v4 x9 G6) fun x11 G10 =>
      chk (inb v5 8) <|
      bj2 (f_L_number x11 (G10.1 a2 (ix v5)) G10) fun x15 G14 =>
      f_L_slab_l19_7 a1 a2 n7 x15 (v5 + 1) G14)
def f_L_slab (a1 : Int32) (a2 : Nat) (G : G_) : Option (Int32 × G_) :=
  bj2 (f_X7_text 3 24 G) fun x2 G1 =>
  if x2 = 24 then (
    bj2 (f_L_slab_l19_7 a1 a2 FU 1 0 G1) fun x17 G18 =>
    if x17 ≤ 0 then (
      some (0, G18))
    else (
      bj2 (f_X7_fault 3 0 G18) fun x20 G19 =>
      if x20 = (-9) then (
        bj2 (f_X7_slab a1 3 G19) fun x23 G22 =>
        if x23 = 4 then (
          some (1, G22))
        else (
          some (0, G22)))
      else (
        some (0, G19))))
  else (
    some (0, G1))
set_option maxHeartbeats 4000000 in
set_option maxRecDepth 100000 in
theorem c_L_slab_l19_7 {K : CT} (a1 : Int32) (a2 : Nat) (hc : Ok K cL_slab RL (Cond.code yL_slab cL_slab 5 (some .boolean) :: TB) (some .boolean) 6 138 5) (k_a2 : AOK (kV K) a2 8) : ∀ (n7 : Nat) (v4 : Int32) (v5 : Int32) (G6 : G_) (x17 : Int32) (G18 : G_), f_L_slab_l19_7 a1 a2 n7 v4 v5 G6 = some (x17, G18) → X K 79 [(0, .ref (kad K 0)), (1, .int a1), (3, .int x17)] [] G18 → X K 19 [(0, .ref (kad K 0)), (1, .int a1), (2, .ref (kad K a2)), (3, .int v4), (4, .int v5)] [] G6 := by
  intro n7
  induction n7 with
  | zero =>
    intro v4 v5 G6 x17 G18 hf hk
    cases hf
  | succ n7 ih =>
    intro v4 v5 G6 x17 G18 hf hk
    unfold f_L_slab_l19_7 at hf
    refine x_iload hc 4 dL_slab_19 rfl ?_
    refine x_iconst (v := 4) hc rfl dL_slab_21 ?_
    refine x_icmp_ge (tgt := 79) hc dL_slab_22 rfl (fun c_22 => ?_) (fun c_22 => ?_)
    · replace hf := if_p hf c_22
      cases hf
      exact x_sub [0, 1, 3] hk rfl
    · replace hf := if_n hf c_22
      refine x_aload_n hc 0 dL_slab_25 rfl rfl ?_
      refine x_aload_n hc 0 dL_slab_26 rfl rfl ?_
      refine x_iload_n hc 3 dL_slab_27 rfl rfl ?_
      refine x_iload hc 4 dL_slab_28 rfl ?_
      obtain ⟨x9, hr, hf⟩ := bj1_ok hf
      have hj_62_8 : X K 62 [(0, .ref (kad K 0)), (1, .int a1), (2, .ref (kad K a2)), (4, .int v5)] [.int x9, .int v4, .ref (kad K 0), .ref (kad K 0)] G6 := by
        clear hr
        obtain ⟨x11, G10, r12, hf⟩ := bj2_ok hf
        refine x_callSr (As := [.ref (kad K 0), .int v4, .int x9]) (v := (.int x11)) hc (c_L_put (kl K) (kV K) v4 x9 G6 x11 G10 r12) mw_L_put tw_707 rfl (Nat.le_of_ble_eq_true rfl) ⟨Nat.le_of_ble_eq_true rfl, Nat.le_of_ble_eq_true rfl⟩ dL_slab_62 rfl ?_
        refine x_aload_n hc 2 dL_slab_65 rfl rfl ?_
        refine x_iload hc 3 dL_slab_66 rfl ?_
        obtain ⟨h13, hf⟩ := chk_ok hf
        refine x_ialoadA (p0 := a2) hc k_a2 h13 dL_slab_68 ?_
        obtain ⟨x15, G14, r16, hf⟩ := bj2_ok hf
        refine x_callSr (As := [.ref (kad K 0), .int x11, .int (G10.1 a2 (ix v5))]) (v := (.int x15)) hc (c_L_number (kl K) (kV K) x11 (G10.1 a2 (ix v5)) G10 x15 G14 r16) mw_L_number tw_720 rfl (Nat.le_of_ble_eq_true rfl) ⟨Nat.le_of_ble_eq_true rfl, Nat.le_of_ble_eq_true rfl⟩ dL_slab_69 rfl ?_
        refine x_istore_n (L' := [(0, .ref (kad K 0)), (1, .int a1), (2, .ref (kad K a2)), (3, .int x15), (4, .int v5)]) hc [1, 2, 3, 0, 4] dL_slab_72 rfl (by decide) rfl ?_
        refine x_iinc (v := v5 + 1) (L' := [(0, .ref (kad K 0)), (1, .int a1), (2, .ref (kad K a2)), (3, .int x15), (4, .int (v5 + 1))]) hc 4 [1, 2, 3, 4, 0] dL_slab_73 rfl rfl (by decide) rfl ?_
        refine x_goto (tgt := 19) hc dL_slab_76 rfl ?_
        exact x_sub [0, 1, 2, 3, 4] (ih _ _ _ _ _ hf hk) rfl
      replace hf := hr
      clear hr
      refine x_if_ne (tgt := 38) hc dL_slab_30 rfl (fun c_30 => ?_) (fun c_30 => ?_)
      · replace hf := if_n hf c_30
        refine x_iload hc 4 dL_slab_38 rfl ?_
        refine x_iconst (v := 1) hc rfl dL_slab_40 ?_
        refine x_icmp_ne (tgt := 49) hc dL_slab_41 rfl (fun c_41 => ?_) (fun c_41 => ?_)
        · replace hf := if_n hf c_41
          refine x_iload hc 4 dL_slab_49 rfl ?_
          refine x_iconst (v := 2) hc rfl dL_slab_51 ?_
          refine x_icmp_ne (tgt := 60) hc dL_slab_52 rfl (fun c_52 => ?_) (fun c_52 => ?_)
          · replace hf := if_n hf c_52
            refine x_bipush (v := 102) hc rfl dL_slab_60 ?_
            cases hf
            exact x_sub [0, 1, 2, 4] hj_62_8 rfl
          · replace hf := if_p hf c_52
            refine x_bipush (v := 115) hc rfl dL_slab_55 ?_
            refine x_goto (tgt := 62) hc dL_slab_57 rfl ?_
            cases hf
            exact x_sub [0, 1, 2, 4] hj_62_8 rfl
        · replace hf := if_p hf c_41
          refine x_bipush (v := 99) hc rfl dL_slab_44 ?_
          refine x_goto (tgt := 62) hc dL_slab_46 rfl ?_
          cases hf
          exact x_sub [0, 1, 2, 4] hj_62_8 rfl
      · replace hf := if_p hf c_30
        refine x_bipush (v := 116) hc rfl dL_slab_33 ?_
        refine x_goto (tgt := 62) hc dL_slab_35 rfl ?_
        cases hf
        exact x_sub [0, 1, 2, 4] hj_62_8 rfl
set_option maxHeartbeats 4000000 in
set_option maxRecDepth 100000 in
theorem c_L_slab (l : Launch) (V : VT) (a1 : Int32) (a2 : Nat) (G : G_) (r : Int32) (G' : G_) (k_a2 : AOK V a2 8) (hf : f_L_slab a1 a2 G = some (r, G')) : MC l V yL_slab cL_slab 5 (some .boolean) 6 138 [.ref (V.2.2.1 0), .int a1, .ref (V.2.2.1 a2)] G (some (.int r)) G' := by
  refine mc_of (by decide) (Nat.le_of_ble_eq_true rfl) (fun K hV ho hc hkl => ?_)
  subst hV
  replace hc : Ok K cL_slab RL (Cond.code yL_slab cL_slab 5 (some .boolean) :: TB) (some .boolean) 6 138 5 := hc
  replace ho : Rets K (some (.int r)) G' := ho
  show X K 0 [(0, .ref (kad K 0)), (1, .int a1), (2, .ref (kad K a2))] [] G
  unfold f_L_slab at hf
  refine x_aload_n hc 0 dL_slab_0 rfl rfl ?_
  refine x_iconst (v := 3) hc rfl dL_slab_1 ?_
  refine x_bipush (v := 24) hc rfl dL_slab_2 ?_
  obtain ⟨x2, G1, r3, hf⟩ := bj2_ok hf
  refine x_callVr (As := [.int 3, .int 24]) (p0 := 0) (v := (.int x2)) (T := TX7) hc (c_X7_text (kl K) (kV K) 3 24 G x2 G1 r3) mw_X7_text tw_697 (rfl : kd 0 = 7) (by decide) rfl rfl (Nat.le_of_ble_eq_true rfl) ⟨Nat.le_of_ble_eq_true rfl, Nat.le_of_ble_eq_true rfl⟩ dL_slab_4 rfl ?_
  refine x_bipush (v := 24) hc rfl dL_slab_7 ?_
  refine x_icmp_eq (tgt := 14) hc dL_slab_9 rfl (fun c_9 => ?_) (fun c_9 => ?_)
  · replace hf := if_p hf c_9
    refine x_iconst (v := 1) hc rfl dL_slab_14 ?_
    refine x_istore_n (L' := [(0, .ref (kad K 0)), (1, .int a1), (2, .ref (kad K a2)), (3, .int 1)]) hc [1, 2, 3, 0] dL_slab_15 rfl (by decide) rfl ?_
    refine x_iconst (v := 0) hc rfl dL_slab_16 ?_
    refine x_istore (L' := [(0, .ref (kad K 0)), (1, .int a1), (2, .ref (kad K a2)), (3, .int 1), (4, .int 0)]) hc [1, 2, 3, 4, 0] dL_slab_17 (by decide) rfl ?_
    obtain ⟨x17, G18, hl_19, hf⟩ := bj2_ok hf
    have he_79_n7 : X K 79 [(0, .ref (kad K 0)), (1, .int a1), (3, .int x17)] [] G18 := by
      clear hl_19
      refine x_iload_n hc 2 dL_slab_79 rfl rfl ?_
      refine x_if_le (tgt := 108) hc dL_slab_80 rfl (fun c_80 => ?_) (fun c_80 => ?_)
      · replace hf := if_p hf c_80
        refine x_iconst (v := 0) hc rfl dL_slab_108 ?_
        cases hf
        exact x_zret hc rfl rfl ho dL_slab_109
      · replace hf := if_n hf c_80
        refine x_aload_n hc 0 dL_slab_83 rfl rfl ?_
        refine x_iconst (v := 3) hc rfl dL_slab_84 ?_
        refine x_iconst (v := 0) hc rfl dL_slab_85 ?_
        obtain ⟨x20, G19, r21, hf⟩ := bj2_ok hf
        refine x_callVr (As := [.int 3, .int 0]) (p0 := 0) (v := (.int x20)) (T := TX7) hc (c_X7_fault (kl K) (kV K) 3 0 G18 x20 G19 r21) mw_X7_fault tw_723 (rfl : kd 0 = 7) (by decide) rfl rfl (Nat.le_of_ble_eq_true rfl) ⟨Nat.le_of_ble_eq_true rfl, Nat.le_of_ble_eq_true rfl⟩ dL_slab_86 rfl ?_
        refine x_bipush (v := (-9)) hc rfl dL_slab_89 ?_
        refine x_icmp_ne (tgt := 108) hc dL_slab_91 rfl (fun c_91 => ?_) (fun c_91 => ?_)
        · replace hf := if_n hf c_91
          refine x_iconst (v := 0) hc rfl dL_slab_108 ?_
          cases hf
          exact x_zret hc rfl rfl ho dL_slab_109
        · replace hf := if_p hf c_91
          refine x_aload_n hc 0 dL_slab_94 rfl rfl ?_
          refine x_iload_n hc 1 dL_slab_95 rfl rfl ?_
          refine x_iconst (v := 3) hc rfl dL_slab_96 ?_
          obtain ⟨x23, G22, r24, hf⟩ := bj2_ok hf
          refine x_callVr (As := [.int a1, .int 3]) (p0 := 0) (v := (.int x23)) (T := TX7) hc (c_X7_slab (kl K) (kV K) a1 3 G19 x23 G22 r24) mw_X7_slab tw_739 (rfl : kd 0 = 7) (by decide) rfl rfl (Nat.le_of_ble_eq_true rfl) ⟨Nat.le_of_ble_eq_true rfl, Nat.le_of_ble_eq_true rfl⟩ dL_slab_97 rfl ?_
          refine x_iconst (v := 4) hc rfl dL_slab_100 ?_
          refine x_icmp_ne (tgt := 108) hc dL_slab_101 rfl (fun c_101 => ?_) (fun c_101 => ?_)
          · replace hf := if_n hf c_101
            refine x_iconst (v := 0) hc rfl dL_slab_108 ?_
            cases hf
            exact x_zret hc rfl rfl ho dL_slab_109
          · replace hf := if_p hf c_101
            refine x_iconst (v := 1) hc rfl dL_slab_104 ?_
            refine x_goto (tgt := 109) hc dL_slab_105 rfl ?_
            cases hf
            exact x_zret hc rfl rfl ho dL_slab_109
    exact x_sub [0, 1, 2, 3, 4] (c_L_slab_l19_7 a1 a2 hc k_a2 FU 1 0 G1 x17 G18 hl_19 he_79_n7) rfl
  · replace hf := if_n hf c_9
    refine x_iconst (v := 0) hc rfl dL_slab_12 ?_
    cases hf
    exact x_zret hc rfl rfl ho dL_slab_13
def f_L_plan_l19_7 (a1 : Int32) (a2 : Nat) : Nat → Int32 → Int32 → G_ → Option (Int32 × G_)
  | 0, _, _, _ => none
  | n7 + 1, v4, v5, G6 =>
    chk (inb 0 40) <|
    if G6.1 a2 (ix 0) ≤ v5 then (
      some (v4, G6))
    else (
      chk (inb (1 + (3 * v5)) 40) <|
      bj1 (
        if G6.1 a2 (ix (1 + (3 * v5))) = 1 then (
          some (105))
        else (
          if G6.1 a2 (ix (1 + (3 * v5))) = 2 then (
            some (111))
          else (
            if G6.1 a2 (ix (1 + (3 * v5))) = 3 then (
              some (98))
            else (
              if G6.1 a2 (ix (1 + (3 * v5))) = 4 then (
                some (114))
              else (
                if G6.1 a2 (ix (1 + (3 * v5))) = 5 then (
                  some (117))
                else (
                  some (100))))))) fun (x11 : Int32) =>
      bj2 (f_L_put v4 x11 G6) fun x13 G12 =>
      bj2 (
        if G6.1 a2 (ix (1 + (3 * v5))) ≤ 3 then (
          chk (inb (2 + (3 * v5)) 40) <|
          bj2 (f_L_number x13 (G12.1 a2 (ix (2 + (3 * v5)))) G12) fun x18 G17 =>
          bj2 (f_L_put x18 58 G17) fun x21 G20 =>
          some (x21, G20))
        else (
          some (x13, G12))) fun (x23 : Int32) (G24 : G_) =>
      bj2 (
        if G6.1 a2 (ix (1 + (3 * v5))) ≤ 4 then (
          chk (inb (3 + (3 * v5)) 40) <|
          bj2 (f_L_number x23 (G24.1 a2 (ix (3 + (3 * v5)))) G24) fun x28 G27 =>
          some (x28, G27))
        else (
          some (x23, G24))) fun (x30 : Int32) (G31 : G_) =>
      f_L_plan_l19_7 a1 a2 n7 x30 (v5 + 1) G31)
def f_L_plan (a1 : Int32) (a2 : Nat) (G : G_) : Option (Int32 × G_) :=
  bj2 (f_X7_text 3 80 G) fun x2 G1 =>
  if x2 = 80 then (
    bj2 (f_L_plan_l19_7 a1 a2 FU 0 0 G1) fun x32 G33 =>
    if x32 < 0 then (
      some (0, G33))
    else (
      bj2 (f_X7_fault 3 1 G33) fun x35 G34 =>
      if x35 = (-9) then (
        bj2 (f_X7_plan a1 3 G34) fun x38 G37 =>
        chk (inb 0 40) <|
        if x38 = G37.1 a2 (ix 0) then (
          some (1, G37))
        else (
          some (0, G37)))
      else (
        some (0, G34))))
  else (
    some (0, G1))
set_option maxHeartbeats 4000000 in
set_option maxRecDepth 100000 in
theorem c_L_plan_l19_7 {K : CT} (a1 : Int32) (a2 : Nat) (hc : Ok K cL_plan RL (Cond.code yL_plan cL_plan 6 (some .boolean) :: TB) (some .boolean) 6 139 6) (k_a2 : AOK (kV K) a2 40) : ∀ (n7 : Nat) (v4 : Int32) (v5 : Int32) (G6 : G_) (x32 : Int32) (G33 : G_), f_L_plan_l19_7 a1 a2 n7 v4 v5 G6 = some (x32, G33) → X K 160 [(0, .ref (kad K 0)), (1, .int a1), (2, .ref (kad K a2)), (3, .int x32)] [] G33 → X K 19 [(0, .ref (kad K 0)), (1, .int a1), (2, .ref (kad K a2)), (3, .int v4), (4, .int v5)] [] G6 := by
  intro n7
  induction n7 with
  | zero =>
    intro v4 v5 G6 x32 G33 hf hk
    cases hf
  | succ n7 ih =>
    intro v4 v5 G6 x32 G33 hf hk
    unfold f_L_plan_l19_7 at hf
    refine x_iload hc 4 dL_plan_19 rfl ?_
    refine x_aload_n hc 2 dL_plan_21 rfl rfl ?_
    refine x_iconst (v := 0) hc rfl dL_plan_22 ?_
    obtain ⟨h8, hf⟩ := chk_ok hf
    refine x_ialoadA (p0 := a2) hc k_a2 h8 dL_plan_23 ?_
    refine x_icmp_ge (tgt := 160) hc dL_plan_24 rfl (fun c_24 => ?_) (fun c_24 => ?_)
    · replace hf := if_p hf c_24
      cases hf
      exact x_sub [0, 1, 2, 3] hk rfl
    · replace hf := if_n hf c_24
      refine x_aload_n hc 2 dL_plan_27 rfl rfl ?_
      refine x_iconst (v := 1) hc rfl dL_plan_28 ?_
      refine x_iconst (v := 3) hc rfl dL_plan_29 ?_
      refine x_iload hc 4 dL_plan_30 rfl ?_
      refine x_imul hc dL_plan_32 ?_
      refine x_iadd hc dL_plan_33 ?_
      obtain ⟨h9, hf⟩ := chk_ok hf
      refine x_ialoadA (p0 := a2) hc k_a2 h9 dL_plan_34 ?_
      refine x_istore (L' := [(0, .ref (kad K 0)), (1, .int a1), (2, .ref (kad K a2)), (3, .int v4), (4, .int v5), (5, .int (G6.1 a2 (ix (1 + (3 * v5)))))]) hc [1, 2, 3, 4, 5, 0] dL_plan_35 (by decide) rfl ?_
      refine x_aload_n hc 0 dL_plan_37 rfl rfl ?_
      refine x_iload_n hc 3 dL_plan_38 rfl rfl ?_
      refine x_iload hc 5 dL_plan_39 rfl ?_
      refine x_iconst (v := 1) hc rfl dL_plan_41 ?_
      obtain ⟨x11, hr, hf⟩ := bj1_ok hf
      have hj_96_10 : X K 96 [(0, .ref (kad K 0)), (1, .int a1), (2, .ref (kad K a2)), (4, .int v5), (5, .int (G6.1 a2 (ix (1 + (3 * v5)))))] [.int x11, .int v4, .ref (kad K 0)] G6 := by
        clear hr
        obtain ⟨x13, G12, r14, hf⟩ := bj2_ok hf
        refine x_callSr (As := [.ref (kad K 0), .int v4, .int x11]) (v := (.int x13)) hc (c_L_put (kl K) (kV K) v4 x11 G6 x13 G12 r14) mw_L_put tw_707 rfl (Nat.le_of_ble_eq_true rfl) ⟨Nat.le_of_ble_eq_true rfl, Nat.le_of_ble_eq_true rfl⟩ dL_plan_96 rfl ?_
        refine x_istore_n (L' := [(0, .ref (kad K 0)), (1, .int a1), (2, .ref (kad K a2)), (3, .int x13), (4, .int v5), (5, .int (G6.1 a2 (ix (1 + (3 * v5)))))]) hc [1, 2, 3, 0, 4, 5] dL_plan_99 rfl (by decide) rfl ?_
        refine x_iload hc 5 dL_plan_100 rfl ?_
        refine x_iconst (v := 3) hc rfl dL_plan_102 ?_
        obtain ⟨x23, G24, hr, hf⟩ := bj2_ok hf
        have hj_129_15 : X K 129 [(0, .ref (kad K 0)), (1, .int a1), (2, .ref (kad K a2)), (4, .int v5), (5, .int (G6.1 a2 (ix (1 + (3 * v5)))))] [.int x23] G24 := by
          clear hr
          refine x_istore_n (L' := [(0, .ref (kad K 0)), (1, .int a1), (2, .ref (kad K a2)), (3, .int x23), (4, .int v5), (5, .int (G6.1 a2 (ix (1 + (3 * v5)))))]) hc [1, 2, 3, 0, 4, 5] dL_plan_129 rfl (by decide) rfl ?_
          refine x_iload hc 5 dL_plan_130 rfl ?_
          refine x_iconst (v := 4) hc rfl dL_plan_132 ?_
          obtain ⟨x30, G31, hr, hf⟩ := bj2_ok hf
          have hj_153_25 : X K 153 [(0, .ref (kad K 0)), (1, .int a1), (2, .ref (kad K a2)), (4, .int v5)] [.int x30] G31 := by
            clear hr
            refine x_istore_n (L' := [(0, .ref (kad K 0)), (1, .int a1), (2, .ref (kad K a2)), (3, .int x30), (4, .int v5)]) hc [1, 2, 3, 0, 4] dL_plan_153 rfl (by decide) rfl ?_
            refine x_iinc (v := v5 + 1) (L' := [(0, .ref (kad K 0)), (1, .int a1), (2, .ref (kad K a2)), (3, .int x30), (4, .int (v5 + 1))]) hc 4 [1, 2, 3, 4, 0] dL_plan_154 rfl rfl (by decide) rfl ?_
            refine x_goto (tgt := 19) hc dL_plan_157 rfl ?_
            exact x_sub [0, 1, 2, 3, 4] (ih _ _ _ _ _ hf hk) rfl
          replace hf := hr
          clear hr
          refine x_icmp_le (tgt := 140) hc dL_plan_133 rfl (fun c_133 => ?_) (fun c_133 => ?_)
          · replace hf := if_p hf c_133
            refine x_aload_n hc 0 dL_plan_140 rfl rfl ?_
            refine x_iload_n hc 3 dL_plan_141 rfl rfl ?_
            refine x_aload_n hc 2 dL_plan_142 rfl rfl ?_
            refine x_iconst (v := 3) hc rfl dL_plan_143 ?_
            refine x_iconst (v := 3) hc rfl dL_plan_144 ?_
            refine x_iload hc 4 dL_plan_145 rfl ?_
            refine x_imul hc dL_plan_147 ?_
            refine x_iadd hc dL_plan_148 ?_
            obtain ⟨h26, hf⟩ := chk_ok hf
            refine x_ialoadA (p0 := a2) hc k_a2 h26 dL_plan_149 ?_
            obtain ⟨x28, G27, r29, hf⟩ := bj2_ok hf
            refine x_callSr (As := [.ref (kad K 0), .int x23, .int (G24.1 a2 (ix (3 + (3 * v5))))]) (v := (.int x28)) hc (c_L_number (kl K) (kV K) x23 (G24.1 a2 (ix (3 + (3 * v5)))) G24 x28 G27 r29) mw_L_number tw_720 rfl (Nat.le_of_ble_eq_true rfl) ⟨Nat.le_of_ble_eq_true rfl, Nat.le_of_ble_eq_true rfl⟩ dL_plan_150 rfl ?_
            cases hf
            exact x_sub [0, 1, 2, 4] hj_153_25 rfl
          · replace hf := if_n hf c_133
            refine x_iload_n hc 3 dL_plan_136 rfl rfl ?_
            refine x_goto (tgt := 153) hc dL_plan_137 rfl ?_
            cases hf
            exact x_sub [0, 1, 2, 4] hj_153_25 rfl
        replace hf := hr
        clear hr
        refine x_icmp_le (tgt := 110) hc dL_plan_103 rfl (fun c_103 => ?_) (fun c_103 => ?_)
        · replace hf := if_p hf c_103
          refine x_aload_n hc 0 dL_plan_110 rfl rfl ?_
          refine x_aload_n hc 0 dL_plan_111 rfl rfl ?_
          refine x_iload_n hc 3 dL_plan_112 rfl rfl ?_
          refine x_aload_n hc 2 dL_plan_113 rfl rfl ?_
          refine x_iconst (v := 2) hc rfl dL_plan_114 ?_
          refine x_iconst (v := 3) hc rfl dL_plan_115 ?_
          refine x_iload hc 4 dL_plan_116 rfl ?_
          refine x_imul hc dL_plan_118 ?_
          refine x_iadd hc dL_plan_119 ?_
          obtain ⟨h16, hf⟩ := chk_ok hf
          refine x_ialoadA (p0 := a2) hc k_a2 h16 dL_plan_120 ?_
          obtain ⟨x18, G17, r19, hf⟩ := bj2_ok hf
          refine x_callSr (As := [.ref (kad K 0), .int x13, .int (G12.1 a2 (ix (2 + (3 * v5))))]) (v := (.int x18)) hc (c_L_number (kl K) (kV K) x13 (G12.1 a2 (ix (2 + (3 * v5)))) G12 x18 G17 r19) mw_L_number tw_720 rfl (Nat.le_of_ble_eq_true rfl) ⟨Nat.le_of_ble_eq_true rfl, Nat.le_of_ble_eq_true rfl⟩ dL_plan_121 rfl ?_
          refine x_bipush (v := 58) hc rfl dL_plan_124 ?_
          obtain ⟨x21, G20, r22, hf⟩ := bj2_ok hf
          refine x_callSr (As := [.ref (kad K 0), .int x18, .int 58]) (v := (.int x21)) hc (c_L_put (kl K) (kV K) x18 58 G17 x21 G20 r22) mw_L_put tw_707 rfl (Nat.le_of_ble_eq_true rfl) ⟨Nat.le_of_ble_eq_true rfl, Nat.le_of_ble_eq_true rfl⟩ dL_plan_126 rfl ?_
          cases hf
          exact x_sub [0, 1, 2, 4, 5] hj_129_15 rfl
        · replace hf := if_n hf c_103
          refine x_iload_n hc 3 dL_plan_106 rfl rfl ?_
          refine x_goto (tgt := 129) hc dL_plan_107 rfl ?_
          cases hf
          exact x_sub [0, 1, 2, 4, 5] hj_129_15 rfl
      replace hf := hr
      clear hr
      refine x_icmp_ne (tgt := 50) hc dL_plan_42 rfl (fun c_42 => ?_) (fun c_42 => ?_)
      · replace hf := if_n hf c_42
        refine x_iload hc 5 dL_plan_50 rfl ?_
        refine x_iconst (v := 2) hc rfl dL_plan_52 ?_
        refine x_icmp_ne (tgt := 61) hc dL_plan_53 rfl (fun c_53 => ?_) (fun c_53 => ?_)
        · replace hf := if_n hf c_53
          refine x_iload hc 5 dL_plan_61 rfl ?_
          refine x_iconst (v := 3) hc rfl dL_plan_63 ?_
          refine x_icmp_ne (tgt := 72) hc dL_plan_64 rfl (fun c_64 => ?_) (fun c_64 => ?_)
          · replace hf := if_n hf c_64
            refine x_iload hc 5 dL_plan_72 rfl ?_
            refine x_iconst (v := 4) hc rfl dL_plan_74 ?_
            refine x_icmp_ne (tgt := 83) hc dL_plan_75 rfl (fun c_75 => ?_) (fun c_75 => ?_)
            · replace hf := if_n hf c_75
              refine x_iload hc 5 dL_plan_83 rfl ?_
              refine x_iconst (v := 5) hc rfl dL_plan_85 ?_
              refine x_icmp_ne (tgt := 94) hc dL_plan_86 rfl (fun c_86 => ?_) (fun c_86 => ?_)
              · replace hf := if_n hf c_86
                refine x_bipush (v := 100) hc rfl dL_plan_94 ?_
                cases hf
                exact x_sub [0, 1, 2, 4, 5] hj_96_10 rfl
              · replace hf := if_p hf c_86
                refine x_bipush (v := 117) hc rfl dL_plan_89 ?_
                refine x_goto (tgt := 96) hc dL_plan_91 rfl ?_
                cases hf
                exact x_sub [0, 1, 2, 4, 5] hj_96_10 rfl
            · replace hf := if_p hf c_75
              refine x_bipush (v := 114) hc rfl dL_plan_78 ?_
              refine x_goto (tgt := 96) hc dL_plan_80 rfl ?_
              cases hf
              exact x_sub [0, 1, 2, 4, 5] hj_96_10 rfl
          · replace hf := if_p hf c_64
            refine x_bipush (v := 98) hc rfl dL_plan_67 ?_
            refine x_goto (tgt := 96) hc dL_plan_69 rfl ?_
            cases hf
            exact x_sub [0, 1, 2, 4, 5] hj_96_10 rfl
        · replace hf := if_p hf c_53
          refine x_bipush (v := 111) hc rfl dL_plan_56 ?_
          refine x_goto (tgt := 96) hc dL_plan_58 rfl ?_
          cases hf
          exact x_sub [0, 1, 2, 4, 5] hj_96_10 rfl
      · replace hf := if_p hf c_42
        refine x_bipush (v := 105) hc rfl dL_plan_45 ?_
        refine x_goto (tgt := 96) hc dL_plan_47 rfl ?_
        cases hf
        exact x_sub [0, 1, 2, 4, 5] hj_96_10 rfl
set_option maxHeartbeats 4000000 in
set_option maxRecDepth 100000 in
theorem c_L_plan (l : Launch) (V : VT) (a1 : Int32) (a2 : Nat) (G : G_) (r : Int32) (G' : G_) (k_a2 : AOK V a2 40) (hf : f_L_plan a1 a2 G = some (r, G')) : MC l V yL_plan cL_plan 6 (some .boolean) 6 139 [.ref (V.2.2.1 0), .int a1, .ref (V.2.2.1 a2)] G (some (.int r)) G' := by
  refine mc_of (by decide) (Nat.le_of_ble_eq_true rfl) (fun K hV ho hc hkl => ?_)
  subst hV
  replace hc : Ok K cL_plan RL (Cond.code yL_plan cL_plan 6 (some .boolean) :: TB) (some .boolean) 6 139 6 := hc
  replace ho : Rets K (some (.int r)) G' := ho
  show X K 0 [(0, .ref (kad K 0)), (1, .int a1), (2, .ref (kad K a2))] [] G
  unfold f_L_plan at hf
  refine x_aload_n hc 0 dL_plan_0 rfl rfl ?_
  refine x_iconst (v := 3) hc rfl dL_plan_1 ?_
  refine x_bipush (v := 80) hc rfl dL_plan_2 ?_
  obtain ⟨x2, G1, r3, hf⟩ := bj2_ok hf
  refine x_callVr (As := [.int 3, .int 80]) (p0 := 0) (v := (.int x2)) (T := TX7) hc (c_X7_text (kl K) (kV K) 3 80 G x2 G1 r3) mw_X7_text tw_697 (rfl : kd 0 = 7) (by decide) rfl rfl (Nat.le_of_ble_eq_true rfl) ⟨Nat.le_of_ble_eq_true rfl, Nat.le_of_ble_eq_true rfl⟩ dL_plan_4 rfl ?_
  refine x_bipush (v := 80) hc rfl dL_plan_7 ?_
  refine x_icmp_eq (tgt := 14) hc dL_plan_9 rfl (fun c_9 => ?_) (fun c_9 => ?_)
  · replace hf := if_p hf c_9
    refine x_iconst (v := 0) hc rfl dL_plan_14 ?_
    refine x_istore_n (L' := [(0, .ref (kad K 0)), (1, .int a1), (2, .ref (kad K a2)), (3, .int 0)]) hc [1, 2, 3, 0] dL_plan_15 rfl (by decide) rfl ?_
    refine x_iconst (v := 0) hc rfl dL_plan_16 ?_
    refine x_istore (L' := [(0, .ref (kad K 0)), (1, .int a1), (2, .ref (kad K a2)), (3, .int 0), (4, .int 0)]) hc [1, 2, 3, 4, 0] dL_plan_17 (by decide) rfl ?_
    obtain ⟨x32, G33, hl_19, hf⟩ := bj2_ok hf
    have he_160_n7 : X K 160 [(0, .ref (kad K 0)), (1, .int a1), (2, .ref (kad K a2)), (3, .int x32)] [] G33 := by
      clear hl_19
      refine x_iload_n hc 3 dL_plan_160 rfl rfl ?_
      refine x_if_lt (tgt := 191) hc dL_plan_161 rfl (fun c_161 => ?_) (fun c_161 => ?_)
      · replace hf := if_p hf c_161
        refine x_iconst (v := 0) hc rfl dL_plan_191 ?_
        cases hf
        exact x_zret hc rfl rfl ho dL_plan_192
      · replace hf := if_n hf c_161
        refine x_aload_n hc 0 dL_plan_164 rfl rfl ?_
        refine x_iconst (v := 3) hc rfl dL_plan_165 ?_
        refine x_iconst (v := 1) hc rfl dL_plan_166 ?_
        obtain ⟨x35, G34, r36, hf⟩ := bj2_ok hf
        refine x_callVr (As := [.int 3, .int 1]) (p0 := 0) (v := (.int x35)) (T := TX7) hc (c_X7_fault (kl K) (kV K) 3 1 G33 x35 G34 r36) mw_X7_fault tw_723 (rfl : kd 0 = 7) (by decide) rfl rfl (Nat.le_of_ble_eq_true rfl) ⟨Nat.le_of_ble_eq_true rfl, Nat.le_of_ble_eq_true rfl⟩ dL_plan_167 rfl ?_
        refine x_bipush (v := (-9)) hc rfl dL_plan_170 ?_
        refine x_icmp_ne (tgt := 191) hc dL_plan_172 rfl (fun c_172 => ?_) (fun c_172 => ?_)
        · replace hf := if_n hf c_172
          refine x_iconst (v := 0) hc rfl dL_plan_191 ?_
          cases hf
          exact x_zret hc rfl rfl ho dL_plan_192
        · replace hf := if_p hf c_172
          refine x_aload_n hc 0 dL_plan_175 rfl rfl ?_
          refine x_iload_n hc 1 dL_plan_176 rfl rfl ?_
          refine x_iconst (v := 3) hc rfl dL_plan_177 ?_
          obtain ⟨x38, G37, r39, hf⟩ := bj2_ok hf
          refine x_callVr (As := [.int a1, .int 3]) (p0 := 0) (v := (.int x38)) (T := TX7) hc (c_X7_plan (kl K) (kV K) a1 3 G34 x38 G37 r39) mw_X7_plan tw_298 (rfl : kd 0 = 7) (by decide) rfl rfl (Nat.le_of_ble_eq_true rfl) ⟨Nat.le_of_ble_eq_true rfl, Nat.le_of_ble_eq_true rfl⟩ dL_plan_178 rfl ?_
          refine x_aload_n hc 2 dL_plan_181 rfl rfl ?_
          refine x_iconst (v := 0) hc rfl dL_plan_182 ?_
          obtain ⟨h40, hf⟩ := chk_ok hf
          refine x_ialoadA (p0 := a2) hc k_a2 h40 dL_plan_183 ?_
          refine x_icmp_ne (tgt := 191) hc dL_plan_184 rfl (fun c_184 => ?_) (fun c_184 => ?_)
          · replace hf := if_n hf c_184
            refine x_iconst (v := 0) hc rfl dL_plan_191 ?_
            cases hf
            exact x_zret hc rfl rfl ho dL_plan_192
          · replace hf := if_p hf c_184
            refine x_iconst (v := 1) hc rfl dL_plan_187 ?_
            refine x_goto (tgt := 192) hc dL_plan_188 rfl ?_
            cases hf
            exact x_zret hc rfl rfl ho dL_plan_192
    exact x_sub [0, 1, 2, 3, 4] (c_L_plan_l19_7 a1 a2 hc k_a2 FU 0 0 G1 x32 G33 hl_19 he_160_n7) rfl
  · replace hf := if_n hf c_9
    refine x_iconst (v := 0) hc rfl dL_plan_12 ?_
    cases hf
    exact x_zret hc rfl rfl ho dL_plan_13
def f_L_ways_l80_17 (a2 : Nat) (x1 : Int32) (x3 : Int32) (x6 : Int32) (x8 : Int32) (sl : Nat) (xs : Nat → Int32) : Nat → Int32 → G_ → Option (G_)
  | 0, _, _ => none
  | n17 + 1, v15, G16 =>
    if 4 ≤ v15 then (
      some (G16))
    else (
      bj1 (f_L_cell sl xs (2 + v15) G16) fun x18 =>
      bj2 (f_X7_way 0 (10 + (x1 - x1 / 21 * 21)) (1 + (x3 - x3 / 80 * 80)) (1 + (x18 - x18 / 60 * 60)) G16) fun x21 G20 =>
      bj1 (f_X7_asked G20) fun x23 =>
      bj2 (f_X7_often 0 (10 + (x1 - x1 / 21 * 21)) (1 + (x3 - x3 / 80 * 80)) (1 + (x18 - x18 / 60 * 60)) G20) fun x26 G25 =>
      if x21 < 0 then (
        none)
      else (
        if x8 < x23 then (
          none)
        else (
          bj1 (
            if x23 = x8 then (
              if 1 + (x18 - x18 / 60 * 60) < x6 then (
                none)
              else (
                some ()))
            else (
              some ())) fun _ =>
          chk (inb 0 8) <|
          if x26 < 100 - (G25.1 a2 (ix 0)) then (
            none)
          else (
            chk (inb 0 8) <|
            if x26 ≤ 100 + (G25.1 a2 (ix 0)) then (
              f_L_ways_l80_17 a2 x1 x3 x6 x8 sl xs n17 (v15 + 1) G25)
            else (
              none)))))
def f_L_ways (sl : Nat) (xs : Nat → Int32) (a2 : Nat) (G : G_) : Option (Int32 × G_) :=
  bj1 (f_L_cell sl xs 0 G) fun x1 =>
  bj1 (f_L_cell sl xs 1 G) fun x3 =>
  bj2 (f_X7_turns 0 (10 + (x1 - x1 / 21 * 21)) (1 + (x3 - x3 / 80 * 80)) G) fun x6 G5 =>
  bj1 (f_X7_asked G5) fun x8 =>
  if x6 < 1 then (
    none)
  else (
    if 60 < x6 then (
      none)
    else (
      bj2 (f_X7_way 0 (10 + (x1 - x1 / 21 * 21)) (1 + (x3 - x3 / 80 * 80)) x6 G5) fun x11 G10 =>
      if x11 < 0 then (
        none)
      else (
        bj1 (f_X7_asked G10) fun x13 =>
        if x13 = x8 then (
          bj1 (f_L_ways_l80_17 a2 x1 x3 x6 x8 sl xs FU 0 G10) fun G31 =>
          bj2 (f_X7_often 0 (10 + (x1 - x1 / 21 * 21)) (1 + (x3 - x3 / 80 * 80)) (((1 + (x3 - x3 / 80 * 80)) + 1) / 2) G31) fun x33 G32 =>
          if x33 = 100 then (
            bj1 (f_X7_asked G32) fun x35 =>
            if x35 = 0 then (
              bj2 (f_X7_most 0 500 649 0 G32) fun x38 G37 =>
              bj1 (f_X7_asked G37) fun x40 =>
              if x38 < 0 then (
                none)
              else (
                bj2 (f_X7_way 0 (x38 / 10000) ((x38 / 100) - (x38 / 100) / 100 * 100) (x38 - x38 / 100 * 100) G37) fun x43 G42 =>
                if x43 < 0 then (
                  none)
                else (
                  bj1 (f_X7_asked G42) fun x45 =>
                  if x45 = x40 then (
                    chk (inb 0 8) <|
                    if x40 ≤ G42.1 a2 (ix 0) then (
                      bj2 (f_X7_off 0 (10 + (x1 - x1 / 21 * 21)) 4 550 G42) fun x49 G48 =>
                      bj1 (f_X7_asked G48) fun x51 =>
                      bj1 (f_L_cell sl xs 6 G48) fun x53 =>
                      bj2 (f_X7_safe 0 (6 + (x53 - x53 / 4 * 4)) G48) fun x56 G55 =>
                      bj2 (f_X7_safe 0 ((6 + (x53 - x53 / 4 * 4)) + 1) G55) fun x59 G58 =>
                      if x49 < 1 then (
                        none)
                      else (
                        if 120 < x49 then (
                          none)
                        else (
                          if x51 < 0 then (
                            none)
                          else (
                            bj1 (
                              if x56 < 0 then (
                                some ())
                              else (
                                if x59 < 1 then (
                                  none)
                                else (
                                  if x56 < x59 then (
                                    none)
                                  else (
                                    some ())))) fun _ =>
                            bj2 (f_X7_same 0 0 (10 + (x1 - x1 / 21 * 21)) 3 300 300 G58) fun x63 G62 =>
                            if 0 < x63 then (
                              none)
                            else (
                              bj2 (f_X7_same 0 0 (10 + (x1 - x1 / 21 * 21)) 3 300 400 G62) fun x66 G65 =>
                              if x66 < (-9) then (
                                none)
                              else (
                                bj2 (f_X7_rule 0 (10 + (x1 - x1 / 21 * 21)) 3 0 G65) fun x69 G68 =>
                                if x69 = 1 then (
                                  some (1, G68))
                                else (
                                  none)))))))
                    else (
                      none))
                  else (
                    none))))
            else (
              none))
          else (
            none))
        else (
          none))))
set_option maxHeartbeats 4000000 in
set_option maxRecDepth 100000 in
theorem c_L_ways_l80_17 {K : CT} (a2 : Nat) (x1 : Int32) (x3 : Int32) (x6 : Int32) (x8 : Int32) (sl : Nat) (xs : Nat → Int32) (hc : Ok K cL_ways RL (Cond.code yL_ways cL_ways 14 (some .boolean) :: TB) (some .boolean) 6 149 14) (k_sc : SCO (kV K) sl xs) (k_a2 : AOK (kV K) a2 8) : ∀ (n17 : Nat) (v15 : Int32) (G16 : G_) (G31 : G_), f_L_ways_l80_17 a2 x1 x3 x6 x8 sl xs n17 v15 G16 = some (G31) → X K 187 [(0, .ref (kad K 0)), (1, .ref (vSB (kV K))), (2, .ref (kad K a2)), (3, .int (10 + (x1 - x1 / 21 * 21))), (4, .int (1 + (x3 - x3 / 80 * 80)))] [] G31 → X K 80 [(0, .ref (kad K 0)), (1, .ref (vSB (kV K))), (2, .ref (kad K a2)), (3, .int (10 + (x1 - x1 / 21 * 21))), (4, .int (1 + (x3 - x3 / 80 * 80))), (5, .int x6), (6, .int x8), (7, .int v15)] [] G16 := by
  intro n17
  induction n17 with
  | zero =>
    intro v15 G16 G31 hf hk
    cases hf
  | succ n17 ih =>
    intro v15 G16 G31 hf hk
    unfold f_L_ways_l80_17 at hf
    refine x_iload hc 7 dL_ways_80 rfl ?_
    refine x_iconst (v := 4) hc rfl dL_ways_82 ?_
    refine x_icmp_ge (tgt := 187) hc dL_ways_83 rfl (fun c_83 => ?_) (fun c_83 => ?_)
    · replace hf := if_p hf c_83
      cases hf
      exact x_sub [0, 1, 2, 3, 4] hk rfl
    · replace hf := if_n hf c_83
      refine x_iconst (v := 1) hc rfl dL_ways_86 ?_
      refine x_aload_n hc 1 dL_ways_87 rfl rfl ?_
      refine x_iconst (v := 2) hc rfl dL_ways_88 ?_
      refine x_iload hc 7 dL_ways_89 rfl ?_
      refine x_iadd hc dL_ways_91 ?_
      obtain ⟨x18, r19, hf⟩ := bj1_ok hf
      refine x_callSr (As := [.ref (vSB (kV K)), .int (2 + v15)]) (v := (.int x18)) hc (c_L_cell (kl K) (kV K) sl xs (2 + v15) G16 x18 k_sc r19) mw_L_cell tw_690 rfl (Nat.le_of_ble_eq_true rfl) ⟨Nat.le_of_ble_eq_true rfl, Nat.le_of_ble_eq_true rfl⟩ dL_ways_92 rfl ?_
      refine x_bipush (v := 60) hc rfl dL_ways_95 ?_
      refine x_irem hc (by decide) dL_ways_97 ?_
      refine x_iadd hc dL_ways_98 ?_
      refine x_istore (L' := [(0, .ref (kad K 0)), (1, .ref (vSB (kV K))), (2, .ref (kad K a2)), (3, .int (10 + (x1 - x1 / 21 * 21))), (4, .int (1 + (x3 - x3 / 80 * 80))), (5, .int x6), (6, .int x8), (7, .int v15), (8, .int (1 + (x18 - x18 / 60 * 60)))]) hc [1, 2, 3, 4, 5, 6, 7, 8, 0] dL_ways_99 (by decide) rfl ?_
      refine x_aload_n hc 0 dL_ways_101 rfl rfl ?_
      refine x_iconst (v := 0) hc rfl dL_ways_102 ?_
      refine x_iload_n hc 3 dL_ways_103 rfl rfl ?_
      refine x_iload hc 4 dL_ways_104 rfl ?_
      refine x_iload hc 8 dL_ways_106 rfl ?_
      obtain ⟨x21, G20, r22, hf⟩ := bj2_ok hf
      refine x_callVr (As := [.int 0, .int (10 + (x1 - x1 / 21 * 21)), .int (1 + (x3 - x3 / 80 * 80)), .int (1 + (x18 - x18 / 60 * 60))]) (p0 := 0) (v := (.int x21)) (T := TX7) hc (c_X7_way (kl K) (kV K) 0 (10 + (x1 - x1 / 21 * 21)) (1 + (x3 - x3 / 80 * 80)) (1 + (x18 - x18 / 60 * 60)) G16 x21 G20 r22) mw_X7_way tw_777 (rfl : kd 0 = 7) (by decide) rfl rfl (Nat.le_of_ble_eq_true rfl) ⟨Nat.le_of_ble_eq_true rfl, Nat.le_of_ble_eq_true rfl⟩ dL_ways_108 rfl ?_
      refine x_istore (L' := [(0, .ref (kad K 0)), (1, .ref (vSB (kV K))), (2, .ref (kad K a2)), (3, .int (10 + (x1 - x1 / 21 * 21))), (4, .int (1 + (x3 - x3 / 80 * 80))), (5, .int x6), (6, .int x8), (7, .int v15), (8, .int (1 + (x18 - x18 / 60 * 60))), (9, .int x21)]) hc [1, 2, 3, 4, 5, 6, 7, 8, 9, 0] dL_ways_111 (by decide) rfl ?_
      refine x_aload_n hc 0 dL_ways_113 rfl rfl ?_
      obtain ⟨x23, r24, hf⟩ := bj1_ok hf
      refine x_callVr (As := []) (p0 := 0) (v := (.int x23)) (T := TX7) hc (c_X7_asked (kl K) (kV K) G20 x23 r24) mw_X7_asked tw_602 (rfl : kd 0 = 7) (by decide) rfl rfl (Nat.le_of_ble_eq_true rfl) ⟨Nat.le_of_ble_eq_true rfl, Nat.le_of_ble_eq_true rfl⟩ dL_ways_114 rfl ?_
      refine x_istore (L' := [(0, .ref (kad K 0)), (1, .ref (vSB (kV K))), (2, .ref (kad K a2)), (3, .int (10 + (x1 - x1 / 21 * 21))), (4, .int (1 + (x3 - x3 / 80 * 80))), (5, .int x6), (6, .int x8), (7, .int v15), (8, .int (1 + (x18 - x18 / 60 * 60))), (9, .int x21), (10, .int x23)]) hc [1, 2, 3, 4, 5, 6, 7, 8, 9, 10, 0] dL_ways_117 (by decide) rfl ?_
      refine x_aload_n hc 0 dL_ways_119 rfl rfl ?_
      refine x_iconst (v := 0) hc rfl dL_ways_120 ?_
      refine x_iload_n hc 3 dL_ways_121 rfl rfl ?_
      refine x_iload hc 4 dL_ways_122 rfl ?_
      refine x_iload hc 8 dL_ways_124 rfl ?_
      obtain ⟨x26, G25, r27, hf⟩ := bj2_ok hf
      refine x_callVr (As := [.int 0, .int (10 + (x1 - x1 / 21 * 21)), .int (1 + (x3 - x3 / 80 * 80)), .int (1 + (x18 - x18 / 60 * 60))]) (p0 := 0) (v := (.int x26)) (T := TX7) hc (c_X7_often (kl K) (kV K) 0 (10 + (x1 - x1 / 21 * 21)) (1 + (x3 - x3 / 80 * 80)) (1 + (x18 - x18 / 60 * 60)) G20 x26 G25 r27) mw_X7_often tw_785 (rfl : kd 0 = 7) (by decide) rfl rfl (Nat.le_of_ble_eq_true rfl) ⟨Nat.le_of_ble_eq_true rfl, Nat.le_of_ble_eq_true rfl⟩ dL_ways_126 rfl ?_
      refine x_istore (L' := [(0, .ref (kad K 0)), (1, .ref (vSB (kV K))), (2, .ref (kad K a2)), (3, .int (10 + (x1 - x1 / 21 * 21))), (4, .int (1 + (x3 - x3 / 80 * 80))), (5, .int x6), (6, .int x8), (7, .int v15), (8, .int (1 + (x18 - x18 / 60 * 60))), (9, .int x21), (10, .int x23), (11, .int x26)]) hc [1, 2, 3, 4, 5, 6, 7, 8, 9, 10, 11, 0] dL_ways_129 (by decide) rfl ?_
      refine x_iload hc 9 dL_ways_131 rfl ?_
      refine x_if_lt (tgt := 179) hc dL_ways_133 rfl (fun c_133 => ?_) (fun c_133 => ?_)
      · replace hf := if_p hf c_133
        cases hf
      · replace hf := if_n hf c_133
        refine x_iload hc 10 dL_ways_136 rfl ?_
        refine x_iload hc 6 dL_ways_138 rfl ?_
        refine x_icmp_gt (tgt := 179) hc dL_ways_140 rfl (fun c_140 => ?_) (fun c_140 => ?_)
        · replace hf := if_p hf c_140
          cases hf
        · replace hf := if_n hf c_140
          refine x_iload hc 10 dL_ways_143 rfl ?_
          refine x_iload hc 6 dL_ways_145 rfl ?_
          obtain ⟨_u, hr, hf⟩ := bj1_ok hf
          have hj_157_28 : X K 157 [(0, .ref (kad K 0)), (1, .ref (vSB (kV K))), (2, .ref (kad K a2)), (3, .int (10 + (x1 - x1 / 21 * 21))), (4, .int (1 + (x3 - x3 / 80 * 80))), (5, .int x6), (6, .int x8), (7, .int v15), (11, .int x26)] [] G25 := by
            clear hr
            refine x_iload hc 8 dL_ways_157 rfl ?_
            refine x_bipush (v := 100) hc rfl dL_ways_159 ?_
            refine x_aload_n hc 2 dL_ways_161 rfl rfl ?_
            refine x_iconst (v := 0) hc rfl dL_ways_162 ?_
            obtain ⟨h29, hf⟩ := chk_ok hf
            refine x_ialoadA (p0 := a2) hc k_a2 h29 dL_ways_163 ?_
            refine x_isub hc dL_ways_164 ?_
            refine x_icmp_lt (tgt := 179) hc dL_ways_165 rfl (fun c_165 => ?_) (fun c_165 => ?_)
            · replace hf := if_p hf c_165
              cases hf
            · replace hf := if_n hf c_165
              refine x_iload hc 8 dL_ways_168 rfl ?_
              refine x_bipush (v := 100) hc rfl dL_ways_170 ?_
              refine x_aload_n hc 2 dL_ways_172 rfl rfl ?_
              refine x_iconst (v := 0) hc rfl dL_ways_173 ?_
              obtain ⟨h30, hf⟩ := chk_ok hf
              refine x_ialoadA (p0 := a2) hc k_a2 h30 dL_ways_174 ?_
              refine x_iadd hc dL_ways_175 ?_
              refine x_icmp_le (tgt := 181) hc dL_ways_176 rfl (fun c_176 => ?_) (fun c_176 => ?_)
              · replace hf := if_p hf c_176
                refine x_iinc (v := v15 + 1) (L' := [(0, .ref (kad K 0)), (1, .ref (vSB (kV K))), (2, .ref (kad K a2)), (3, .int (10 + (x1 - x1 / 21 * 21))), (4, .int (1 + (x3 - x3 / 80 * 80))), (5, .int x6), (6, .int x8), (7, .int (v15 + 1))]) hc 7 [1, 2, 3, 4, 5, 6, 7, 0] dL_ways_181 rfl rfl (by decide) rfl ?_
                refine x_goto (tgt := 80) hc dL_ways_184 rfl ?_
                exact x_sub [0, 1, 2, 3, 4, 5, 6, 7] (ih _ _ _ hf hk) rfl
              · replace hf := if_n hf c_176
                cases hf
          replace hf := hr
          clear hr
          refine x_icmp_ne (tgt := 157) hc dL_ways_147 rfl (fun c_147 => ?_) (fun c_147 => ?_)
          · replace hf := if_n hf c_147
            cases hf
            exact x_sub [0, 1, 2, 3, 4, 5, 6, 7, 11] hj_157_28 rfl
          · replace hf := if_p hf c_147
            refine x_iload hc 8 dL_ways_150 rfl ?_
            refine x_iload hc 5 dL_ways_152 rfl ?_
            refine x_icmp_lt (tgt := 179) hc dL_ways_154 rfl (fun c_154 => ?_) (fun c_154 => ?_)
            · replace hf := if_p hf c_154
              cases hf
            · replace hf := if_n hf c_154
              cases hf
              exact x_sub [0, 1, 2, 3, 4, 5, 6, 7, 11] hj_157_28 rfl
set_option maxHeartbeats 4000000 in
set_option maxRecDepth 100000 in
theorem c_L_ways (l : Launch) (V : VT) (sl : Nat) (xs : Nat → Int32) (a2 : Nat) (G : G_) (r : Int32) (G' : G_) (k_sc : SCO V sl xs) (k_a2 : AOK V a2 8) (hf : f_L_ways sl xs a2 G = some (r, G')) : MC l V yL_ways cL_ways 14 (some .boolean) 6 149 [.ref (V.2.2.1 0), .ref (vSB V), .ref (V.2.2.1 a2)] G (some (.int r)) G' := by
  refine mc_of (by decide) (Nat.le_of_ble_eq_true rfl) (fun K hV ho hc hkl => ?_)
  subst hV
  replace hc : Ok K cL_ways RL (Cond.code yL_ways cL_ways 14 (some .boolean) :: TB) (some .boolean) 6 149 14 := hc
  replace ho : Rets K (some (.int r)) G' := ho
  show X K 0 [(0, .ref (kad K 0)), (1, .ref (vSB (kV K))), (2, .ref (kad K a2))] [] G
  unfold f_L_ways at hf
  refine x_bipush (v := 10) hc rfl dL_ways_0 ?_
  refine x_aload_n hc 1 dL_ways_2 rfl rfl ?_
  refine x_iconst (v := 0) hc rfl dL_ways_3 ?_
  obtain ⟨x1, r2, hf⟩ := bj1_ok hf
  refine x_callSr (As := [.ref (vSB (kV K)), .int 0]) (v := (.int x1)) hc (c_L_cell (kl K) (kV K) sl xs 0 G x1 k_sc r2) mw_L_cell tw_690 rfl (Nat.le_of_ble_eq_true rfl) ⟨Nat.le_of_ble_eq_true rfl, Nat.le_of_ble_eq_true rfl⟩ dL_ways_4 rfl ?_
  refine x_bipush (v := 21) hc rfl dL_ways_7 ?_
  refine x_irem hc (by decide) dL_ways_9 ?_
  refine x_iadd hc dL_ways_10 ?_
  refine x_istore_n (L' := [(0, .ref (kad K 0)), (1, .ref (vSB (kV K))), (2, .ref (kad K a2)), (3, .int (10 + (x1 - x1 / 21 * 21)))]) hc [1, 2, 3, 0] dL_ways_11 rfl (by decide) rfl ?_
  refine x_iconst (v := 1) hc rfl dL_ways_12 ?_
  refine x_aload_n hc 1 dL_ways_13 rfl rfl ?_
  refine x_iconst (v := 1) hc rfl dL_ways_14 ?_
  obtain ⟨x3, r4, hf⟩ := bj1_ok hf
  refine x_callSr (As := [.ref (vSB (kV K)), .int 1]) (v := (.int x3)) hc (c_L_cell (kl K) (kV K) sl xs 1 G x3 k_sc r4) mw_L_cell tw_690 rfl (Nat.le_of_ble_eq_true rfl) ⟨Nat.le_of_ble_eq_true rfl, Nat.le_of_ble_eq_true rfl⟩ dL_ways_15 rfl ?_
  refine x_bipush (v := 80) hc rfl dL_ways_18 ?_
  refine x_irem hc (by decide) dL_ways_20 ?_
  refine x_iadd hc dL_ways_21 ?_
  refine x_istore (L' := [(0, .ref (kad K 0)), (1, .ref (vSB (kV K))), (2, .ref (kad K a2)), (3, .int (10 + (x1 - x1 / 21 * 21))), (4, .int (1 + (x3 - x3 / 80 * 80)))]) hc [1, 2, 3, 4, 0] dL_ways_22 (by decide) rfl ?_
  refine x_aload_n hc 0 dL_ways_24 rfl rfl ?_
  refine x_iconst (v := 0) hc rfl dL_ways_25 ?_
  refine x_iload_n hc 3 dL_ways_26 rfl rfl ?_
  refine x_iload hc 4 dL_ways_27 rfl ?_
  obtain ⟨x6, G5, r7, hf⟩ := bj2_ok hf
  refine x_callVr (As := [.int 0, .int (10 + (x1 - x1 / 21 * 21)), .int (1 + (x3 - x3 / 80 * 80))]) (p0 := 0) (v := (.int x6)) (T := TX7) hc (c_X7_turns (kl K) (kV K) 0 (10 + (x1 - x1 / 21 * 21)) (1 + (x3 - x3 / 80 * 80)) G x6 G5 r7) mw_X7_turns tw_762 (rfl : kd 0 = 7) (by decide) rfl rfl (Nat.le_of_ble_eq_true rfl) ⟨Nat.le_of_ble_eq_true rfl, Nat.le_of_ble_eq_true rfl⟩ dL_ways_29 rfl ?_
  refine x_istore (L' := [(0, .ref (kad K 0)), (1, .ref (vSB (kV K))), (2, .ref (kad K a2)), (3, .int (10 + (x1 - x1 / 21 * 21))), (4, .int (1 + (x3 - x3 / 80 * 80))), (5, .int x6)]) hc [1, 2, 3, 4, 5, 0] dL_ways_32 (by decide) rfl ?_
  refine x_aload_n hc 0 dL_ways_34 rfl rfl ?_
  obtain ⟨x8, r9, hf⟩ := bj1_ok hf
  refine x_callVr (As := []) (p0 := 0) (v := (.int x8)) (T := TX7) hc (c_X7_asked (kl K) (kV K) G5 x8 r9) mw_X7_asked tw_602 (rfl : kd 0 = 7) (by decide) rfl rfl (Nat.le_of_ble_eq_true rfl) ⟨Nat.le_of_ble_eq_true rfl, Nat.le_of_ble_eq_true rfl⟩ dL_ways_35 rfl ?_
  refine x_istore (L' := [(0, .ref (kad K 0)), (1, .ref (vSB (kV K))), (2, .ref (kad K a2)), (3, .int (10 + (x1 - x1 / 21 * 21))), (4, .int (1 + (x3 - x3 / 80 * 80))), (5, .int x6), (6, .int x8)]) hc [1, 2, 3, 4, 5, 6, 0] dL_ways_38 (by decide) rfl ?_
  refine x_iload hc 5 dL_ways_40 rfl ?_
  refine x_iconst (v := 1) hc rfl dL_ways_42 ?_
  refine x_icmp_lt (tgt := 75) hc dL_ways_43 rfl (fun c_43 => ?_) (fun c_43 => ?_)
  · replace hf := if_p hf c_43
    cases hf
  · replace hf := if_n hf c_43
    refine x_iload hc 5 dL_ways_46 rfl ?_
    refine x_bipush (v := 60) hc rfl dL_ways_48 ?_
    refine x_icmp_gt (tgt := 75) hc dL_ways_50 rfl (fun c_50 => ?_) (fun c_50 => ?_)
    · replace hf := if_p hf c_50
      cases hf
    · replace hf := if_n hf c_50
      refine x_aload_n hc 0 dL_ways_53 rfl rfl ?_
      refine x_iconst (v := 0) hc rfl dL_ways_54 ?_
      refine x_iload_n hc 3 dL_ways_55 rfl rfl ?_
      refine x_iload hc 4 dL_ways_56 rfl ?_
      refine x_iload hc 5 dL_ways_58 rfl ?_
      obtain ⟨x11, G10, r12, hf⟩ := bj2_ok hf
      refine x_callVr (As := [.int 0, .int (10 + (x1 - x1 / 21 * 21)), .int (1 + (x3 - x3 / 80 * 80)), .int x6]) (p0 := 0) (v := (.int x11)) (T := TX7) hc (c_X7_way (kl K) (kV K) 0 (10 + (x1 - x1 / 21 * 21)) (1 + (x3 - x3 / 80 * 80)) x6 G5 x11 G10 r12) mw_X7_way tw_777 (rfl : kd 0 = 7) (by decide) rfl rfl (Nat.le_of_ble_eq_true rfl) ⟨Nat.le_of_ble_eq_true rfl, Nat.le_of_ble_eq_true rfl⟩ dL_ways_60 rfl ?_
      refine x_if_lt (tgt := 75) hc dL_ways_63 rfl (fun c_63 => ?_) (fun c_63 => ?_)
      · replace hf := if_p hf c_63
        cases hf
      · replace hf := if_n hf c_63
        refine x_aload_n hc 0 dL_ways_66 rfl rfl ?_
        obtain ⟨x13, r14, hf⟩ := bj1_ok hf
        refine x_callVr (As := []) (p0 := 0) (v := (.int x13)) (T := TX7) hc (c_X7_asked (kl K) (kV K) G10 x13 r14) mw_X7_asked tw_602 (rfl : kd 0 = 7) (by decide) rfl rfl (Nat.le_of_ble_eq_true rfl) ⟨Nat.le_of_ble_eq_true rfl, Nat.le_of_ble_eq_true rfl⟩ dL_ways_67 rfl ?_
        refine x_iload hc 6 dL_ways_70 rfl ?_
        refine x_icmp_eq (tgt := 77) hc dL_ways_72 rfl (fun c_72 => ?_) (fun c_72 => ?_)
        · replace hf := if_p hf c_72
          refine x_iconst (v := 0) hc rfl dL_ways_77 ?_
          refine x_istore (L' := [(0, .ref (kad K 0)), (1, .ref (vSB (kV K))), (2, .ref (kad K a2)), (3, .int (10 + (x1 - x1 / 21 * 21))), (4, .int (1 + (x3 - x3 / 80 * 80))), (5, .int x6), (6, .int x8), (7, .int 0)]) hc [1, 2, 3, 4, 5, 6, 7, 0] dL_ways_78 (by decide) rfl ?_
          obtain ⟨G31, hl_80, hf⟩ := bj1_ok hf
          have he_187_n17 : X K 187 [(0, .ref (kad K 0)), (1, .ref (vSB (kV K))), (2, .ref (kad K a2)), (3, .int (10 + (x1 - x1 / 21 * 21))), (4, .int (1 + (x3 - x3 / 80 * 80)))] [] G31 := by
            clear hl_80
            refine x_aload_n hc 0 dL_ways_187 rfl rfl ?_
            refine x_iconst (v := 0) hc rfl dL_ways_188 ?_
            refine x_iload_n hc 3 dL_ways_189 rfl rfl ?_
            refine x_iload hc 4 dL_ways_190 rfl ?_
            refine x_iload hc 4 dL_ways_192 rfl ?_
            refine x_iconst (v := 1) hc rfl dL_ways_194 ?_
            refine x_iadd hc dL_ways_195 ?_
            refine x_iconst (v := 2) hc rfl dL_ways_196 ?_
            refine x_idiv hc (by decide) dL_ways_197 ?_
            obtain ⟨x33, G32, r34, hf⟩ := bj2_ok hf
            refine x_callVr (As := [.int 0, .int (10 + (x1 - x1 / 21 * 21)), .int (1 + (x3 - x3 / 80 * 80)), .int (((1 + (x3 - x3 / 80 * 80)) + 1) / 2)]) (p0 := 0) (v := (.int x33)) (T := TX7) hc (c_X7_often (kl K) (kV K) 0 (10 + (x1 - x1 / 21 * 21)) (1 + (x3 - x3 / 80 * 80)) (((1 + (x3 - x3 / 80 * 80)) + 1) / 2) G31 x33 G32 r34) mw_X7_often tw_785 (rfl : kd 0 = 7) (by decide) rfl rfl (Nat.le_of_ble_eq_true rfl) ⟨Nat.le_of_ble_eq_true rfl, Nat.le_of_ble_eq_true rfl⟩ dL_ways_198 rfl ?_
            refine x_bipush (v := 100) hc rfl dL_ways_201 ?_
            refine x_icmp_ne (tgt := 213) hc dL_ways_203 rfl (fun c_203 => ?_) (fun c_203 => ?_)
            · replace hf := if_n hf c_203
              cases hf
            · replace hf := if_p hf c_203
              refine x_aload_n hc 0 dL_ways_206 rfl rfl ?_
              obtain ⟨x35, r36, hf⟩ := bj1_ok hf
              refine x_callVr (As := []) (p0 := 0) (v := (.int x35)) (T := TX7) hc (c_X7_asked (kl K) (kV K) G32 x35 r36) mw_X7_asked tw_602 (rfl : kd 0 = 7) (by decide) rfl rfl (Nat.le_of_ble_eq_true rfl) ⟨Nat.le_of_ble_eq_true rfl, Nat.le_of_ble_eq_true rfl⟩ dL_ways_207 rfl ?_
              refine x_if_eq (tgt := 215) hc dL_ways_210 rfl (fun c_210 => ?_) (fun c_210 => ?_)
              · replace hf := if_p hf c_210
                refine x_aload_n hc 0 dL_ways_215 rfl rfl ?_
                refine x_iconst (v := 0) hc rfl dL_ways_216 ?_
                refine x_sipush (v := 500) hc rfl dL_ways_217 ?_
                refine x_sipush (v := 649) hc rfl dL_ways_220 ?_
                refine x_iconst (v := 0) hc rfl dL_ways_223 ?_
                obtain ⟨x38, G37, r39, hf⟩ := bj2_ok hf
                refine x_callVr (As := [.int 0, .int 500, .int 649, .int 0]) (p0 := 0) (v := (.int x38)) (T := TX7) hc (c_X7_most (kl K) (kV K) 0 500 649 0 G32 x38 G37 r39) mw_X7_most tw_793 (rfl : kd 0 = 7) (by decide) rfl rfl (Nat.le_of_ble_eq_true rfl) ⟨Nat.le_of_ble_eq_true rfl, Nat.le_of_ble_eq_true rfl⟩ dL_ways_224 rfl ?_
                refine x_istore (L' := [(0, .ref (kad K 0)), (1, .ref (vSB (kV K))), (2, .ref (kad K a2)), (3, .int (10 + (x1 - x1 / 21 * 21))), (7, .int x38)]) hc [1, 2, 3, 4, 0] dL_ways_227 (by decide) rfl ?_
                refine x_aload_n hc 0 dL_ways_229 rfl rfl ?_
                obtain ⟨x40, r41, hf⟩ := bj1_ok hf
                refine x_callVr (As := []) (p0 := 0) (v := (.int x40)) (T := TX7) hc (c_X7_asked (kl K) (kV K) G37 x40 r41) mw_X7_asked tw_602 (rfl : kd 0 = 7) (by decide) rfl rfl (Nat.le_of_ble_eq_true rfl) ⟨Nat.le_of_ble_eq_true rfl, Nat.le_of_ble_eq_true rfl⟩ dL_ways_230 rfl ?_
                refine x_istore (L' := [(0, .ref (kad K 0)), (1, .ref (vSB (kV K))), (2, .ref (kad K a2)), (3, .int (10 + (x1 - x1 / 21 * 21))), (7, .int x38), (8, .int x40)]) hc [1, 2, 3, 4, 5, 0] dL_ways_233 (by decide) rfl ?_
                refine x_iload hc 4 dL_ways_235 rfl ?_
                refine x_if_lt (tgt := 284) hc dL_ways_237 rfl (fun c_237 => ?_) (fun c_237 => ?_)
                · replace hf := if_p hf c_237
                  cases hf
                · replace hf := if_n hf c_237
                  refine x_aload_n hc 0 dL_ways_240 rfl rfl ?_
                  refine x_iconst (v := 0) hc rfl dL_ways_241 ?_
                  refine x_iload hc 4 dL_ways_242 rfl ?_
                  refine x_sipush (v := 10000) hc rfl dL_ways_244 ?_
                  refine x_idiv hc (by decide) dL_ways_247 ?_
                  refine x_iload hc 4 dL_ways_248 rfl ?_
                  refine x_bipush (v := 100) hc rfl dL_ways_250 ?_
                  refine x_idiv hc (by decide) dL_ways_252 ?_
                  refine x_bipush (v := 100) hc rfl dL_ways_253 ?_
                  refine x_irem hc (by decide) dL_ways_255 ?_
                  refine x_iload hc 4 dL_ways_256 rfl ?_
                  refine x_bipush (v := 100) hc rfl dL_ways_258 ?_
                  refine x_irem hc (by decide) dL_ways_260 ?_
                  obtain ⟨x43, G42, r44, hf⟩ := bj2_ok hf
                  refine x_callVr (As := [.int 0, .int (x38 / 10000), .int ((x38 / 100) - (x38 / 100) / 100 * 100), .int (x38 - x38 / 100 * 100)]) (p0 := 0) (v := (.int x43)) (T := TX7) hc (c_X7_way (kl K) (kV K) 0 (x38 / 10000) ((x38 / 100) - (x38 / 100) / 100 * 100) (x38 - x38 / 100 * 100) G37 x43 G42 r44) mw_X7_way tw_777 (rfl : kd 0 = 7) (by decide) rfl rfl (Nat.le_of_ble_eq_true rfl) ⟨Nat.le_of_ble_eq_true rfl, Nat.le_of_ble_eq_true rfl⟩ dL_ways_261 rfl ?_
                  refine x_if_lt (tgt := 284) hc dL_ways_264 rfl (fun c_264 => ?_) (fun c_264 => ?_)
                  · replace hf := if_p hf c_264
                    cases hf
                  · replace hf := if_n hf c_264
                    refine x_aload_n hc 0 dL_ways_267 rfl rfl ?_
                    obtain ⟨x45, r46, hf⟩ := bj1_ok hf
                    refine x_callVr (As := []) (p0 := 0) (v := (.int x45)) (T := TX7) hc (c_X7_asked (kl K) (kV K) G42 x45 r46) mw_X7_asked tw_602 (rfl : kd 0 = 7) (by decide) rfl rfl (Nat.le_of_ble_eq_true rfl) ⟨Nat.le_of_ble_eq_true rfl, Nat.le_of_ble_eq_true rfl⟩ dL_ways_268 rfl ?_
                    refine x_iload hc 5 dL_ways_271 rfl ?_
                    refine x_icmp_ne (tgt := 284) hc dL_ways_273 rfl (fun c_273 => ?_) (fun c_273 => ?_)
                    · replace hf := if_n hf c_273
                      cases hf
                    · replace hf := if_p hf c_273
                      refine x_iload hc 5 dL_ways_276 rfl ?_
                      refine x_aload_n hc 2 dL_ways_278 rfl rfl ?_
                      refine x_iconst (v := 0) hc rfl dL_ways_279 ?_
                      obtain ⟨h47, hf⟩ := chk_ok hf
                      refine x_ialoadA (p0 := a2) hc k_a2 h47 dL_ways_280 ?_
                      refine x_icmp_le (tgt := 286) hc dL_ways_281 rfl (fun c_281 => ?_) (fun c_281 => ?_)
                      · replace hf := if_p hf c_281
                        refine x_aload_n hc 0 dL_ways_286 rfl rfl ?_
                        refine x_iconst (v := 0) hc rfl dL_ways_287 ?_
                        refine x_iload_n hc 3 dL_ways_288 rfl rfl ?_
                        refine x_iconst (v := 4) hc rfl dL_ways_289 ?_
                        refine x_sipush (v := 550) hc rfl dL_ways_290 ?_
                        obtain ⟨x49, G48, r50, hf⟩ := bj2_ok hf
                        refine x_callVr (As := [.int 0, .int (10 + (x1 - x1 / 21 * 21)), .int 4, .int 550]) (p0 := 0) (v := (.int x49)) (T := TX7) hc (c_X7_off (kl K) (kV K) 0 (10 + (x1 - x1 / 21 * 21)) 4 550 G42 x49 G48 r50) mw_X7_off tw_800 (rfl : kd 0 = 7) (by decide) rfl rfl (Nat.le_of_ble_eq_true rfl) ⟨Nat.le_of_ble_eq_true rfl, Nat.le_of_ble_eq_true rfl⟩ dL_ways_293 rfl ?_
                        refine x_istore (L' := [(0, .ref (kad K 0)), (1, .ref (vSB (kV K))), (3, .int (10 + (x1 - x1 / 21 * 21))), (9, .int x49)]) hc [1, 2, 4, 0] dL_ways_296 (by decide) rfl ?_
                        refine x_aload_n hc 0 dL_ways_298 rfl rfl ?_
                        obtain ⟨x51, r52, hf⟩ := bj1_ok hf
                        refine x_callVr (As := []) (p0 := 0) (v := (.int x51)) (T := TX7) hc (c_X7_asked (kl K) (kV K) G48 x51 r52) mw_X7_asked tw_602 (rfl : kd 0 = 7) (by decide) rfl rfl (Nat.le_of_ble_eq_true rfl) ⟨Nat.le_of_ble_eq_true rfl, Nat.le_of_ble_eq_true rfl⟩ dL_ways_299 rfl ?_
                        refine x_istore (L' := [(0, .ref (kad K 0)), (1, .ref (vSB (kV K))), (3, .int (10 + (x1 - x1 / 21 * 21))), (9, .int x49), (10, .int x51)]) hc [1, 2, 3, 4, 0] dL_ways_302 (by decide) rfl ?_
                        refine x_bipush (v := 6) hc rfl dL_ways_304 ?_
                        refine x_aload_n hc 1 dL_ways_306 rfl rfl ?_
                        refine x_bipush (v := 6) hc rfl dL_ways_307 ?_
                        obtain ⟨x53, r54, hf⟩ := bj1_ok hf
                        refine x_callSr (As := [.ref (vSB (kV K)), .int 6]) (v := (.int x53)) hc (c_L_cell (kl K) (kV K) sl xs 6 G48 x53 k_sc r54) mw_L_cell tw_690 rfl (Nat.le_of_ble_eq_true rfl) ⟨Nat.le_of_ble_eq_true rfl, Nat.le_of_ble_eq_true rfl⟩ dL_ways_309 rfl ?_
                        refine x_iconst (v := 4) hc rfl dL_ways_312 ?_
                        refine x_irem hc (by decide) dL_ways_313 ?_
                        refine x_iadd hc dL_ways_314 ?_
                        refine x_istore (L' := [(0, .ref (kad K 0)), (3, .int (10 + (x1 - x1 / 21 * 21))), (9, .int x49), (10, .int x51), (11, .int (6 + (x53 - x53 / 4 * 4)))]) hc [1, 3, 4, 5, 0] dL_ways_315 (by decide) rfl ?_
                        refine x_aload_n hc 0 dL_ways_317 rfl rfl ?_
                        refine x_iconst (v := 0) hc rfl dL_ways_318 ?_
                        refine x_iload hc 4 dL_ways_319 rfl ?_
                        obtain ⟨x56, G55, r57, hf⟩ := bj2_ok hf
                        refine x_callVr (As := [.int 0, .int (6 + (x53 - x53 / 4 * 4))]) (p0 := 0) (v := (.int x56)) (T := TX7) hc (c_X7_safe (kl K) (kV K) 0 (6 + (x53 - x53 / 4 * 4)) G48 x56 G55 r57) mw_X7_safe tw_812 (rfl : kd 0 = 7) (by decide) rfl rfl (Nat.le_of_ble_eq_true rfl) ⟨Nat.le_of_ble_eq_true rfl, Nat.le_of_ble_eq_true rfl⟩ dL_ways_321 rfl ?_
                        refine x_istore (L' := [(0, .ref (kad K 0)), (3, .int (10 + (x1 - x1 / 21 * 21))), (9, .int x49), (10, .int x51), (11, .int (6 + (x53 - x53 / 4 * 4))), (12, .int x56)]) hc [1, 2, 3, 4, 5, 0] dL_ways_324 (by decide) rfl ?_
                        refine x_aload_n hc 0 dL_ways_326 rfl rfl ?_
                        refine x_iconst (v := 0) hc rfl dL_ways_327 ?_
                        refine x_iload hc 4 dL_ways_328 rfl ?_
                        refine x_iconst (v := 1) hc rfl dL_ways_330 ?_
                        refine x_iadd hc dL_ways_331 ?_
                        obtain ⟨x59, G58, r60, hf⟩ := bj2_ok hf
                        refine x_callVr (As := [.int 0, .int ((6 + (x53 - x53 / 4 * 4)) + 1)]) (p0 := 0) (v := (.int x59)) (T := TX7) hc (c_X7_safe (kl K) (kV K) 0 ((6 + (x53 - x53 / 4 * 4)) + 1) G55 x59 G58 r60) mw_X7_safe tw_812 (rfl : kd 0 = 7) (by decide) rfl rfl (Nat.le_of_ble_eq_true rfl) ⟨Nat.le_of_ble_eq_true rfl, Nat.le_of_ble_eq_true rfl⟩ dL_ways_332 rfl ?_
                        refine x_istore (L' := [(0, .ref (kad K 0)), (3, .int (10 + (x1 - x1 / 21 * 21))), (9, .int x49), (10, .int x51), (12, .int x56), (13, .int x59)]) hc [1, 2, 3, 4, 6, 0] dL_ways_335 (by decide) rfl ?_
                        refine x_iload hc 2 dL_ways_337 rfl ?_
                        refine x_iconst (v := 1) hc rfl dL_ways_339 ?_
                        refine x_icmp_lt (tgt := 425) hc dL_ways_340 rfl (fun c_340 => ?_) (fun c_340 => ?_)
                        · replace hf := if_p hf c_340
                          cases hf
                        · replace hf := if_n hf c_340
                          refine x_iload hc 2 dL_ways_343 rfl ?_
                          refine x_bipush (v := 120) hc rfl dL_ways_345 ?_
                          refine x_icmp_gt (tgt := 425) hc dL_ways_347 rfl (fun c_347 => ?_) (fun c_347 => ?_)
                          · replace hf := if_p hf c_347
                            cases hf
                          · replace hf := if_n hf c_347
                            refine x_iload hc 3 dL_ways_350 rfl ?_
                            refine x_if_lt (tgt := 425) hc dL_ways_352 rfl (fun c_352 => ?_) (fun c_352 => ?_)
                            · replace hf := if_p hf c_352
                              cases hf
                            · replace hf := if_n hf c_352
                              refine x_iload hc 4 dL_ways_355 rfl ?_
                              obtain ⟨_u, hr, hf⟩ := bj1_ok hf
                              have hj_373_61 : X K 373 [(0, .ref (kad K 0)), (3, .int (10 + (x1 - x1 / 21 * 21)))] [] G58 := by
                                clear hr
                                refine x_aload_n hc 0 dL_ways_373 rfl rfl ?_
                                refine x_iconst (v := 0) hc rfl dL_ways_374 ?_
                                refine x_iconst (v := 0) hc rfl dL_ways_375 ?_
                                refine x_iload_n hc 1 dL_ways_376 rfl rfl ?_
                                refine x_iconst (v := 3) hc rfl dL_ways_377 ?_
                                refine x_sipush (v := 300) hc rfl dL_ways_378 ?_
                                refine x_sipush (v := 300) hc rfl dL_ways_381 ?_
                                obtain ⟨x63, G62, r64, hf⟩ := bj2_ok hf
                                refine x_callVr (As := [.int 0, .int 0, .int (10 + (x1 - x1 / 21 * 21)), .int 3, .int 300, .int 300]) (p0 := 0) (v := (.int x63)) (T := TX7) hc (c_X7_same (kl K) (kV K) 0 0 (10 + (x1 - x1 / 21 * 21)) 3 300 300 G58 x63 G62 r64) mw_X7_same tw_820 (rfl : kd 0 = 7) (by decide) rfl rfl (Nat.le_of_ble_eq_true rfl) ⟨Nat.le_of_ble_eq_true rfl, Nat.le_of_ble_eq_true rfl⟩ dL_ways_384 rfl ?_
                                refine x_if_gt (tgt := 425) hc dL_ways_387 rfl (fun c_387 => ?_) (fun c_387 => ?_)
                                · replace hf := if_p hf c_387
                                  cases hf
                                · replace hf := if_n hf c_387
                                  refine x_aload_n hc 0 dL_ways_390 rfl rfl ?_
                                  refine x_iconst (v := 0) hc rfl dL_ways_391 ?_
                                  refine x_iconst (v := 0) hc rfl dL_ways_392 ?_
                                  refine x_iload_n hc 1 dL_ways_393 rfl rfl ?_
                                  refine x_iconst (v := 3) hc rfl dL_ways_394 ?_
                                  refine x_sipush (v := 300) hc rfl dL_ways_395 ?_
                                  refine x_sipush (v := 400) hc rfl dL_ways_398 ?_
                                  obtain ⟨x66, G65, r67, hf⟩ := bj2_ok hf
                                  refine x_callVr (As := [.int 0, .int 0, .int (10 + (x1 - x1 / 21 * 21)), .int 3, .int 300, .int 400]) (p0 := 0) (v := (.int x66)) (T := TX7) hc (c_X7_same (kl K) (kV K) 0 0 (10 + (x1 - x1 / 21 * 21)) 3 300 400 G62 x66 G65 r67) mw_X7_same tw_820 (rfl : kd 0 = 7) (by decide) rfl rfl (Nat.le_of_ble_eq_true rfl) ⟨Nat.le_of_ble_eq_true rfl, Nat.le_of_ble_eq_true rfl⟩ dL_ways_401 rfl ?_
                                  refine x_bipush (v := (-9)) hc rfl dL_ways_404 ?_
                                  refine x_icmp_lt (tgt := 425) hc dL_ways_406 rfl (fun c_406 => ?_) (fun c_406 => ?_)
                                  · replace hf := if_p hf c_406
                                    cases hf
                                  · replace hf := if_n hf c_406
                                    refine x_aload_n hc 0 dL_ways_409 rfl rfl ?_
                                    refine x_iconst (v := 0) hc rfl dL_ways_410 ?_
                                    refine x_iload_n hc 1 dL_ways_411 rfl rfl ?_
                                    refine x_iconst (v := 3) hc rfl dL_ways_412 ?_
                                    refine x_iconst (v := 0) hc rfl dL_ways_413 ?_
                                    obtain ⟨x69, G68, r70, hf⟩ := bj2_ok hf
                                    refine x_callVr (As := [.int 0, .int (10 + (x1 - x1 / 21 * 21)), .int 3, .int 0]) (p0 := 0) (v := (.int x69)) (T := TX7) hc (c_X7_rule (kl K) (kV K) 0 (10 + (x1 - x1 / 21 * 21)) 3 0 G65 x69 G68 r70) mw_X7_rule tw_829 (rfl : kd 0 = 7) (by decide) rfl rfl (Nat.le_of_ble_eq_true rfl) ⟨Nat.le_of_ble_eq_true rfl, Nat.le_of_ble_eq_true rfl⟩ dL_ways_414 rfl ?_
                                    refine x_iconst (v := 1) hc rfl dL_ways_417 ?_
                                    refine x_icmp_ne (tgt := 425) hc dL_ways_418 rfl (fun c_418 => ?_) (fun c_418 => ?_)
                                    · replace hf := if_n hf c_418
                                      cases hf
                                    · replace hf := if_p hf c_418
                                      refine x_iconst (v := 1) hc rfl dL_ways_421 ?_
                                      refine x_goto (tgt := 426) hc dL_ways_422 rfl ?_
                                      cases hf
                                      exact x_zret hc rfl rfl ho dL_ways_426
                              replace hf := hr
                              clear hr
                              refine x_if_lt (tgt := 373) hc dL_ways_357 rfl (fun c_357 => ?_) (fun c_357 => ?_)
                              · replace hf := if_p hf c_357
                                cases hf
                                exact x_sub [0, 1] hj_373_61 rfl
                              · replace hf := if_n hf c_357
                                refine x_iload hc 5 dL_ways_360 rfl ?_
                                refine x_iconst (v := 1) hc rfl dL_ways_362 ?_
                                refine x_icmp_lt (tgt := 425) hc dL_ways_363 rfl (fun c_363 => ?_) (fun c_363 => ?_)
                                · replace hf := if_p hf c_363
                                  cases hf
                                · replace hf := if_n hf c_363
                                  refine x_iload hc 5 dL_ways_366 rfl ?_
                                  refine x_iload hc 4 dL_ways_368 rfl ?_
                                  refine x_icmp_gt (tgt := 425) hc dL_ways_370 rfl (fun c_370 => ?_) (fun c_370 => ?_)
                                  · replace hf := if_p hf c_370
                                    cases hf
                                  · replace hf := if_n hf c_370
                                    cases hf
                                    exact x_sub [0, 1] hj_373_61 rfl
                      · replace hf := if_n hf c_281
                        cases hf
              · replace hf := if_n hf c_210
                cases hf
          exact x_sub [0, 1, 2, 3, 4, 5, 6, 7] (c_L_ways_l80_17 a2 x1 x3 x6 x8 sl xs hc k_sc k_a2 FU 0 G10 G31 hl_80 he_187_n17) rfl
        · replace hf := if_n hf c_72
          cases hf

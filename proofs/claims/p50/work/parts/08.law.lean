theorem tw_91 : Cond.arrayClass .int ∈ TB := TB_mem 91 (by decide +kernel) (by decide +kernel)
theorem tw_378 : Cond.methodLink RL 78 yX7_dish ∈ TB := TB_mem 378 (by decide +kernel) (by decide +kernel)
theorem tw_397 : Cond.methodLink RL 81 yX7_go ∈ TB := TB_mem 397 (by decide +kernel) (by decide +kernel)
theorem tw_433 : Cond.methodLink RL 85 yX7_depth ∈ TB := TB_mem 433 (by decide +kernel) (by decide +kernel)
theorem tw_461 : Cond.methodLink RL 92 yX7_skin ∈ TB := TB_mem 461 (by decide +kernel) (by decide +kernel)
theorem tw_481 : Cond.methodLink RL 98 yX7_just ∈ TB := TB_mem 481 (by decide +kernel) (by decide +kernel)
theorem tw_497 : Cond.methodLink RL 95 yX7_slice ∈ TB := TB_mem 497 (by decide +kernel) (by decide +kernel)
theorem tw_528 : Cond.methodLink RL 114 yX7_cut ∈ TB := TB_mem 528 (by decide +kernel) (by decide +kernel)
theorem tw_545 : Cond.methodLink RL 120 yX7_rise ∈ TB := TB_mem 545 (by decide +kernel) (by decide +kernel)
theorem tw_558 : Cond.methodLink RL 117 yX7_rest ∈ TB := TB_mem 558 (by decide +kernel) (by decide +kernel)
theorem tw_568 : Cond.methodLink RL 101 yX7_which ∈ TB := TB_mem 568 (by decide +kernel) (by decide +kernel)
theorem tw_594 : Cond.methodLink RL 104 yX7_odds ∈ TB := TB_mem 594 (by decide +kernel) (by decide +kernel)
theorem tw_606 : Cond.methodLink RL 107 yX7_upper ∈ TB := TB_mem 606 (by decide +kernel) (by decide +kernel)
theorem tw_610 : Cond.methodLink RL 111 yX7_digest ∈ TB := TB_mem 610 (by decide +kernel) (by decide +kernel)
theorem tw_687 : Cond.methodLink RL 65 yL_numbers ∈ TB := TB_mem 687 (by decide +kernel) (by decide +kernel)
theorem tw_694 : Cond.methodLink RL 73 yL_slab ∈ TB := TB_mem 694 (by decide +kernel) (by decide +kernel)
theorem tw_747 : Cond.methodLink RL 69 yL_plans ∈ TB := TB_mem 747 (by decide +kernel) (by decide +kernel)
theorem tw_750 : Cond.methodLink RL 76 yL_plan ∈ TB := TB_mem 750 (by decide +kernel) (by decide +kernel)
theorem tw_753 : Cond.methodLink RL 56 yL_ticks ∈ TB := TB_mem 753 (by decide +kernel) (by decide +kernel)
theorem tw_756 : Cond.methodLink RL 88 yL_tells ∈ TB := TB_mem 756 (by decide +kernel) (by decide +kernel)
theorem tw_759 : Cond.methodLink RL 123 yL_ways ∈ TB := TB_mem 759 (by decide +kernel) (by decide +kernel)
theorem tw_833 : Cond.methodLink RL 127 yL_salts ∈ TB := TB_mem 833 (by decide +kernel) (by decide +kernel)
theorem tw_834 : Cond.static yL_salts ∈ TB := TB_mem 834 (by decide +kernel) (by decide +kernel)
theorem tw_835 : Cond.code yL_salts cL_salts 10 (some .boolean) ∈ TB := TB_mem 835 (by decide +kernel) (by decide +kernel)
theorem tw_836 : Cond.methodLink RL 157 yX7_salt ∈ TB := TB_mem 836 (by decide +kernel) (by decide +kernel)
theorem tw_840 : Cond.methodLink RL 160 yL_copy ∈ TB := TB_mem 840 (by decide +kernel) (by decide +kernel)
theorem tw_843 : Cond.methodLink RL 164 yX7_thick ∈ TB := TB_mem 843 (by decide +kernel) (by decide +kernel)
theorem tw_847 : Cond.methodLink RL 167 yX7_order ∈ TB := TB_mem 847 (by decide +kernel) (by decide +kernel)
theorem tw_898 : Cond.methodLink RL 170 yX7_at ∈ TB := TB_mem 898 (by decide +kernel) (by decide +kernel)
theorem tw_903 : Cond.methodLink RL 173 yX7_tear ∈ TB := TB_mem 903 (by decide +kernel) (by decide +kernel)
theorem dL_salts_0 : decode cL_salts 0 = .ok (.aload_n 0, 1) := by decide +kernel
theorem dL_salts_1 : decode cL_salts 1 = .ok (.iconst 0, 1) := by decide +kernel
theorem dL_salts_2 : decode cL_salts 2 = .ok (.iconst 0, 1) := by decide +kernel
theorem dL_salts_3 : decode cL_salts 3 = .ok (.invokevirtual 157, 3) := by decide +kernel
theorem dL_salts_6 : decode cL_salts 6 = .ok (.istore 4, 2) := by decide +kernel
theorem dL_salts_8 : decode cL_salts 8 = .ok (.aload_n 0, 1) := by decide +kernel
theorem dL_salts_9 : decode cL_salts 9 = .ok (.invokevirtual 40, 3) := by decide +kernel
theorem dL_salts_12 : decode cL_salts 12 = .ok (.istore 5, 2) := by decide +kernel
theorem dL_salts_14 : decode cL_salts 14 = .ok (.bipush 8, 2) := by decide +kernel
theorem dL_salts_16 : decode cL_salts 16 = .ok (.newarray .int, 2) := by decide +kernel
theorem dL_salts_18 : decode cL_salts 18 = .ok (.astore 6, 2) := by decide +kernel
theorem dL_salts_20 : decode cL_salts 20 = .ok (.aload_n 2, 1) := by decide +kernel
theorem dL_salts_21 : decode cL_salts 21 = .ok (.aload 6, 2) := by decide +kernel
theorem dL_salts_23 : decode cL_salts 23 = .ok (.bipush 8, 2) := by decide +kernel
theorem dL_salts_25 : decode cL_salts 25 = .ok (.invokestatic 160, 3) := by decide +kernel
theorem dL_salts_28 : decode cL_salts 28 = .ok (.aload 6, 2) := by decide +kernel
theorem dL_salts_30 : decode cL_salts 30 = .ok (.iconst 2, 1) := by decide +kernel
theorem dL_salts_31 : decode cL_salts 31 = .ok (.iload 4, 2) := by decide +kernel
theorem dL_salts_33 : decode cL_salts 33 = .ok (.iastore, 1) := by decide +kernel
theorem dL_salts_34 : decode cL_salts 34 = .ok (.iload 4, 2) := by decide +kernel
theorem dL_salts_36 : decode cL_salts 36 = .ok (.ifCond .lt 48, 3) := by decide +kernel
theorem dL_salts_39 : decode cL_salts 39 = .ok (.iload 4, 2) := by decide +kernel
theorem dL_salts_41 : decode cL_salts 41 = .ok (.bipush 50, 2) := by decide +kernel
theorem dL_salts_43 : decode cL_salts 43 = .ok (.if_icmp .gt 41, 3) := by decide +kernel
theorem dL_salts_46 : decode cL_salts 46 = .ok (.aload_n 1, 1) := by decide +kernel
theorem dL_salts_47 : decode cL_salts 47 = .ok (.iconst 1, 1) := by decide +kernel
theorem dL_salts_48 : decode cL_salts 48 = .ok (.aload 6, 2) := by decide +kernel
theorem dL_salts_50 : decode cL_salts 50 = .ok (.invokestatic 73, 3) := by decide +kernel
theorem dL_salts_53 : decode cL_salts 53 = .ok (.ifCond .eq 31, 3) := by decide +kernel
theorem dL_salts_56 : decode cL_salts 56 = .ok (.aload_n 1, 1) := by decide +kernel
theorem dL_salts_57 : decode cL_salts 57 = .ok (.iconst 1, 1) := by decide +kernel
theorem dL_salts_58 : decode cL_salts 58 = .ok (.iconst 0, 1) := by decide +kernel
theorem dL_salts_59 : decode cL_salts 59 = .ok (.invokevirtual 78, 3) := by decide +kernel
theorem dL_salts_62 : decode cL_salts 62 = .ok (.aload_n 3, 1) := by decide +kernel
theorem dL_salts_63 : decode cL_salts 63 = .ok (.invokestatic 56, 3) := by decide +kernel
theorem dL_salts_66 : decode cL_salts 66 = .ok (.if_icmp .ne 18, 3) := by decide +kernel
theorem dL_salts_69 : decode cL_salts 69 = .ok (.aload_n 1, 1) := by decide +kernel
theorem dL_salts_70 : decode cL_salts 70 = .ok (.aload_n 3, 1) := by decide +kernel
theorem dL_salts_71 : decode cL_salts 71 = .ok (.invokestatic 56, 3) := by decide +kernel
theorem dL_salts_74 : decode cL_salts 74 = .ok (.invokevirtual 81, 3) := by decide +kernel
theorem dL_salts_77 : decode cL_salts 77 = .ok (.aload_n 3, 1) := by decide +kernel
theorem dL_salts_78 : decode cL_salts 78 = .ok (.invokestatic 56, 3) := by decide +kernel
theorem dL_salts_81 : decode cL_salts 81 = .ok (.if_icmp .eq 5, 3) := by decide +kernel
theorem dL_salts_84 : decode cL_salts 84 = .ok (.iconst 0, 1) := by decide +kernel
theorem dL_salts_85 : decode cL_salts 85 = .ok (.ireturn, 1) := by decide +kernel
theorem dL_salts_86 : decode cL_salts 86 = .ok (.aload_n 1, 1) := by decide +kernel
theorem dL_salts_87 : decode cL_salts 87 = .ok (.aload_n 1, 1) := by decide +kernel
theorem dL_salts_88 : decode cL_salts 88 = .ok (.iconst 0, 1) := by decide +kernel
theorem dL_salts_89 : decode cL_salts 89 = .ok (.iconst 2, 1) := by decide +kernel
theorem dL_salts_90 : decode cL_salts 90 = .ok (.invokevirtual 92, 3) := by decide +kernel
theorem dL_salts_93 : decode cL_salts 93 = .ok (.invokestatic 88, 3) := by decide +kernel
theorem dL_salts_96 : decode cL_salts 96 = .ok (.istore 7, 2) := by decide +kernel
theorem dL_salts_98 : decode cL_salts 98 = .ok (.aload_n 1, 1) := by decide +kernel
theorem dL_salts_99 : decode cL_salts 99 = .ok (.aload_n 1, 1) := by decide +kernel
theorem dL_salts_100 : decode cL_salts 100 = .ok (.iconst 1, 1) := by decide +kernel
theorem dL_salts_101 : decode cL_salts 101 = .ok (.iconst 2, 1) := by decide +kernel
theorem dL_salts_102 : decode cL_salts 102 = .ok (.invokevirtual 92, 3) := by decide +kernel
theorem dL_salts_105 : decode cL_salts 105 = .ok (.invokestatic 88, 3) := by decide +kernel
theorem dL_salts_108 : decode cL_salts 108 = .ok (.istore 8, 2) := by decide +kernel
theorem dL_salts_110 : decode cL_salts 110 = .ok (.aload_n 0, 1) := by decide +kernel
theorem dL_salts_111 : decode cL_salts 111 = .ok (.iconst 0, 1) := by decide +kernel
theorem dL_salts_112 : decode cL_salts 112 = .ok (.iconst 0, 1) := by decide +kernel
theorem dL_salts_113 : decode cL_salts 113 = .ok (.iconst 0, 1) := by decide +kernel
theorem dL_salts_114 : decode cL_salts 114 = .ok (.sipush 4000, 3) := by decide +kernel
theorem dL_salts_117 : decode cL_salts 117 = .ok (.invokevirtual 164, 3) := by decide +kernel
theorem dL_salts_120 : decode cL_salts 120 = .ok (.istore 9, 2) := by decide +kernel
theorem dL_salts_122 : decode cL_salts 122 = .ok (.aload_n 3, 1) := by decide +kernel
theorem dL_salts_123 : decode cL_salts 123 = .ok (.iconst 1, 1) := by decide +kernel
theorem dL_salts_124 : decode cL_salts 124 = .ok (.iconst 3, 1) := by decide +kernel
theorem dL_salts_125 : decode cL_salts 125 = .ok (.aload_n 3, 1) := by decide +kernel
theorem dL_salts_126 : decode cL_salts 126 = .ok (.iconst 0, 1) := by decide +kernel
theorem dL_salts_127 : decode cL_salts 127 = .ok (.iaload, 1) := by decide +kernel
theorem dL_salts_128 : decode cL_salts 128 = .ok (.iconst 1, 1) := by decide +kernel
theorem dL_salts_129 : decode cL_salts 129 = .ok (.isub, 1) := by decide +kernel
theorem dL_salts_130 : decode cL_salts 130 = .ok (.imul, 1) := by decide +kernel
theorem dL_salts_131 : decode cL_salts 131 = .ok (.iadd, 1) := by decide +kernel
theorem dL_salts_132 : decode cL_salts 132 = .ok (.iaload, 1) := by decide +kernel
theorem dL_salts_133 : decode cL_salts 133 = .ok (.iconst 4, 1) := by decide +kernel
theorem dL_salts_134 : decode cL_salts 134 = .ok (.if_icmp .gt 22, 3) := by decide +kernel
theorem dL_salts_137 : decode cL_salts 137 = .ok (.iload 5, 2) := by decide +kernel
theorem dL_salts_139 : decode cL_salts 139 = .ok (.iload 7, 2) := by decide +kernel
theorem dL_salts_141 : decode cL_salts 141 = .ok (.iload 8, 2) := by decide +kernel
theorem dL_salts_143 : decode cL_salts 143 = .ok (.if_icmp .ge 8, 3) := by decide +kernel
theorem dL_salts_146 : decode cL_salts 146 = .ok (.iload 7, 2) := by decide +kernel
theorem dL_salts_148 : decode cL_salts 148 = .ok (.goto 5, 3) := by decide +kernel
theorem dL_salts_151 : decode cL_salts 151 = .ok (.iload 8, 2) := by decide +kernel
theorem dL_salts_153 : decode cL_salts 153 = .ok (.if_icmp .ne 57, 3) := by decide +kernel
theorem dL_salts_156 : decode cL_salts 156 = .ok (.iload 9, 2) := by decide +kernel
theorem dL_salts_158 : decode cL_salts 158 = .ok (.bipush 18, 2) := by decide +kernel
theorem dL_salts_160 : decode cL_salts 160 = .ok (.if_icmp .ne 50, 3) := by decide +kernel
theorem dL_salts_163 : decode cL_salts 163 = .ok (.aload_n 0, 1) := by decide +kernel
theorem dL_salts_164 : decode cL_salts 164 = .ok (.invokevirtual 40, 3) := by decide +kernel
theorem dL_salts_167 : decode cL_salts 167 = .ok (.iconst 3, 1) := by decide +kernel
theorem dL_salts_168 : decode cL_salts 168 = .ok (.if_icmp .ne 42, 3) := by decide +kernel
theorem dL_salts_171 : decode cL_salts 171 = .ok (.aload_n 0, 1) := by decide +kernel
theorem dL_salts_172 : decode cL_salts 172 = .ok (.iconst 1, 1) := by decide +kernel
theorem dL_salts_173 : decode cL_salts 173 = .ok (.iconst 4, 1) := by decide +kernel
theorem dL_salts_174 : decode cL_salts 174 = .ok (.invokevirtual 167, 3) := by decide +kernel
theorem dL_salts_177 : decode cL_salts 177 = .ok (.ifCond .lt 33, 3) := by decide +kernel
theorem dL_salts_180 : decode cL_salts 180 = .ok (.aload_n 0, 1) := by decide +kernel
theorem dL_salts_181 : decode cL_salts 181 = .ok (.iconst 4, 1) := by decide +kernel
theorem dL_salts_182 : decode cL_salts 182 = .ok (.iconst 0, 1) := by decide +kernel
theorem dL_salts_183 : decode cL_salts 183 = .ok (.invokevirtual 170, 3) := by decide +kernel
theorem dL_salts_186 : decode cL_salts 186 = .ok (.iconst 1, 1) := by decide +kernel
theorem dL_salts_187 : decode cL_salts 187 = .ok (.if_icmp .ne 23, 3) := by decide +kernel
theorem dL_salts_190 : decode cL_salts 190 = .ok (.aload_n 0, 1) := by decide +kernel
theorem dL_salts_191 : decode cL_salts 191 = .ok (.invokevirtual 40, 3) := by decide +kernel
theorem dL_salts_194 : decode cL_salts 194 = .ok (.ifCond .ne 16, 3) := by decide +kernel
theorem dL_salts_197 : decode cL_salts 197 = .ok (.aload_n 0, 1) := by decide +kernel
theorem dL_salts_198 : decode cL_salts 198 = .ok (.iconst 4, 1) := by decide +kernel
theorem dL_salts_199 : decode cL_salts 199 = .ok (.invokevirtual 173, 3) := by decide +kernel
theorem dL_salts_202 : decode cL_salts 202 = .ok (.iconst 1, 1) := by decide +kernel
theorem dL_salts_203 : decode cL_salts 203 = .ok (.if_icmp .ne 7, 3) := by decide +kernel
theorem dL_salts_206 : decode cL_salts 206 = .ok (.iconst 1, 1) := by decide +kernel
theorem dL_salts_207 : decode cL_salts 207 = .ok (.goto 4, 3) := by decide +kernel
theorem dL_salts_210 : decode cL_salts 210 = .ok (.iconst 0, 1) := by decide +kernel
theorem dL_salts_211 : decode cL_salts 211 = .ok (.ireturn, 1) := by decide +kernel
theorem dL_law_0 : decode cL_law 0 = .ok (.new 9, 3) := by decide +kernel
theorem dL_law_3 : decode cL_law 3 = .ok (.dup, 1) := by decide +kernel
theorem dL_law_4 : decode cL_law 4 = .ok (.invokespecial 64, 3) := by decide +kernel
theorem dL_law_7 : decode cL_law 7 = .ok (.astore_n 1, 1) := by decide +kernel
theorem dL_law_8 : decode cL_law 8 = .ok (.new 9, 3) := by decide +kernel
theorem dL_law_11 : decode cL_law 11 = .ok (.dup, 1) := by decide +kernel
theorem dL_law_12 : decode cL_law 12 = .ok (.invokespecial 64, 3) := by decide +kernel
theorem dL_law_15 : decode cL_law 15 = .ok (.astore_n 2, 1) := by decide +kernel
theorem dL_law_16 : decode cL_law 16 = .ok (.bipush 8, 2) := by decide +kernel
theorem dL_law_18 : decode cL_law 18 = .ok (.newarray .int, 2) := by decide +kernel
theorem dL_law_20 : decode cL_law 20 = .ok (.astore_n 3, 1) := by decide +kernel
theorem dL_law_21 : decode cL_law 21 = .ok (.bipush 40, 2) := by decide +kernel
theorem dL_law_23 : decode cL_law 23 = .ok (.newarray .int, 2) := by decide +kernel
theorem dL_law_25 : decode cL_law 25 = .ok (.astore 4, 2) := by decide +kernel
theorem dL_law_27 : decode cL_law 27 = .ok (.bipush 40, 2) := by decide +kernel
theorem dL_law_29 : decode cL_law 29 = .ok (.newarray .int, 2) := by decide +kernel
theorem dL_law_31 : decode cL_law 31 = .ok (.astore 5, 2) := by decide +kernel
theorem dL_law_33 : decode cL_law 33 = .ok (.aload_n 0, 1) := by decide +kernel
theorem dL_law_34 : decode cL_law 34 = .ok (.bipush 10, 2) := by decide +kernel
theorem dL_law_36 : decode cL_law 36 = .ok (.aload_n 3, 1) := by decide +kernel
theorem dL_law_37 : decode cL_law 37 = .ok (.invokestatic 65, 3) := by decide +kernel
theorem dL_law_40 : decode cL_law 40 = .ok (.aload_n 0, 1) := by decide +kernel
theorem dL_law_41 : decode cL_law 41 = .ok (.bipush 20, 2) := by decide +kernel
theorem dL_law_43 : decode cL_law 43 = .ok (.bipush 6, 2) := by decide +kernel
theorem dL_law_45 : decode cL_law 45 = .ok (.aload 4, 2) := by decide +kernel
theorem dL_law_47 : decode cL_law 47 = .ok (.invokestatic 69, 3) := by decide +kernel
theorem dL_law_50 : decode cL_law 50 = .ok (.aload 5, 2) := by decide +kernel
theorem dL_law_52 : decode cL_law 52 = .ok (.iconst 0, 1) := by decide +kernel
theorem dL_law_53 : decode cL_law 53 = .ok (.aload 4, 2) := by decide +kernel
theorem dL_law_55 : decode cL_law 55 = .ok (.iconst 0, 1) := by decide +kernel
theorem dL_law_56 : decode cL_law 56 = .ok (.iaload, 1) := by decide +kernel
theorem dL_law_57 : decode cL_law 57 = .ok (.iconst 1, 1) := by decide +kernel
theorem dL_law_58 : decode cL_law 58 = .ok (.iadd, 1) := by decide +kernel
theorem dL_law_59 : decode cL_law 59 = .ok (.iastore, 1) := by decide +kernel
theorem dL_law_60 : decode cL_law 60 = .ok (.aload 5, 2) := by decide +kernel
theorem dL_law_62 : decode cL_law 62 = .ok (.iconst 1, 1) := by decide +kernel
theorem dL_law_63 : decode cL_law 63 = .ok (.iconst 5, 1) := by decide +kernel
theorem dL_law_64 : decode cL_law 64 = .ok (.iastore, 1) := by decide +kernel
theorem dL_law_65 : decode cL_law 65 = .ok (.iconst 0, 1) := by decide +kernel
theorem dL_law_66 : decode cL_law 66 = .ok (.istore 6, 2) := by decide +kernel
theorem dL_law_68 : decode cL_law 68 = .ok (.iload 6, 2) := by decide +kernel
theorem dL_law_70 : decode cL_law 70 = .ok (.iconst 3, 1) := by decide +kernel
theorem dL_law_71 : decode cL_law 71 = .ok (.aload 4, 2) := by decide +kernel
theorem dL_law_73 : decode cL_law 73 = .ok (.iconst 0, 1) := by decide +kernel
theorem dL_law_74 : decode cL_law 74 = .ok (.iaload, 1) := by decide +kernel
theorem dL_law_75 : decode cL_law 75 = .ok (.imul, 1) := by decide +kernel
theorem dL_law_76 : decode cL_law 76 = .ok (.if_icmp .ge 23, 3) := by decide +kernel
theorem dL_law_79 : decode cL_law 79 = .ok (.aload 5, 2) := by decide +kernel
theorem dL_law_81 : decode cL_law 81 = .ok (.iconst 4, 1) := by decide +kernel
theorem dL_law_82 : decode cL_law 82 = .ok (.iload 6, 2) := by decide +kernel
theorem dL_law_84 : decode cL_law 84 = .ok (.iadd, 1) := by decide +kernel
theorem dL_law_85 : decode cL_law 85 = .ok (.aload 4, 2) := by decide +kernel
theorem dL_law_87 : decode cL_law 87 = .ok (.iconst 1, 1) := by decide +kernel
theorem dL_law_88 : decode cL_law 88 = .ok (.iload 6, 2) := by decide +kernel
theorem dL_law_90 : decode cL_law 90 = .ok (.iadd, 1) := by decide +kernel
theorem dL_law_91 : decode cL_law 91 = .ok (.iaload, 1) := by decide +kernel
theorem dL_law_92 : decode cL_law 92 = .ok (.iastore, 1) := by decide +kernel
theorem dL_law_93 : decode cL_law 93 = .ok (.iinc 6 1, 3) := by decide +kernel
theorem dL_law_96 : decode cL_law 96 = .ok (.goto (-28), 3) := by decide +kernel
theorem dL_law_99 : decode cL_law 99 = .ok (.aload_n 1, 1) := by decide +kernel
theorem dL_law_100 : decode cL_law 100 = .ok (.iconst 0, 1) := by decide +kernel
theorem dL_law_101 : decode cL_law 101 = .ok (.aload_n 3, 1) := by decide +kernel
theorem dL_law_102 : decode cL_law 102 = .ok (.invokestatic 73, 3) := by decide +kernel
theorem dL_law_105 : decode cL_law 105 = .ok (.ifCond .eq 60, 3) := by decide +kernel
theorem dL_law_108 : decode cL_law 108 = .ok (.aload_n 2, 1) := by decide +kernel
theorem dL_law_109 : decode cL_law 109 = .ok (.iconst 0, 1) := by decide +kernel
theorem dL_law_110 : decode cL_law 110 = .ok (.aload_n 3, 1) := by decide +kernel
theorem dL_law_111 : decode cL_law 111 = .ok (.invokestatic 73, 3) := by decide +kernel
theorem dL_law_114 : decode cL_law 114 = .ok (.ifCond .eq 51, 3) := by decide +kernel
theorem dL_law_117 : decode cL_law 117 = .ok (.aload_n 1, 1) := by decide +kernel
theorem dL_law_118 : decode cL_law 118 = .ok (.iconst 0, 1) := by decide +kernel
theorem dL_law_119 : decode cL_law 119 = .ok (.aload 4, 2) := by decide +kernel
theorem dL_law_121 : decode cL_law 121 = .ok (.invokestatic 76, 3) := by decide +kernel
theorem dL_law_124 : decode cL_law 124 = .ok (.ifCond .eq 41, 3) := by decide +kernel
theorem dL_law_127 : decode cL_law 127 = .ok (.aload_n 2, 1) := by decide +kernel
theorem dL_law_128 : decode cL_law 128 = .ok (.iconst 0, 1) := by decide +kernel
theorem dL_law_129 : decode cL_law 129 = .ok (.aload 5, 2) := by decide +kernel
theorem dL_law_131 : decode cL_law 131 = .ok (.invokestatic 76, 3) := by decide +kernel
theorem dL_law_134 : decode cL_law 134 = .ok (.ifCond .eq 31, 3) := by decide +kernel
theorem dL_law_137 : decode cL_law 137 = .ok (.aload_n 1, 1) := by decide +kernel
theorem dL_law_138 : decode cL_law 138 = .ok (.iconst 0, 1) := by decide +kernel
theorem dL_law_139 : decode cL_law 139 = .ok (.iconst 0, 1) := by decide +kernel
theorem dL_law_140 : decode cL_law 140 = .ok (.invokevirtual 78, 3) := by decide +kernel
theorem dL_law_143 : decode cL_law 143 = .ok (.aload 4, 2) := by decide +kernel
theorem dL_law_145 : decode cL_law 145 = .ok (.invokestatic 56, 3) := by decide +kernel
theorem dL_law_148 : decode cL_law 148 = .ok (.if_icmp .ne 17, 3) := by decide +kernel
theorem dL_law_151 : decode cL_law 151 = .ok (.aload_n 2, 1) := by decide +kernel
theorem dL_law_152 : decode cL_law 152 = .ok (.iconst 0, 1) := by decide +kernel
theorem dL_law_153 : decode cL_law 153 = .ok (.iconst 0, 1) := by decide +kernel
theorem dL_law_154 : decode cL_law 154 = .ok (.invokevirtual 78, 3) := by decide +kernel
theorem dL_law_157 : decode cL_law 157 = .ok (.aload 4, 2) := by decide +kernel
theorem dL_law_159 : decode cL_law 159 = .ok (.invokestatic 56, 3) := by decide +kernel
theorem dL_law_162 : decode cL_law 162 = .ok (.if_icmp .eq 5, 3) := by decide +kernel
theorem dL_law_165 : decode cL_law 165 = .ok (.iconst 0, 1) := by decide +kernel
theorem dL_law_166 : decode cL_law 166 = .ok (.ireturn, 1) := by decide +kernel
theorem dL_law_167 : decode cL_law 167 = .ok (.aload 4, 2) := by decide +kernel
theorem dL_law_169 : decode cL_law 169 = .ok (.invokestatic 56, 3) := by decide +kernel
theorem dL_law_172 : decode cL_law 172 = .ok (.istore 6, 2) := by decide +kernel
theorem dL_law_174 : decode cL_law 174 = .ok (.sipush 200, 3) := by decide +kernel
theorem dL_law_177 : decode cL_law 177 = .ok (.istore 7, 2) := by decide +kernel
theorem dL_law_179 : decode cL_law 179 = .ok (.iconst 0, 1) := by decide +kernel
theorem dL_law_180 : decode cL_law 180 = .ok (.istore 8, 2) := by decide +kernel
theorem dL_law_182 : decode cL_law 182 = .ok (.iload 8, 2) := by decide +kernel
theorem dL_law_184 : decode cL_law 184 = .ok (.aload 4, 2) := by decide +kernel
theorem dL_law_186 : decode cL_law 186 = .ok (.iconst 0, 1) := by decide +kernel
theorem dL_law_187 : decode cL_law 187 = .ok (.iaload, 1) := by decide +kernel
theorem dL_law_188 : decode cL_law 188 = .ok (.if_icmp .ge 45, 3) := by decide +kernel
theorem dL_law_191 : decode cL_law 191 = .ok (.bipush 100, 2) := by decide +kernel
theorem dL_law_193 : decode cL_law 193 = .ok (.aload 4, 2) := by decide +kernel
theorem dL_law_195 : decode cL_law 195 = .ok (.iconst 2, 1) := by decide +kernel
theorem dL_law_196 : decode cL_law 196 = .ok (.iconst 3, 1) := by decide +kernel
theorem dL_law_197 : decode cL_law 197 = .ok (.iload 8, 2) := by decide +kernel
theorem dL_law_199 : decode cL_law 199 = .ok (.imul, 1) := by decide +kernel
theorem dL_law_200 : decode cL_law 200 = .ok (.iadd, 1) := by decide +kernel
theorem dL_law_201 : decode cL_law 201 = .ok (.iaload, 1) := by decide +kernel
theorem dL_law_202 : decode cL_law 202 = .ok (.imul, 1) := by decide +kernel
theorem dL_law_203 : decode cL_law 203 = .ok (.iload 7, 2) := by decide +kernel
theorem dL_law_205 : decode cL_law 205 = .ok (.if_icmp .le 18, 3) := by decide +kernel
theorem dL_law_208 : decode cL_law 208 = .ok (.bipush 100, 2) := by decide +kernel
theorem dL_law_210 : decode cL_law 210 = .ok (.aload 4, 2) := by decide +kernel
theorem dL_law_212 : decode cL_law 212 = .ok (.iconst 2, 1) := by decide +kernel
theorem dL_law_213 : decode cL_law 213 = .ok (.iconst 3, 1) := by decide +kernel
theorem dL_law_214 : decode cL_law 214 = .ok (.iload 8, 2) := by decide +kernel
theorem dL_law_216 : decode cL_law 216 = .ok (.imul, 1) := by decide +kernel
theorem dL_law_217 : decode cL_law 217 = .ok (.iadd, 1) := by decide +kernel
theorem dL_law_218 : decode cL_law 218 = .ok (.iaload, 1) := by decide +kernel
theorem dL_law_219 : decode cL_law 219 = .ok (.imul, 1) := by decide +kernel
theorem dL_law_220 : decode cL_law 220 = .ok (.goto 5, 3) := by decide +kernel
theorem dL_law_223 : decode cL_law 223 = .ok (.iload 7, 2) := by decide +kernel
theorem dL_law_225 : decode cL_law 225 = .ok (.istore 7, 2) := by decide +kernel
theorem dL_law_227 : decode cL_law 227 = .ok (.iinc 8 1, 3) := by decide +kernel
theorem dL_law_230 : decode cL_law 230 = .ok (.goto (-48), 3) := by decide +kernel
theorem dL_law_233 : decode cL_law 233 = .ok (.bipush 10, 2) := by decide +kernel
theorem dL_law_235 : decode cL_law 235 = .ok (.aload_n 3, 1) := by decide +kernel
theorem dL_law_236 : decode cL_law 236 = .ok (.iconst 1, 1) := by decide +kernel
theorem dL_law_237 : decode cL_law 237 = .ok (.iaload, 1) := by decide +kernel
theorem dL_law_238 : decode cL_law 238 = .ok (.imul, 1) := by decide +kernel
theorem dL_law_239 : decode cL_law 239 = .ok (.iload 7, 2) := by decide +kernel
theorem dL_law_241 : decode cL_law 241 = .ok (.if_icmp .le 12, 3) := by decide +kernel
theorem dL_law_244 : decode cL_law 244 = .ok (.bipush 10, 2) := by decide +kernel
theorem dL_law_246 : decode cL_law 246 = .ok (.aload_n 3, 1) := by decide +kernel
theorem dL_law_247 : decode cL_law 247 = .ok (.iconst 1, 1) := by decide +kernel
theorem dL_law_248 : decode cL_law 248 = .ok (.iaload, 1) := by decide +kernel
theorem dL_law_249 : decode cL_law 249 = .ok (.imul, 1) := by decide +kernel
theorem dL_law_250 : decode cL_law 250 = .ok (.goto 5, 3) := by decide +kernel
theorem dL_law_253 : decode cL_law 253 = .ok (.iload 7, 2) := by decide +kernel
theorem dL_law_255 : decode cL_law 255 = .ok (.istore 7, 2) := by decide +kernel
theorem dL_law_257 : decode cL_law 257 = .ok (.bipush 24, 2) := by decide +kernel
theorem dL_law_259 : decode cL_law 259 = .ok (.newarray .int, 2) := by decide +kernel
theorem dL_law_261 : decode cL_law 261 = .ok (.astore 8, 2) := by decide +kernel
theorem dL_law_263 : decode cL_law 263 = .ok (.bipush 24, 2) := by decide +kernel
theorem dL_law_265 : decode cL_law 265 = .ok (.newarray .int, 2) := by decide +kernel
theorem dL_law_267 : decode cL_law 267 = .ok (.astore 9, 2) := by decide +kernel
theorem dL_law_269 : decode cL_law 269 = .ok (.iconst 0, 1) := by decide +kernel
theorem dL_law_270 : decode cL_law 270 = .ok (.istore 10, 2) := by decide +kernel
theorem dL_law_272 : decode cL_law 272 = .ok (.iload 10, 2) := by decide +kernel
theorem dL_law_274 : decode cL_law 274 = .ok (.aload_n 3, 1) := by decide +kernel
theorem dL_law_275 : decode cL_law 275 = .ok (.iconst 0, 1) := by decide +kernel
theorem dL_law_276 : decode cL_law 276 = .ok (.iaload, 1) := by decide +kernel
theorem dL_law_277 : decode cL_law 277 = .ok (.if_icmp .ge 16, 3) := by decide +kernel
theorem dL_law_280 : decode cL_law 280 = .ok (.aload 9, 2) := by decide +kernel
theorem dL_law_282 : decode cL_law 282 = .ok (.iload 10, 2) := by decide +kernel
theorem dL_law_284 : decode cL_law 284 = .ok (.bipush 100, 2) := by decide +kernel
theorem dL_law_286 : decode cL_law 286 = .ok (.iastore, 1) := by decide +kernel
theorem dL_law_287 : decode cL_law 287 = .ok (.iinc 10 1, 3) := by decide +kernel
theorem dL_law_290 : decode cL_law 290 = .ok (.goto (-18), 3) := by decide +kernel
theorem dL_law_293 : decode cL_law 293 = .ok (.iconst 0, 1) := by decide +kernel
theorem dL_law_294 : decode cL_law 294 = .ok (.istore 10, 2) := by decide +kernel
theorem dL_law_296 : decode cL_law 296 = .ok (.iconst 0, 1) := by decide +kernel
theorem dL_law_297 : decode cL_law 297 = .ok (.istore 11, 2) := by decide +kernel
theorem dL_law_299 : decode cL_law 299 = .ok (.iload 11, 2) := by decide +kernel
theorem dL_law_301 : decode cL_law 301 = .ok (.iload 6, 2) := by decide +kernel
theorem dL_law_303 : decode cL_law 303 = .ok (.if_icmp .ge 357, 3) := by decide +kernel
theorem dL_law_306 : decode cL_law 306 = .ok (.aload_n 1, 1) := by decide +kernel
theorem dL_law_307 : decode cL_law 307 = .ok (.iconst 1, 1) := by decide +kernel
theorem dL_law_308 : decode cL_law 308 = .ok (.invokevirtual 81, 3) := by decide +kernel
theorem dL_law_311 : decode cL_law 311 = .ok (.iload 11, 2) := by decide +kernel
theorem dL_law_313 : decode cL_law 313 = .ok (.iconst 1, 1) := by decide +kernel
theorem dL_law_314 : decode cL_law 314 = .ok (.iadd, 1) := by decide +kernel
theorem dL_law_315 : decode cL_law 315 = .ok (.if_icmp .ne 15, 3) := by decide +kernel
theorem dL_law_318 : decode cL_law 318 = .ok (.aload_n 2, 1) := by decide +kernel
theorem dL_law_319 : decode cL_law 319 = .ok (.iconst 1, 1) := by decide +kernel
theorem dL_law_320 : decode cL_law 320 = .ok (.invokevirtual 81, 3) := by decide +kernel
theorem dL_law_323 : decode cL_law 323 = .ok (.iload 11, 2) := by decide +kernel
theorem dL_law_325 : decode cL_law 325 = .ok (.iconst 1, 1) := by decide +kernel
theorem dL_law_326 : decode cL_law 326 = .ok (.iadd, 1) := by decide +kernel
theorem dL_law_327 : decode cL_law 327 = .ok (.if_icmp .eq 5, 3) := by decide +kernel
theorem dL_law_330 : decode cL_law 330 = .ok (.iconst 0, 1) := by decide +kernel
theorem dL_law_331 : decode cL_law 331 = .ok (.ireturn, 1) := by decide +kernel
theorem dL_law_332 : decode cL_law 332 = .ok (.iconst 0, 1) := by decide +kernel
theorem dL_law_333 : decode cL_law 333 = .ok (.istore 12, 2) := by decide +kernel
theorem dL_law_335 : decode cL_law 335 = .ok (.iload 12, 2) := by decide +kernel
theorem dL_law_337 : decode cL_law 337 = .ok (.aload_n 3, 1) := by decide +kernel
theorem dL_law_338 : decode cL_law 338 = .ok (.iconst 0, 1) := by decide +kernel
theorem dL_law_339 : decode cL_law 339 = .ok (.iaload, 1) := by decide +kernel
theorem dL_law_340 : decode cL_law 340 = .ok (.if_icmp .ge 186, 3) := by decide +kernel
theorem dL_law_343 : decode cL_law 343 = .ok (.aload_n 1, 1) := by decide +kernel
theorem dL_law_344 : decode cL_law 344 = .ok (.aload_n 1, 1) := by decide +kernel
theorem dL_law_345 : decode cL_law 345 = .ok (.iload 12, 2) := by decide +kernel
theorem dL_law_347 : decode cL_law 347 = .ok (.iconst 0, 1) := by decide +kernel
theorem dL_law_348 : decode cL_law 348 = .ok (.invokevirtual 85, 3) := by decide +kernel
theorem dL_law_351 : decode cL_law 351 = .ok (.invokestatic 88, 3) := by decide +kernel
theorem dL_law_354 : decode cL_law 354 = .ok (.istore 13, 2) := by decide +kernel
theorem dL_law_356 : decode cL_law 356 = .ok (.aload_n 1, 1) := by decide +kernel
theorem dL_law_357 : decode cL_law 357 = .ok (.aload_n 1, 1) := by decide +kernel
theorem dL_law_358 : decode cL_law 358 = .ok (.iload 12, 2) := by decide +kernel
theorem dL_law_360 : decode cL_law 360 = .ok (.iconst 1, 1) := by decide +kernel
theorem dL_law_361 : decode cL_law 361 = .ok (.invokevirtual 85, 3) := by decide +kernel
theorem dL_law_364 : decode cL_law 364 = .ok (.invokestatic 88, 3) := by decide +kernel
theorem dL_law_367 : decode cL_law 367 = .ok (.istore 14, 2) := by decide +kernel
theorem dL_law_369 : decode cL_law 369 = .ok (.aload_n 1, 1) := by decide +kernel
theorem dL_law_370 : decode cL_law 370 = .ok (.aload_n 1, 1) := by decide +kernel
theorem dL_law_371 : decode cL_law 371 = .ok (.iload 12, 2) := by decide +kernel
theorem dL_law_373 : decode cL_law 373 = .ok (.iconst 2, 1) := by decide +kernel
theorem dL_law_374 : decode cL_law 374 = .ok (.invokevirtual 85, 3) := by decide +kernel
theorem dL_law_377 : decode cL_law 377 = .ok (.invokestatic 88, 3) := by decide +kernel
theorem dL_law_380 : decode cL_law 380 = .ok (.istore 15, 2) := by decide +kernel
theorem dL_law_382 : decode cL_law 382 = .ok (.iload 13, 2) := by decide +kernel
theorem dL_law_384 : decode cL_law 384 = .ok (.aload_n 2, 1) := by decide +kernel
theorem dL_law_385 : decode cL_law 385 = .ok (.aload_n 2, 1) := by decide +kernel
theorem dL_law_386 : decode cL_law 386 = .ok (.aload_n 3, 1) := by decide +kernel
theorem dL_law_387 : decode cL_law 387 = .ok (.iconst 0, 1) := by decide +kernel
theorem dL_law_388 : decode cL_law 388 = .ok (.iaload, 1) := by decide +kernel
theorem dL_law_389 : decode cL_law 389 = .ok (.iconst 1, 1) := by decide +kernel
theorem dL_law_390 : decode cL_law 390 = .ok (.isub, 1) := by decide +kernel
theorem dL_law_391 : decode cL_law 391 = .ok (.iload 12, 2) := by decide +kernel
theorem dL_law_393 : decode cL_law 393 = .ok (.isub, 1) := by decide +kernel
theorem dL_law_394 : decode cL_law 394 = .ok (.iconst 0, 1) := by decide +kernel
theorem dL_law_395 : decode cL_law 395 = .ok (.invokevirtual 85, 3) := by decide +kernel
theorem dL_law_398 : decode cL_law 398 = .ok (.invokestatic 88, 3) := by decide +kernel
theorem dL_law_401 : decode cL_law 401 = .ok (.if_icmp .ne 51, 3) := by decide +kernel
theorem dL_law_404 : decode cL_law 404 = .ok (.iload 14, 2) := by decide +kernel
theorem dL_law_406 : decode cL_law 406 = .ok (.aload_n 2, 1) := by decide +kernel
theorem dL_law_407 : decode cL_law 407 = .ok (.aload_n 2, 1) := by decide +kernel
theorem dL_law_408 : decode cL_law 408 = .ok (.aload_n 3, 1) := by decide +kernel
theorem dL_law_409 : decode cL_law 409 = .ok (.iconst 0, 1) := by decide +kernel
theorem dL_law_410 : decode cL_law 410 = .ok (.iaload, 1) := by decide +kernel
theorem dL_law_411 : decode cL_law 411 = .ok (.iconst 1, 1) := by decide +kernel
theorem dL_law_412 : decode cL_law 412 = .ok (.isub, 1) := by decide +kernel
theorem dL_law_413 : decode cL_law 413 = .ok (.iload 12, 2) := by decide +kernel
theorem dL_law_415 : decode cL_law 415 = .ok (.isub, 1) := by decide +kernel
theorem dL_law_416 : decode cL_law 416 = .ok (.iconst 1, 1) := by decide +kernel
theorem dL_law_417 : decode cL_law 417 = .ok (.invokevirtual 85, 3) := by decide +kernel
theorem dL_law_420 : decode cL_law 420 = .ok (.invokestatic 88, 3) := by decide +kernel
theorem dL_law_423 : decode cL_law 423 = .ok (.if_icmp .ne 29, 3) := by decide +kernel
theorem dL_law_426 : decode cL_law 426 = .ok (.iload 15, 2) := by decide +kernel
theorem dL_law_428 : decode cL_law 428 = .ok (.aload_n 2, 1) := by decide +kernel
theorem dL_law_429 : decode cL_law 429 = .ok (.aload_n 2, 1) := by decide +kernel
theorem dL_law_430 : decode cL_law 430 = .ok (.aload_n 3, 1) := by decide +kernel
theorem dL_law_431 : decode cL_law 431 = .ok (.iconst 0, 1) := by decide +kernel
theorem dL_law_432 : decode cL_law 432 = .ok (.iaload, 1) := by decide +kernel
theorem dL_law_433 : decode cL_law 433 = .ok (.iconst 1, 1) := by decide +kernel
theorem dL_law_434 : decode cL_law 434 = .ok (.isub, 1) := by decide +kernel
theorem dL_law_435 : decode cL_law 435 = .ok (.iload 12, 2) := by decide +kernel
theorem dL_law_437 : decode cL_law 437 = .ok (.isub, 1) := by decide +kernel
theorem dL_law_438 : decode cL_law 438 = .ok (.iconst 2, 1) := by decide +kernel
theorem dL_law_439 : decode cL_law 439 = .ok (.invokevirtual 85, 3) := by decide +kernel
theorem dL_law_442 : decode cL_law 442 = .ok (.invokestatic 88, 3) := by decide +kernel
theorem dL_law_445 : decode cL_law 445 = .ok (.if_icmp .ne 7, 3) := by decide +kernel
theorem dL_law_448 : decode cL_law 448 = .ok (.iconst 1, 1) := by decide +kernel
theorem dL_law_449 : decode cL_law 449 = .ok (.goto 4, 3) := by decide +kernel
theorem dL_law_452 : decode cL_law 452 = .ok (.iconst 0, 1) := by decide +kernel
theorem dL_law_453 : decode cL_law 453 = .ok (.istore 16, 2) := by decide +kernel
theorem dL_law_455 : decode cL_law 455 = .ok (.iload 16, 2) := by decide +kernel
theorem dL_law_457 : decode cL_law 457 = .ok (.ifCond .eq 47, 3) := by decide +kernel
theorem dL_law_460 : decode cL_law 460 = .ok (.iload 13, 2) := by decide +kernel
theorem dL_law_462 : decode cL_law 462 = .ok (.iload 7, 2) := by decide +kernel
theorem dL_law_464 : decode cL_law 464 = .ok (.if_icmp .gt 40, 3) := by decide +kernel
theorem dL_law_467 : decode cL_law 467 = .ok (.iload 13, 2) := by decide +kernel
theorem dL_law_469 : decode cL_law 469 = .ok (.ifCond .lt 35, 3) := by decide +kernel
theorem dL_law_472 : decode cL_law 472 = .ok (.iload 14, 2) := by decide +kernel
theorem dL_law_474 : decode cL_law 474 = .ok (.iload 13, 2) := by decide +kernel
theorem dL_law_476 : decode cL_law 476 = .ok (.if_icmp .lt 28, 3) := by decide +kernel
theorem dL_law_479 : decode cL_law 479 = .ok (.iload 14, 2) := by decide +kernel
theorem dL_law_481 : decode cL_law 481 = .ok (.aload 8, 2) := by decide +kernel
theorem dL_law_483 : decode cL_law 483 = .ok (.iload 12, 2) := by decide +kernel
theorem dL_law_485 : decode cL_law 485 = .ok (.iaload, 1) := by decide +kernel
theorem dL_law_486 : decode cL_law 486 = .ok (.if_icmp .lt 18, 3) := by decide +kernel
theorem dL_law_489 : decode cL_law 489 = .ok (.iload 15, 2) := by decide +kernel
theorem dL_law_491 : decode cL_law 491 = .ok (.aload 9, 2) := by decide +kernel
theorem dL_law_493 : decode cL_law 493 = .ok (.iload 12, 2) := by decide +kernel
theorem dL_law_495 : decode cL_law 495 = .ok (.iaload, 1) := by decide +kernel
theorem dL_law_496 : decode cL_law 496 = .ok (.if_icmp .gt 8, 3) := by decide +kernel
theorem dL_law_499 : decode cL_law 499 = .ok (.iload 15, 2) := by decide +kernel
theorem dL_law_501 : decode cL_law 501 = .ok (.ifCond .ge 5, 3) := by decide +kernel
theorem dL_law_504 : decode cL_law 504 = .ok (.iconst 0, 1) := by decide +kernel
theorem dL_law_505 : decode cL_law 505 = .ok (.ireturn, 1) := by decide +kernel
theorem dL_law_506 : decode cL_law 506 = .ok (.aload 8, 2) := by decide +kernel
theorem dL_law_508 : decode cL_law 508 = .ok (.iload 12, 2) := by decide +kernel
theorem dL_law_510 : decode cL_law 510 = .ok (.iload 14, 2) := by decide +kernel
theorem dL_law_512 : decode cL_law 512 = .ok (.iastore, 1) := by decide +kernel
theorem dL_law_513 : decode cL_law 513 = .ok (.aload 9, 2) := by decide +kernel
theorem dL_law_515 : decode cL_law 515 = .ok (.iload 12, 2) := by decide +kernel
theorem dL_law_517 : decode cL_law 517 = .ok (.iload 15, 2) := by decide +kernel
theorem dL_law_519 : decode cL_law 519 = .ok (.iastore, 1) := by decide +kernel
theorem dL_law_520 : decode cL_law 520 = .ok (.iinc 12 1, 3) := by decide +kernel
theorem dL_law_523 : decode cL_law 523 = .ok (.goto (-188), 3) := by decide +kernel
theorem dL_law_526 : decode cL_law 526 = .ok (.aload_n 1, 1) := by decide +kernel
theorem dL_law_527 : decode cL_law 527 = .ok (.aload_n 1, 1) := by decide +kernel
theorem dL_law_528 : decode cL_law 528 = .ok (.iconst 0, 1) := by decide +kernel
theorem dL_law_529 : decode cL_law 529 = .ok (.iconst 2, 1) := by decide +kernel
theorem dL_law_530 : decode cL_law 530 = .ok (.invokevirtual 92, 3) := by decide +kernel
theorem dL_law_533 : decode cL_law 533 = .ok (.invokestatic 88, 3) := by decide +kernel
theorem dL_law_536 : decode cL_law 536 = .ok (.aload_n 1, 1) := by decide +kernel
theorem dL_law_537 : decode cL_law 537 = .ok (.aload_n 1, 1) := by decide +kernel
theorem dL_law_538 : decode cL_law 538 = .ok (.iconst 1, 1) := by decide +kernel
theorem dL_law_539 : decode cL_law 539 = .ok (.iconst 2, 1) := by decide +kernel
theorem dL_law_540 : decode cL_law 540 = .ok (.invokevirtual 92, 3) := by decide +kernel
theorem dL_law_543 : decode cL_law 543 = .ok (.invokestatic 88, 3) := by decide +kernel
theorem dL_law_546 : decode cL_law 546 = .ok (.iadd, 1) := by decide +kernel
theorem dL_law_547 : decode cL_law 547 = .ok (.istore 12, 2) := by decide +kernel
theorem dL_law_549 : decode cL_law 549 = .ok (.iload 12, 2) := by decide +kernel
theorem dL_law_551 : decode cL_law 551 = .ok (.iload 10, 2) := by decide +kernel
theorem dL_law_553 : decode cL_law 553 = .ok (.if_icmp .lt 95, 3) := by decide +kernel
theorem dL_law_556 : decode cL_law 556 = .ok (.aload_n 1, 1) := by decide +kernel
theorem dL_law_557 : decode cL_law 557 = .ok (.aload_n 1, 1) := by decide +kernel
theorem dL_law_558 : decode cL_law 558 = .ok (.iconst 0, 1) := by decide +kernel
theorem dL_law_559 : decode cL_law 559 = .ok (.iconst 0, 1) := by decide +kernel
theorem dL_law_560 : decode cL_law 560 = .ok (.invokevirtual 92, 3) := by decide +kernel
theorem dL_law_563 : decode cL_law 563 = .ok (.invokestatic 88, 3) := by decide +kernel
theorem dL_law_566 : decode cL_law 566 = .ok (.aload_n 2, 1) := by decide +kernel
theorem dL_law_567 : decode cL_law 567 = .ok (.aload_n 2, 1) := by decide +kernel
theorem dL_law_568 : decode cL_law 568 = .ok (.iconst 1, 1) := by decide +kernel
theorem dL_law_569 : decode cL_law 569 = .ok (.iconst 0, 1) := by decide +kernel
theorem dL_law_570 : decode cL_law 570 = .ok (.invokevirtual 92, 3) := by decide +kernel
theorem dL_law_573 : decode cL_law 573 = .ok (.invokestatic 88, 3) := by decide +kernel
theorem dL_law_576 : decode cL_law 576 = .ok (.if_icmp .ne 72, 3) := by decide +kernel
theorem dL_law_579 : decode cL_law 579 = .ok (.aload_n 1, 1) := by decide +kernel
theorem dL_law_580 : decode cL_law 580 = .ok (.aload_n 1, 1) := by decide +kernel
theorem dL_law_581 : decode cL_law 581 = .ok (.iconst 1, 1) := by decide +kernel
theorem dL_law_582 : decode cL_law 582 = .ok (.iconst 1, 1) := by decide +kernel
theorem dL_law_583 : decode cL_law 583 = .ok (.invokevirtual 92, 3) := by decide +kernel
theorem dL_law_586 : decode cL_law 586 = .ok (.invokestatic 88, 3) := by decide +kernel
theorem dL_law_589 : decode cL_law 589 = .ok (.aload_n 2, 1) := by decide +kernel
theorem dL_law_590 : decode cL_law 590 = .ok (.aload_n 2, 1) := by decide +kernel
theorem dL_law_591 : decode cL_law 591 = .ok (.iconst 0, 1) := by decide +kernel
theorem dL_law_592 : decode cL_law 592 = .ok (.iconst 1, 1) := by decide +kernel
theorem dL_law_593 : decode cL_law 593 = .ok (.invokevirtual 92, 3) := by decide +kernel
theorem dL_law_596 : decode cL_law 596 = .ok (.invokestatic 88, 3) := by decide +kernel
theorem dL_law_599 : decode cL_law 599 = .ok (.if_icmp .ne 49, 3) := by decide +kernel
theorem dL_law_602 : decode cL_law 602 = .ok (.aload_n 1, 1) := by decide +kernel
theorem dL_law_603 : decode cL_law 603 = .ok (.aload_n 1, 1) := by decide +kernel
theorem dL_law_604 : decode cL_law 604 = .ok (.iconst 0, 1) := by decide +kernel
theorem dL_law_605 : decode cL_law 605 = .ok (.iconst 2, 1) := by decide +kernel
theorem dL_law_606 : decode cL_law 606 = .ok (.invokevirtual 92, 3) := by decide +kernel
theorem dL_law_609 : decode cL_law 609 = .ok (.invokestatic 88, 3) := by decide +kernel
theorem dL_law_612 : decode cL_law 612 = .ok (.aload_n 2, 1) := by decide +kernel
theorem dL_law_613 : decode cL_law 613 = .ok (.aload_n 2, 1) := by decide +kernel
theorem dL_law_614 : decode cL_law 614 = .ok (.iconst 1, 1) := by decide +kernel
theorem dL_law_615 : decode cL_law 615 = .ok (.iconst 2, 1) := by decide +kernel
theorem dL_law_616 : decode cL_law 616 = .ok (.invokevirtual 92, 3) := by decide +kernel
theorem dL_law_619 : decode cL_law 619 = .ok (.invokestatic 88, 3) := by decide +kernel
theorem dL_law_622 : decode cL_law 622 = .ok (.if_icmp .ne 26, 3) := by decide +kernel
theorem dL_law_625 : decode cL_law 625 = .ok (.aload_n 1, 1) := by decide +kernel
theorem dL_law_626 : decode cL_law 626 = .ok (.aload_n 1, 1) := by decide +kernel
theorem dL_law_627 : decode cL_law 627 = .ok (.iconst 0, 1) := by decide +kernel
theorem dL_law_628 : decode cL_law 628 = .ok (.iconst 3, 1) := by decide +kernel
theorem dL_law_629 : decode cL_law 629 = .ok (.invokevirtual 92, 3) := by decide +kernel
theorem dL_law_632 : decode cL_law 632 = .ok (.invokestatic 88, 3) := by decide +kernel
theorem dL_law_635 : decode cL_law 635 = .ok (.aload_n 2, 1) := by decide +kernel
theorem dL_law_636 : decode cL_law 636 = .ok (.aload_n 2, 1) := by decide +kernel
theorem dL_law_637 : decode cL_law 637 = .ok (.iconst 0, 1) := by decide +kernel
theorem dL_law_638 : decode cL_law 638 = .ok (.iconst 3, 1) := by decide +kernel
theorem dL_law_639 : decode cL_law 639 = .ok (.invokevirtual 92, 3) := by decide +kernel
theorem dL_law_642 : decode cL_law 642 = .ok (.invokestatic 88, 3) := by decide +kernel
theorem dL_law_645 : decode cL_law 645 = .ok (.if_icmp .ne 5, 3) := by decide +kernel
theorem dL_law_648 : decode cL_law 648 = .ok (.iconst 0, 1) := by decide +kernel
theorem dL_law_649 : decode cL_law 649 = .ok (.ireturn, 1) := by decide +kernel
theorem dL_law_650 : decode cL_law 650 = .ok (.iload 12, 2) := by decide +kernel
theorem dL_law_652 : decode cL_law 652 = .ok (.istore 10, 2) := by decide +kernel
theorem dL_law_654 : decode cL_law 654 = .ok (.iinc 11 1, 3) := by decide +kernel
theorem dL_law_657 : decode cL_law 657 = .ok (.goto (-358), 3) := by decide +kernel
theorem dL_law_660 : decode cL_law 660 = .ok (.aload_n 2, 1) := by decide +kernel
theorem dL_law_661 : decode cL_law 661 = .ok (.iconst 0, 1) := by decide +kernel
theorem dL_law_662 : decode cL_law 662 = .ok (.iconst 3, 1) := by decide +kernel
theorem dL_law_663 : decode cL_law 663 = .ok (.invokevirtual 37, 3) := by decide +kernel
theorem dL_law_666 : decode cL_law 666 = .ok (.aload 5, 2) := by decide +kernel
theorem dL_law_668 : decode cL_law 668 = .ok (.iconst 0, 1) := by decide +kernel
theorem dL_law_669 : decode cL_law 669 = .ok (.iaload, 1) := by decide +kernel
theorem dL_law_670 : decode cL_law 670 = .ok (.if_icmp .ne 62, 3) := by decide +kernel
theorem dL_law_673 : decode cL_law 673 = .ok (.aload_n 2, 1) := by decide +kernel
theorem dL_law_674 : decode cL_law 674 = .ok (.iconst 0, 1) := by decide +kernel
theorem dL_law_675 : decode cL_law 675 = .ok (.aload 4, 2) := by decide +kernel
theorem dL_law_677 : decode cL_law 677 = .ok (.invokestatic 76, 3) := by decide +kernel
theorem dL_law_680 : decode cL_law 680 = .ok (.ifCond .eq 52, 3) := by decide +kernel
theorem dL_law_683 : decode cL_law 683 = .ok (.aload_n 2, 1) := by decide +kernel
theorem dL_law_684 : decode cL_law 684 = .ok (.iconst 0, 1) := by decide +kernel
theorem dL_law_685 : decode cL_law 685 = .ok (.iconst 0, 1) := by decide +kernel
theorem dL_law_686 : decode cL_law 686 = .ok (.invokevirtual 78, 3) := by decide +kernel
theorem dL_law_689 : decode cL_law 689 = .ok (.iload 6, 2) := by decide +kernel
theorem dL_law_691 : decode cL_law 691 = .ok (.if_icmp .ne 41, 3) := by decide +kernel
theorem dL_law_694 : decode cL_law 694 = .ok (.aload_n 2, 1) := by decide +kernel
theorem dL_law_695 : decode cL_law 695 = .ok (.iload 6, 2) := by decide +kernel
theorem dL_law_697 : decode cL_law 697 = .ok (.invokevirtual 81, 3) := by decide +kernel
theorem dL_law_700 : decode cL_law 700 = .ok (.iload 6, 2) := by decide +kernel
theorem dL_law_702 : decode cL_law 702 = .ok (.if_icmp .ne 30, 3) := by decide +kernel
theorem dL_law_705 : decode cL_law 705 = .ok (.aload_n 2, 1) := by decide +kernel
theorem dL_law_706 : decode cL_law 706 = .ok (.iconst 0, 1) := by decide +kernel
theorem dL_law_707 : decode cL_law 707 = .ok (.invokevirtual 95, 3) := by decide +kernel
theorem dL_law_710 : decode cL_law 710 = .ok (.aload_n 1, 1) := by decide +kernel
theorem dL_law_711 : decode cL_law 711 = .ok (.iconst 0, 1) := by decide +kernel
theorem dL_law_712 : decode cL_law 712 = .ok (.invokevirtual 95, 3) := by decide +kernel
theorem dL_law_715 : decode cL_law 715 = .ok (.if_icmp .ne 17, 3) := by decide +kernel
theorem dL_law_718 : decode cL_law 718 = .ok (.aload_n 2, 1) := by decide +kernel
theorem dL_law_719 : decode cL_law 719 = .ok (.iconst 0, 1) := by decide +kernel
theorem dL_law_720 : decode cL_law 720 = .ok (.sipush 4000, 3) := by decide +kernel
theorem dL_law_723 : decode cL_law 723 = .ok (.invokevirtual 98, 3) := by decide +kernel
theorem dL_law_726 : decode cL_law 726 = .ok (.aload_n 3, 1) := by decide +kernel
theorem dL_law_727 : decode cL_law 727 = .ok (.iconst 0, 1) := by decide +kernel
theorem dL_law_728 : decode cL_law 728 = .ok (.iaload, 1) := by decide +kernel
theorem dL_law_729 : decode cL_law 729 = .ok (.if_icmp .eq 5, 3) := by decide +kernel
theorem dL_law_732 : decode cL_law 732 = .ok (.iconst 0, 1) := by decide +kernel
theorem dL_law_733 : decode cL_law 733 = .ok (.ireturn, 1) := by decide +kernel
theorem dL_law_734 : decode cL_law 734 = .ok (.aload_n 2, 1) := by decide +kernel
theorem dL_law_735 : decode cL_law 735 = .ok (.invokevirtual 40, 3) := by decide +kernel
theorem dL_law_738 : decode cL_law 738 = .ok (.istore 11, 2) := by decide +kernel
theorem dL_law_740 : decode cL_law 740 = .ok (.aload_n 1, 1) := by decide +kernel
theorem dL_law_741 : decode cL_law 741 = .ok (.iconst 0, 1) := by decide +kernel
theorem dL_law_742 : decode cL_law 742 = .ok (.sipush 4000, 3) := by decide +kernel
theorem dL_law_745 : decode cL_law 745 = .ok (.invokevirtual 98, 3) := by decide +kernel
theorem dL_law_748 : decode cL_law 748 = .ok (.aload_n 3, 1) := by decide +kernel
theorem dL_law_749 : decode cL_law 749 = .ok (.iconst 0, 1) := by decide +kernel
theorem dL_law_750 : decode cL_law 750 = .ok (.iaload, 1) := by decide +kernel
theorem dL_law_751 : decode cL_law 751 = .ok (.if_icmp .ne 46, 3) := by decide +kernel
theorem dL_law_754 : decode cL_law 754 = .ok (.aload_n 1, 1) := by decide +kernel
theorem dL_law_755 : decode cL_law 755 = .ok (.invokevirtual 40, 3) := by decide +kernel
theorem dL_law_758 : decode cL_law 758 = .ok (.iload 11, 2) := by decide +kernel
theorem dL_law_760 : decode cL_law 760 = .ok (.if_icmp .ne 37, 3) := by decide +kernel
theorem dL_law_763 : decode cL_law 763 = .ok (.aload_n 1, 1) := by decide +kernel
theorem dL_law_764 : decode cL_law 764 = .ok (.iconst 0, 1) := by decide +kernel
theorem dL_law_765 : decode cL_law 765 = .ok (.invokevirtual 101, 3) := by decide +kernel
theorem dL_law_768 : decode cL_law 768 = .ok (.ifCond .ne 29, 3) := by decide +kernel
theorem dL_law_771 : decode cL_law 771 = .ok (.aload_n 1, 1) := by decide +kernel
theorem dL_law_772 : decode cL_law 772 = .ok (.invokevirtual 40, 3) := by decide +kernel
theorem dL_law_775 : decode cL_law 775 = .ok (.ifCond .ne 22, 3) := by decide +kernel
theorem dL_law_778 : decode cL_law 778 = .ok (.aload_n 1, 1) := by decide +kernel
theorem dL_law_779 : decode cL_law 779 = .ok (.iconst 0, 1) := by decide +kernel
theorem dL_law_780 : decode cL_law 780 = .ok (.iconst 0, 1) := by decide +kernel
theorem dL_law_781 : decode cL_law 781 = .ok (.invokevirtual 104, 3) := by decide +kernel
theorem dL_law_784 : decode cL_law 784 = .ok (.iconst 1, 1) := by decide +kernel
theorem dL_law_785 : decode cL_law 785 = .ok (.if_icmp .ne 12, 3) := by decide +kernel
theorem dL_law_788 : decode cL_law 788 = .ok (.aload_n 1, 1) := by decide +kernel
theorem dL_law_789 : decode cL_law 789 = .ok (.invokevirtual 107, 3) := by decide +kernel
theorem dL_law_792 : decode cL_law 792 = .ok (.lconst 1, 1) := by decide +kernel
theorem dL_law_793 : decode cL_law 793 = .ok (.lcmp, 1) := by decide +kernel
theorem dL_law_794 : decode cL_law 794 = .ok (.ifCond .eq 5, 3) := by decide +kernel
theorem dL_law_797 : decode cL_law 797 = .ok (.iconst 0, 1) := by decide +kernel
theorem dL_law_798 : decode cL_law 798 = .ok (.ireturn, 1) := by decide +kernel
theorem dL_law_799 : decode cL_law 799 = .ok (.aload_n 1, 1) := by decide +kernel
theorem dL_law_800 : decode cL_law 800 = .ok (.invokevirtual 111, 3) := by decide +kernel
theorem dL_law_803 : decode cL_law 803 = .ok (.lstore 12, 2) := by decide +kernel
theorem dL_law_805 : decode cL_law 805 = .ok (.aload_n 1, 1) := by decide +kernel
theorem dL_law_806 : decode cL_law 806 = .ok (.bipush 7, 2) := by decide +kernel
theorem dL_law_808 : decode cL_law 808 = .ok (.invokevirtual 114, 3) := by decide +kernel
theorem dL_law_811 : decode cL_law 811 = .ok (.istore 14, 2) := by decide +kernel
theorem dL_law_813 : decode cL_law 813 = .ok (.aload_n 1, 1) := by decide +kernel
theorem dL_law_814 : decode cL_law 814 = .ok (.invokevirtual 40, 3) := by decide +kernel
theorem dL_law_817 : decode cL_law 817 = .ok (.istore 15, 2) := by decide +kernel
theorem dL_law_819 : decode cL_law 819 = .ok (.aload_n 1, 1) := by decide +kernel
theorem dL_law_820 : decode cL_law 820 = .ok (.iconst 0, 1) := by decide +kernel
theorem dL_law_821 : decode cL_law 821 = .ok (.iconst 0, 1) := by decide +kernel
theorem dL_law_822 : decode cL_law 822 = .ok (.invokevirtual 117, 3) := by decide +kernel
theorem dL_law_825 : decode cL_law 825 = .ok (.istore 16, 2) := by decide +kernel
theorem dL_law_827 : decode cL_law 827 = .ok (.aload_n 1, 1) := by decide +kernel
theorem dL_law_828 : decode cL_law 828 = .ok (.invokevirtual 40, 3) := by decide +kernel
theorem dL_law_831 : decode cL_law 831 = .ok (.istore 17, 2) := by decide +kernel
theorem dL_law_833 : decode cL_law 833 = .ok (.aload_n 1, 1) := by decide +kernel
theorem dL_law_834 : decode cL_law 834 = .ok (.invokevirtual 120, 3) := by decide +kernel
theorem dL_law_837 : decode cL_law 837 = .ok (.istore 18, 2) := by decide +kernel
theorem dL_law_839 : decode cL_law 839 = .ok (.iload 14, 2) := by decide +kernel
theorem dL_law_841 : decode cL_law 841 = .ok (.ifCond .lt 61, 3) := by decide +kernel
theorem dL_law_844 : decode cL_law 844 = .ok (.iload 14, 2) := by decide +kernel
theorem dL_law_846 : decode cL_law 846 = .ok (.iload 11, 2) := by decide +kernel
theorem dL_law_848 : decode cL_law 848 = .ok (.if_icmp .gt 54, 3) := by decide +kernel
theorem dL_law_851 : decode cL_law 851 = .ok (.iload 15, 2) := by decide +kernel
theorem dL_law_853 : decode cL_law 853 = .ok (.ifCond .lt 49, 3) := by decide +kernel
theorem dL_law_856 : decode cL_law 856 = .ok (.iload 18, 2) := by decide +kernel
theorem dL_law_858 : decode cL_law 858 = .ok (.ifCond .lt 44, 3) := by decide +kernel
theorem dL_law_861 : decode cL_law 861 = .ok (.iload 16, 2) := by decide +kernel
theorem dL_law_863 : decode cL_law 863 = .ok (.ifCond .lt 39, 3) := by decide +kernel
theorem dL_law_866 : decode cL_law 866 = .ok (.iload 16, 2) := by decide +kernel
theorem dL_law_868 : decode cL_law 868 = .ok (.bipush 30, 2) := by decide +kernel
theorem dL_law_870 : decode cL_law 870 = .ok (.if_icmp .gt 32, 3) := by decide +kernel
theorem dL_law_873 : decode cL_law 873 = .ok (.iload 17, 2) := by decide +kernel
theorem dL_law_875 : decode cL_law 875 = .ok (.iload 14, 2) := by decide +kernel
theorem dL_law_877 : decode cL_law 877 = .ok (.if_icmp .gt 25, 3) := by decide +kernel
theorem dL_law_880 : decode cL_law 880 = .ok (.iload 16, 2) := by decide +kernel
theorem dL_law_882 : decode cL_law 882 = .ok (.ifCond .ne 10, 3) := by decide +kernel
theorem dL_law_885 : decode cL_law 885 = .ok (.iload 17, 2) := by decide +kernel
theorem dL_law_887 : decode cL_law 887 = .ok (.iload 14, 2) := by decide +kernel
theorem dL_law_889 : decode cL_law 889 = .ok (.if_icmp .ne 13, 3) := by decide +kernel
theorem dL_law_892 : decode cL_law 892 = .ok (.aload_n 1, 1) := by decide +kernel
theorem dL_law_893 : decode cL_law 893 = .ok (.invokevirtual 111, 3) := by decide +kernel
theorem dL_law_896 : decode cL_law 896 = .ok (.lload 12, 2) := by decide +kernel
theorem dL_law_898 : decode cL_law 898 = .ok (.lcmp, 1) := by decide +kernel
theorem dL_law_899 : decode cL_law 899 = .ok (.ifCond .eq 5, 3) := by decide +kernel
theorem dL_law_902 : decode cL_law 902 = .ok (.iconst 0, 1) := by decide +kernel
theorem dL_law_903 : decode cL_law 903 = .ok (.ireturn, 1) := by decide +kernel
theorem dL_law_904 : decode cL_law 904 = .ok (.aload 4, 2) := by decide +kernel
theorem dL_law_906 : decode cL_law 906 = .ok (.iconst 1, 1) := by decide +kernel
theorem dL_law_907 : decode cL_law 907 = .ok (.iconst 3, 1) := by decide +kernel
theorem dL_law_908 : decode cL_law 908 = .ok (.aload 4, 2) := by decide +kernel
theorem dL_law_910 : decode cL_law 910 = .ok (.iconst 0, 1) := by decide +kernel
theorem dL_law_911 : decode cL_law 911 = .ok (.iaload, 1) := by decide +kernel
theorem dL_law_912 : decode cL_law 912 = .ok (.iconst 1, 1) := by decide +kernel
theorem dL_law_913 : decode cL_law 913 = .ok (.isub, 1) := by decide +kernel
theorem dL_law_914 : decode cL_law 914 = .ok (.imul, 1) := by decide +kernel
theorem dL_law_915 : decode cL_law 915 = .ok (.iadd, 1) := by decide +kernel
theorem dL_law_916 : decode cL_law 916 = .ok (.iaload, 1) := by decide +kernel
theorem dL_law_917 : decode cL_law 917 = .ok (.iconst 5, 1) := by decide +kernel
theorem dL_law_918 : decode cL_law 918 = .ok (.if_icmp .ge 12, 3) := by decide +kernel
theorem dL_law_921 : decode cL_law 921 = .ok (.iload 17, 2) := by decide +kernel
theorem dL_law_923 : decode cL_law 923 = .ok (.iload 15, 2) := by decide +kernel
theorem dL_law_925 : decode cL_law 925 = .ok (.if_icmp .le 5, 3) := by decide +kernel
theorem dL_law_928 : decode cL_law 928 = .ok (.iconst 0, 1) := by decide +kernel
theorem dL_law_929 : decode cL_law 929 = .ok (.ireturn, 1) := by decide +kernel
theorem dL_law_930 : decode cL_law 930 = .ok (.aload_n 1, 1) := by decide +kernel
theorem dL_law_931 : decode cL_law 931 = .ok (.aload_n 0, 1) := by decide +kernel
theorem dL_law_932 : decode cL_law 932 = .ok (.aload_n 3, 1) := by decide +kernel
theorem dL_law_933 : decode cL_law 933 = .ok (.invokestatic 123, 3) := by decide +kernel
theorem dL_law_936 : decode cL_law 936 = .ok (.ifCond .eq 28, 3) := by decide +kernel
theorem dL_law_939 : decode cL_law 939 = .ok (.aload_n 1, 1) := by decide +kernel
theorem dL_law_940 : decode cL_law 940 = .ok (.aload_n 2, 1) := by decide +kernel
theorem dL_law_941 : decode cL_law 941 = .ok (.aload_n 3, 1) := by decide +kernel
theorem dL_law_942 : decode cL_law 942 = .ok (.aload 4, 2) := by decide +kernel
theorem dL_law_944 : decode cL_law 944 = .ok (.invokestatic 127, 3) := by decide +kernel
theorem dL_law_947 : decode cL_law 947 = .ok (.ifCond .eq 17, 3) := by decide +kernel
theorem dL_law_950 : decode cL_law 950 = .ok (.aload_n 1, 1) := by decide +kernel
theorem dL_law_951 : decode cL_law 951 = .ok (.invokevirtual 111, 3) := by decide +kernel
theorem dL_law_954 : decode cL_law 954 = .ok (.lload 12, 2) := by decide +kernel
theorem dL_law_956 : decode cL_law 956 = .ok (.lcmp, 1) := by decide +kernel
theorem dL_law_957 : decode cL_law 957 = .ok (.ifCond .ne 7, 3) := by decide +kernel
theorem dL_law_960 : decode cL_law 960 = .ok (.iconst 1, 1) := by decide +kernel
theorem dL_law_961 : decode cL_law 961 = .ok (.goto 4, 3) := by decide +kernel
theorem dL_law_964 : decode cL_law 964 = .ok (.iconst 0, 1) := by decide +kernel
theorem dL_law_965 : decode cL_law 965 = .ok (.ireturn, 1) := by decide +kernel
def f_L_saltsA  (G : G_) : Option (Int32 × Int32 × G_) :=
  bj2 (f_X7_salt 0 0 G) fun x2 G1 =>
  bj1 (f_X7_asked G1) fun x4 =>
  some (x2, x4, G1)
set_option maxHeartbeats 40000000 in
set_option maxRecDepth 100000 in
theorem c_L_saltsA {K : CT}  (G : G_) (u4 : Int32) (u5 : Int32) (G' : G_) (hc : Ok K cL_salts RL (Cond.code yL_salts cL_salts 10 (some .boolean) :: TB) (some .boolean) 7 170 10) (k_nl : vNL (kV K) = 5) (hf : f_L_saltsA  G = some (u4, u5, G')) (hk : X K 14 [(0, .ref (kad K 0)), (1, .ref (kad K 124)), (2, .ref (kad K 248)), (3, .ref (kad K 249)), (4, .int u4), (5, .int u5)] [] G') : X K 0 [(0, .ref (kad K 0)), (1, .ref (kad K 124)), (2, .ref (kad K 248)), (3, .ref (kad K 249))] [] G := by
  unfold f_L_saltsA at hf
  refine x_aload_n hc 0 dL_salts_0 rfl rfl ?_
  refine x_iconst (v := 0) hc rfl dL_salts_1 ?_
  refine x_iconst (v := 0) hc rfl dL_salts_2 ?_
  obtain ⟨x2, G1, r3, hf⟩ := bj2_ok hf
  refine x_callVr (As := [.int 0, .int 0]) (p0 := 0) (v := (.int x2)) (T := TX7) hc (c_X7_salt (kl K) (kV K) 0 0 G x2 G1 r3) mw_X7_salt tw_836 (rfl : kd 0 = 7) (by decide) rfl rfl (Nat.le_of_ble_eq_true rfl) ⟨Nat.le_of_ble_eq_true rfl, Nat.le_of_ble_eq_true rfl⟩ dL_salts_3 rfl ?_
  refine x_istore (L' := [(0, .ref (kad K 0)), (1, .ref (kad K 124)), (2, .ref (kad K 248)), (3, .ref (kad K 249)), (4, .int x2)]) hc [1, 2, 3, 4, 0] dL_salts_6 (by decide) rfl ?_
  refine x_aload_n hc 0 dL_salts_8 rfl rfl ?_
  obtain ⟨x4, r5, hf⟩ := bj1_ok hf
  refine x_callVr (As := []) (p0 := 0) (v := (.int x4)) (T := TX7) hc (c_X7_asked (kl K) (kV K) G1 x4 r5) mw_X7_asked tw_602 (rfl : kd 0 = 7) (by decide) rfl rfl (Nat.le_of_ble_eq_true rfl) ⟨Nat.le_of_ble_eq_true rfl, Nat.le_of_ble_eq_true rfl⟩ dL_salts_9 rfl ?_
  refine x_istore (L' := [(0, .ref (kad K 0)), (1, .ref (kad K 124)), (2, .ref (kad K 248)), (3, .ref (kad K 249)), (4, .int x2), (5, .int x4)]) hc [1, 2, 3, 4, 5, 0] dL_salts_12 (by decide) rfl ?_
  cases hf
  exact x_sub [0, 1, 2, 3, 4, 5] hk rfl
def f_L_salts_j156_q40 (x36 : Int32) (G35 : G_) : Option (Int32 × G_) :=
  if x36 = 18 then (
    bj1 (f_X7_asked G35) fun x43 =>
    if x43 = 3 then (
      bj2 (f_X7_order 1 4 G35) fun x46 G45 =>
      if x46 < 0 then (
        none)
      else (
        bj2 (f_X7_at 4 0 G45) fun x49 G48 =>
        if x49 = 1 then (
          bj1 (f_X7_asked G48) fun x51 =>
          if x51 = 0 then (
            bj2 (f_X7_tear 4 G48) fun x54 G53 =>
            if x54 = 1 then (
              chk (isZ 1) <| some (1, G53))
            else (
              none))
          else (
            none))
        else (
          none)))
    else (
      none))
  else (
    none)
def f_L_saltsB (u4 : Int32) (u5 : Int32) (G : G_) : Option (Int32 × G_) :=
  bj1 (f_L_copy 248 253 8 G) fun G1 =>
  chk (inb 2 8) <|
  nm (sI G1 253 (ix 2) u4) fun G4 =>
  if u4 < 0 then (
    none)
  else (
    if 50 < u4 then (
      none)
    else (
      bj2 (f_L_slab 1 253 (swG G4)) fun x6 G5 =>
      nm (swG G5) fun G8 =>
      if x6 = 0 then (
        none)
      else (
        bj2 (f_X7_dish 1 0 (swG G8)) fun x10 G9 =>
        nm (swG G9) fun G12 =>
        bj1 (f_L_ticks 249 G12) fun x13 =>
        if x10 = x13 then (
          bj1 (f_L_ticks 249 G12) fun x15 =>
          bj2 (f_X7_go x15 (swG G12)) fun x18 G17 =>
          nm (swG G17) fun G20 =>
          bj1 (f_L_ticks 249 G20) fun x21 =>
          if x18 = x21 then (
            bj2 (f_X7_skin 0 2 (swG G20)) fun x24 G23 =>
            nm (swG G23) fun G26 =>
            bj1 (f_L_tells x24 (swG G26)) fun x27 =>
            bj2 (f_X7_skin 1 2 (swG G26)) fun x30 G29 =>
            nm (swG G29) fun G32 =>
            bj1 (f_L_tells x30 (swG G32)) fun x33 =>
            bj2 (f_X7_thick 0 0 0 4000 G32) fun x36 G35 =>
            chk (inb 0 40) <|
            chk (inb (1 + (3 * ((G35.1 249 (ix 0)) - 1))) 40) <|
            if 4 < G35.1 249 (ix (1 + (3 * ((G35.1 249 (ix 0)) - 1)))) then (
              f_L_salts_j156_q40 x36 G35)
            else (
              bj1 (
                if x33 ≤ x27 then (
                  some (x33))
                else (
                  some (x27))) fun (x42 : Int32) =>
              if u5 = x42 then (
                f_L_salts_j156_q40 x36 G35)
              else (
                none)))
          else (
            none))
        else (
          none))))
set_option maxHeartbeats 40000000 in
set_option maxRecDepth 100000 in
theorem c_L_saltsB {K : CT} (u4 : Int32) (u5 : Int32) (G : G_) (r : Int32) (G' : G_) (hc : Ok K cL_salts RL (Cond.code yL_salts cL_salts 10 (some .boolean) :: TB) (some .boolean) 7 170 10) (k_nl : vNL (kV K) = 6) (hend : isZ r = true → ∀ (L' : List (Nat × Value)), X K 211 L' [.int r] G') (hf : f_L_saltsB u4 u5 G = some (r, G')) : X K 18 [(0, .ref (kad K 0)), (1, .ref (kad K 124)), (2, .ref (kad K 248)), (3, .ref (kad K 249)), (4, .int u4), (5, .int u5)] [.ref (kad K 253)] G := by
  unfold f_L_saltsB at hf
  refine x_astore (L' := [(0, .ref (kad K 0)), (1, .ref (kad K 124)), (2, .ref (kad K 248)), (3, .ref (kad K 249)), (4, .int u4), (5, .int u5), (6, .ref (kad K 253))]) hc [1, 2, 3, 4, 5, 6, 0] dL_salts_18 (by decide) rfl ?_
  refine x_aload_n hc 2 dL_salts_20 rfl rfl ?_
  refine x_aload hc 6 dL_salts_21 rfl ?_
  refine x_bipush (v := 8) hc rfl dL_salts_23 ?_
  obtain ⟨G1, r2, hf⟩ := bj1_ok hf
  refine x_callSv (As := [.ref (kad K 248), .ref (kad K 253), .int 8]) hc (c_L_copy (kl K) (kV K) 248 253 8 G G1 (aok_l (p := 248) k_nl rfl rfl (by decide)) (aok_l (p := 253) k_nl rfl rfl (by decide)) r2) mw_L_copy tw_840 rfl (Nat.le_of_ble_eq_true rfl) ⟨Nat.le_of_ble_eq_true rfl, Nat.le_of_ble_eq_true rfl⟩ dL_salts_25 rfl ?_
  refine x_aload hc 6 dL_salts_28 rfl ?_
  refine x_iconst (v := 2) hc rfl dL_salts_30 ?_
  refine x_iload hc 4 dL_salts_31 rfl ?_
  obtain ⟨h3, hf⟩ := chk_ok hf
  refine x_iastoreA (p0 := 253) hc (aok_l (p := 253) k_nl rfl rfl (by decide)) h3 dL_salts_33 ?_
  refine x_nmg (fun G4 e_G4 => ?_)
  replace hf := nm_ok hf G4 e_G4
  refine x_iload hc 4 dL_salts_34 rfl ?_
  refine x_if_lt (tgt := 84) hc dL_salts_36 rfl (fun c_36 => ?_) (fun c_36 => ?_)
  · replace hf := if_p hf c_36
    cases hf
  · replace hf := if_n hf c_36
    refine x_iload hc 4 dL_salts_39 rfl ?_
    refine x_bipush (v := 50) hc rfl dL_salts_41 ?_
    refine x_icmp_gt (tgt := 84) hc dL_salts_43 rfl (fun c_43 => ?_) (fun c_43 => ?_)
    · replace hf := if_p hf c_43
      cases hf
    · replace hf := if_n hf c_43
      refine x_aload_n hc 1 dL_salts_46 rfl rfl ?_
      refine x_iconst (v := 1) hc rfl dL_salts_47 ?_
      refine x_aload hc 6 dL_salts_48 rfl ?_
      obtain ⟨x6, G5, r7, hf⟩ := bj2_ok hf
      refine x_callSr (As := [.ref (kad K 124), .int 1, .ref (kad K 253)]) (v := (.int x6)) hc (mc_sw (c_L_slab (kl K) (swV (kV K)) 1 253 (swG G4) x6 G5 (aok_l (p := 253) k_nl rfl rfl (by decide)) r7)) mw_L_slab tw_694 rfl (Nat.le_of_ble_eq_true rfl) ⟨Nat.le_of_ble_eq_true rfl, Nat.le_of_ble_eq_true rfl⟩ dL_salts_50 rfl ?_
      refine x_nmg (fun G8 e_G8 => ?_)
      replace hf := nm_ok hf G8 e_G8
      refine x_if_eq (tgt := 84) hc dL_salts_53 rfl (fun c_53 => ?_) (fun c_53 => ?_)
      · replace hf := if_p hf c_53
        cases hf
      · replace hf := if_n hf c_53
        refine x_aload_n hc 1 dL_salts_56 rfl rfl ?_
        refine x_iconst (v := 1) hc rfl dL_salts_57 ?_
        refine x_iconst (v := 0) hc rfl dL_salts_58 ?_
        obtain ⟨x10, G9, r11, hf⟩ := bj2_ok hf
        refine x_callVr (As := [.int 1, .int 0]) (p0 := 124) (v := (.int x10)) (T := TX7) hc (mc_sw (c_X7_dish (kl K) (swV (kV K)) 1 0 (swG G8) x10 G9 r11)) mw_X7_dish tw_378 (rfl : kd 124 = 7) (by decide) rfl rfl (Nat.le_of_ble_eq_true rfl) ⟨Nat.le_of_ble_eq_true rfl, Nat.le_of_ble_eq_true rfl⟩ dL_salts_59 rfl ?_
        refine x_nmg (fun G12 e_G12 => ?_)
        replace hf := nm_ok hf G12 e_G12
        refine x_aload_n hc 3 dL_salts_62 rfl rfl ?_
        obtain ⟨x13, r14, hf⟩ := bj1_ok hf
        refine x_callSr (As := [.ref (kad K 249)]) (v := (.int x13)) hc (c_L_ticks (kl K) (kV K) 249 G12 x13 (aok_l (p := 249) k_nl rfl rfl (by decide)) r14) mw_L_ticks tw_753 rfl (Nat.le_of_ble_eq_true rfl) ⟨Nat.le_of_ble_eq_true rfl, Nat.le_of_ble_eq_true rfl⟩ dL_salts_63 rfl ?_
        refine x_icmp_ne (tgt := 84) hc dL_salts_66 rfl (fun c_66 => ?_) (fun c_66 => ?_)
        · replace hf := if_n hf c_66
          cases hf
        · replace hf := if_p hf c_66
          refine x_aload_n hc 1 dL_salts_69 rfl rfl ?_
          refine x_aload_n hc 3 dL_salts_70 rfl rfl ?_
          obtain ⟨x15, r16, hf⟩ := bj1_ok hf
          refine x_callSr (As := [.ref (kad K 249)]) (v := (.int x15)) hc (c_L_ticks (kl K) (kV K) 249 G12 x15 (aok_l (p := 249) k_nl rfl rfl (by decide)) r16) mw_L_ticks tw_753 rfl (Nat.le_of_ble_eq_true rfl) ⟨Nat.le_of_ble_eq_true rfl, Nat.le_of_ble_eq_true rfl⟩ dL_salts_71 rfl ?_
          obtain ⟨x18, G17, r19, hf⟩ := bj2_ok hf
          refine x_callVr (As := [.int x15]) (p0 := 124) (v := (.int x18)) (T := TX7) hc (mc_sw (c_X7_go (kl K) (swV (kV K)) x15 (swG G12) x18 G17 r19)) mw_X7_go tw_397 (rfl : kd 124 = 7) (by decide) rfl rfl (Nat.le_of_ble_eq_true rfl) ⟨Nat.le_of_ble_eq_true rfl, Nat.le_of_ble_eq_true rfl⟩ dL_salts_74 rfl ?_
          refine x_nmg (fun G20 e_G20 => ?_)
          replace hf := nm_ok hf G20 e_G20
          refine x_aload_n hc 3 dL_salts_77 rfl rfl ?_
          obtain ⟨x21, r22, hf⟩ := bj1_ok hf
          refine x_callSr (As := [.ref (kad K 249)]) (v := (.int x21)) hc (c_L_ticks (kl K) (kV K) 249 G20 x21 (aok_l (p := 249) k_nl rfl rfl (by decide)) r22) mw_L_ticks tw_753 rfl (Nat.le_of_ble_eq_true rfl) ⟨Nat.le_of_ble_eq_true rfl, Nat.le_of_ble_eq_true rfl⟩ dL_salts_78 rfl ?_
          refine x_icmp_eq (tgt := 86) hc dL_salts_81 rfl (fun c_81 => ?_) (fun c_81 => ?_)
          · replace hf := if_p hf c_81
            refine x_aload_n hc 1 dL_salts_86 rfl rfl ?_
            refine x_aload_n hc 1 dL_salts_87 rfl rfl ?_
            refine x_iconst (v := 0) hc rfl dL_salts_88 ?_
            refine x_iconst (v := 2) hc rfl dL_salts_89 ?_
            obtain ⟨x24, G23, r25, hf⟩ := bj2_ok hf
            refine x_callVr (As := [.int 0, .int 2]) (p0 := 124) (v := (.int x24)) (T := TX7) hc (mc_sw (c_X7_skin (kl K) (swV (kV K)) 0 2 (swG G20) x24 G23 r25)) mw_X7_skin tw_461 (rfl : kd 124 = 7) (by decide) rfl rfl (Nat.le_of_ble_eq_true rfl) ⟨Nat.le_of_ble_eq_true rfl, Nat.le_of_ble_eq_true rfl⟩ dL_salts_90 rfl ?_
            refine x_nmg (fun G26 e_G26 => ?_)
            replace hf := nm_ok hf G26 e_G26
            obtain ⟨x27, r28, hf⟩ := bj1_ok hf
            refine x_callSr (As := [.ref (kad K 124), .int x24]) (v := (.int x27)) hc (mc_swp (c_L_tells (kl K) (swV (kV K)) x24 (swG G26) x27 r28)) mw_L_tells tw_756 rfl (Nat.le_of_ble_eq_true rfl) ⟨Nat.le_of_ble_eq_true rfl, Nat.le_of_ble_eq_true rfl⟩ dL_salts_93 rfl ?_
            refine x_istore (L' := [(0, .ref (kad K 0)), (1, .ref (kad K 124)), (3, .ref (kad K 249)), (5, .int u5), (7, .int x27)]) hc [1, 2, 4, 6, 0] dL_salts_96 (by decide) rfl ?_
            refine x_aload_n hc 1 dL_salts_98 rfl rfl ?_
            refine x_aload_n hc 1 dL_salts_99 rfl rfl ?_
            refine x_iconst (v := 1) hc rfl dL_salts_100 ?_
            refine x_iconst (v := 2) hc rfl dL_salts_101 ?_
            obtain ⟨x30, G29, r31, hf⟩ := bj2_ok hf
            refine x_callVr (As := [.int 1, .int 2]) (p0 := 124) (v := (.int x30)) (T := TX7) hc (mc_sw (c_X7_skin (kl K) (swV (kV K)) 1 2 (swG G26) x30 G29 r31)) mw_X7_skin tw_461 (rfl : kd 124 = 7) (by decide) rfl rfl (Nat.le_of_ble_eq_true rfl) ⟨Nat.le_of_ble_eq_true rfl, Nat.le_of_ble_eq_true rfl⟩ dL_salts_102 rfl ?_
            refine x_nmg (fun G32 e_G32 => ?_)
            replace hf := nm_ok hf G32 e_G32
            obtain ⟨x33, r34, hf⟩ := bj1_ok hf
            refine x_callSr (As := [.ref (kad K 124), .int x30]) (v := (.int x33)) hc (mc_swp (c_L_tells (kl K) (swV (kV K)) x30 (swG G32) x33 r34)) mw_L_tells tw_756 rfl (Nat.le_of_ble_eq_true rfl) ⟨Nat.le_of_ble_eq_true rfl, Nat.le_of_ble_eq_true rfl⟩ dL_salts_105 rfl ?_
            refine x_istore (L' := [(0, .ref (kad K 0)), (3, .ref (kad K 249)), (5, .int u5), (7, .int x27), (8, .int x33)]) hc [1, 3, 4, 5, 0] dL_salts_108 (by decide) rfl ?_
            refine x_aload_n hc 0 dL_salts_110 rfl rfl ?_
            refine x_iconst (v := 0) hc rfl dL_salts_111 ?_
            refine x_iconst (v := 0) hc rfl dL_salts_112 ?_
            refine x_iconst (v := 0) hc rfl dL_salts_113 ?_
            refine x_sipush (v := 4000) hc rfl dL_salts_114 ?_
            obtain ⟨x36, G35, r37, hf⟩ := bj2_ok hf
            refine x_callVr (As := [.int 0, .int 0, .int 0, .int 4000]) (p0 := 0) (v := (.int x36)) (T := TX7) hc (c_X7_thick (kl K) (kV K) 0 0 0 4000 G32 x36 G35 r37) mw_X7_thick tw_843 (rfl : kd 0 = 7) (by decide) rfl rfl (Nat.le_of_ble_eq_true rfl) ⟨Nat.le_of_ble_eq_true rfl, Nat.le_of_ble_eq_true rfl⟩ dL_salts_117 rfl ?_
            refine x_istore (L' := [(0, .ref (kad K 0)), (3, .ref (kad K 249)), (5, .int u5), (7, .int x27), (8, .int x33), (9, .int x36)]) hc [1, 2, 3, 4, 5, 0] dL_salts_120 (by decide) rfl ?_
            refine x_aload_n hc 1 dL_salts_122 rfl rfl ?_
            refine x_iconst (v := 1) hc rfl dL_salts_123 ?_
            refine x_iconst (v := 3) hc rfl dL_salts_124 ?_
            refine x_aload_n hc 1 dL_salts_125 rfl rfl ?_
            refine x_iconst (v := 0) hc rfl dL_salts_126 ?_
            obtain ⟨h38, hf⟩ := chk_ok hf
            refine x_ialoadA (p0 := 249) hc (aok_l (p := 249) k_nl rfl rfl (by decide)) h38 dL_salts_127 ?_
            refine x_iconst (v := 1) hc rfl dL_salts_128 ?_
            refine x_isub hc dL_salts_129 ?_
            refine x_imul hc dL_salts_130 ?_
            refine x_iadd hc dL_salts_131 ?_
            obtain ⟨h39, hf⟩ := chk_ok hf
            refine x_ialoadA (p0 := 249) hc (aok_l (p := 249) k_nl rfl rfl (by decide)) h39 dL_salts_132 ?_
            refine x_iconst (v := 4) hc rfl dL_salts_133 ?_
            have hj_156_40 : f_L_salts_j156_q40 x36 G35 = some (r, G') → X K 156 [(0, .ref (kad K 0)), (9, .int x36)] [] G35 := by
              intro  hf
              unfold f_L_salts_j156_q40 at hf
              refine x_iload hc 1 dL_salts_156 rfl ?_
              refine x_bipush (v := 18) hc rfl dL_salts_158 ?_
              refine x_icmp_ne (tgt := 210) hc dL_salts_160 rfl (fun c_160 => ?_) (fun c_160 => ?_)
              · replace hf := if_n hf c_160
                cases hf
              · replace hf := if_p hf c_160
                refine x_aload_n hc 0 dL_salts_163 rfl rfl ?_
                obtain ⟨x43, r44, hf⟩ := bj1_ok hf
                refine x_callVr (As := []) (p0 := 0) (v := (.int x43)) (T := TX7) hc (c_X7_asked (kl K) (kV K) G35 x43 r44) mw_X7_asked tw_602 (rfl : kd 0 = 7) (by decide) rfl rfl (Nat.le_of_ble_eq_true rfl) ⟨Nat.le_of_ble_eq_true rfl, Nat.le_of_ble_eq_true rfl⟩ dL_salts_164 rfl ?_
                refine x_iconst (v := 3) hc rfl dL_salts_167 ?_
                refine x_icmp_ne (tgt := 210) hc dL_salts_168 rfl (fun c_168 => ?_) (fun c_168 => ?_)
                · replace hf := if_n hf c_168
                  cases hf
                · replace hf := if_p hf c_168
                  refine x_aload_n hc 0 dL_salts_171 rfl rfl ?_
                  refine x_iconst (v := 1) hc rfl dL_salts_172 ?_
                  refine x_iconst (v := 4) hc rfl dL_salts_173 ?_
                  obtain ⟨x46, G45, r47, hf⟩ := bj2_ok hf
                  refine x_callVr (As := [.int 1, .int 4]) (p0 := 0) (v := (.int x46)) (T := TX7) hc (c_X7_order (kl K) (kV K) 1 4 G35 x46 G45 r47) mw_X7_order tw_847 (rfl : kd 0 = 7) (by decide) rfl rfl (Nat.le_of_ble_eq_true rfl) ⟨Nat.le_of_ble_eq_true rfl, Nat.le_of_ble_eq_true rfl⟩ dL_salts_174 rfl ?_
                  refine x_if_lt (tgt := 210) hc dL_salts_177 rfl (fun c_177 => ?_) (fun c_177 => ?_)
                  · replace hf := if_p hf c_177
                    cases hf
                  · replace hf := if_n hf c_177
                    refine x_aload_n hc 0 dL_salts_180 rfl rfl ?_
                    refine x_iconst (v := 4) hc rfl dL_salts_181 ?_
                    refine x_iconst (v := 0) hc rfl dL_salts_182 ?_
                    obtain ⟨x49, G48, r50, hf⟩ := bj2_ok hf
                    refine x_callVr (As := [.int 4, .int 0]) (p0 := 0) (v := (.int x49)) (T := TX7) hc (c_X7_at (kl K) (kV K) 4 0 G45 x49 G48 r50) mw_X7_at tw_898 (rfl : kd 0 = 7) (by decide) rfl rfl (Nat.le_of_ble_eq_true rfl) ⟨Nat.le_of_ble_eq_true rfl, Nat.le_of_ble_eq_true rfl⟩ dL_salts_183 rfl ?_
                    refine x_iconst (v := 1) hc rfl dL_salts_186 ?_
                    refine x_icmp_ne (tgt := 210) hc dL_salts_187 rfl (fun c_187 => ?_) (fun c_187 => ?_)
                    · replace hf := if_n hf c_187
                      cases hf
                    · replace hf := if_p hf c_187
                      refine x_aload_n hc 0 dL_salts_190 rfl rfl ?_
                      obtain ⟨x51, r52, hf⟩ := bj1_ok hf
                      refine x_callVr (As := []) (p0 := 0) (v := (.int x51)) (T := TX7) hc (c_X7_asked (kl K) (kV K) G48 x51 r52) mw_X7_asked tw_602 (rfl : kd 0 = 7) (by decide) rfl rfl (Nat.le_of_ble_eq_true rfl) ⟨Nat.le_of_ble_eq_true rfl, Nat.le_of_ble_eq_true rfl⟩ dL_salts_191 rfl ?_
                      refine x_if_ne (tgt := 210) hc dL_salts_194 rfl (fun c_194 => ?_) (fun c_194 => ?_)
                      · replace hf := if_n hf c_194
                        cases hf
                      · replace hf := if_p hf c_194
                        refine x_aload_n hc 0 dL_salts_197 rfl rfl ?_
                        refine x_iconst (v := 4) hc rfl dL_salts_198 ?_
                        obtain ⟨x54, G53, r55, hf⟩ := bj2_ok hf
                        refine x_callVr (As := [.int 4]) (p0 := 0) (v := (.int x54)) (T := TX7) hc (c_X7_tear (kl K) (kV K) 4 G48 x54 G53 r55) mw_X7_tear tw_903 (rfl : kd 0 = 7) (by decide) rfl rfl (Nat.le_of_ble_eq_true rfl) ⟨Nat.le_of_ble_eq_true rfl, Nat.le_of_ble_eq_true rfl⟩ dL_salts_199 rfl ?_
                        refine x_iconst (v := 1) hc rfl dL_salts_202 ?_
                        refine x_icmp_ne (tgt := 210) hc dL_salts_203 rfl (fun c_203 => ?_) (fun c_203 => ?_)
                        · replace hf := if_n hf c_203
                          cases hf
                        · replace hf := if_p hf c_203
                          refine x_iconst (v := 1) hc rfl dL_salts_206 ?_
                          refine x_goto (tgt := 211) hc dL_salts_207 rfl ?_
                          obtain ⟨hz, hf⟩ := chk_ok hf
                          cases hf
                          exact hend hz _
            refine x_icmp_gt (tgt := 156) hc dL_salts_134 rfl (fun c_134 => ?_) (fun c_134 => ?_)
            · replace hf := if_p hf c_134
              exact x_sub [0, 5] (hj_156_40  hf) rfl
            · replace hf := if_n hf c_134
              refine x_iload hc 2 dL_salts_137 rfl ?_
              refine x_iload hc 3 dL_salts_139 rfl ?_
              refine x_iload hc 4 dL_salts_141 rfl ?_
              obtain ⟨x42, hr, hf⟩ := bj1_ok hf
              have hj_153_41 : X K 153 [(0, .ref (kad K 0)), (9, .int x36)] [.int x42, .int u5] G35 := by
                clear hr
                refine x_icmp_ne (tgt := 210) hc dL_salts_153 rfl (fun c_153 => ?_) (fun c_153 => ?_)
                · replace hf := if_n hf c_153
                  cases hf
                · replace hf := if_p hf c_153
                  exact x_sub [0, 1] (hj_156_40  hf) rfl
              replace hf := hr
              clear hr
              refine x_icmp_ge (tgt := 151) hc dL_salts_143 rfl (fun c_143 => ?_) (fun c_143 => ?_)
              · replace hf := if_p hf c_143
                refine x_iload hc 4 dL_salts_151 rfl ?_
                cases hf
                exact x_sub [0, 5] hj_153_41 rfl
              · replace hf := if_n hf c_143
                refine x_iload hc 3 dL_salts_146 rfl ?_
                refine x_goto (tgt := 153) hc dL_salts_148 rfl ?_
                cases hf
                exact x_sub [0, 5] hj_153_41 rfl
          · replace hf := if_n hf c_81
            cases hf
def f_L_law_l68_12  : Nat → Int32 → G_ → Option (G_)
  | 0, _, _ => none
  | n12 + 1, v10, G11 =>
    chk (inb 0 40) <|
    if 3 * (G11.1 249 (ix 0)) ≤ v10 then (
      some (G11))
    else (
      chk (inb (1 + v10) 40) <|
      chk (inb (4 + v10) 40) <|
      nm (sI G11 250 (ix (4 + v10)) (G11.1 249 (ix (1 + v10)))) fun G16 =>
      f_L_law_l68_12 n12 (v10 + 1) G16)
def f_L_law_l182_47 (x43 : Int32) (G40 : G_) : Nat → Int32 → Int32 → Option (Int32)
  | 0, _, _ => none
  | n47 + 1, v45, v46 =>
    chk (inb 0 40) <|
    if G40.1 249 (ix 0) ≤ v46 then (
      some (v45))
    else (
      chk (inb (2 + (3 * v46)) 40) <|
      bj1 (
        if 100 * (G40.1 249 (ix (2 + (3 * v46)))) ≤ v45 then (
          some (v45))
        else (
          chk (inb (2 + (3 * v46)) 40) <|
          some (100 * (G40.1 249 (ix (2 + (3 * v46))))))) fun (x52 : Int32) =>
      f_L_law_l182_47 x43 G40 n47 x52 (v46 + 1))
def f_L_lawB (sl : Nat) (xs : Nat → Int32) (G : G_) : Option (Int32 × Int32 × G_) :=
  bj1 (f_L_numbers sl xs 10 248 G) fun G1 =>
  bj1 (f_L_plans sl xs 20 6 249 G1) fun G3 =>
  chk (inb 0 40) <|
  chk (inb 0 40) <|
  nm (sI G3 250 (ix 0) ((G3.1 249 (ix 0)) + 1)) fun G7 =>
  chk (inb 1 40) <|
  nm (sI G7 250 (ix 1) 5) fun G9 =>
  bj1 (f_L_law_l68_12 FU 0 G9) fun G17 =>
  bj2 (f_L_slab 0 248 G17) fun x19 G18 =>
  if x19 = 0 then (
    none)
  else (
    bj2 (f_L_slab 0 248 (swG G18)) fun x22 G21 =>
    nm (swG G21) fun G24 =>
    if x22 = 0 then (
      none)
    else (
      bj2 (f_L_plan 0 249 G24) fun x26 G25 =>
      if x26 = 0 then (
        none)
      else (
        bj2 (f_L_plan 0 250 (swG G25)) fun x29 G28 =>
        nm (swG G28) fun G31 =>
        if x29 = 0 then (
          none)
        else (
          bj2 (f_X7_dish 0 0 G31) fun x33 G32 =>
          bj1 (f_L_ticks 249 G32) fun x35 =>
          if x33 = x35 then (
            bj2 (f_X7_dish 0 0 (swG G32)) fun x38 G37 =>
            nm (swG G37) fun G40 =>
            bj1 (f_L_ticks 249 G40) fun x41 =>
            if x38 = x41 then (
              bj1 (f_L_ticks 249 G40) fun x43 =>
              bj1 (f_L_law_l182_47 x43 G40 FU 200 0) fun x53 =>
              chk (inb 1 8) <|
              bj1 (
                if 10 * (G40.1 248 (ix 1)) ≤ x53 then (
                  some (x53))
                else (
                  chk (inb 1 8) <|
                  some (10 * (G40.1 248 (ix 1))))) fun (x57 : Int32) =>
              some (x43, x57, G40))
            else (
              none))
          else (
            none)))))
set_option maxHeartbeats 4000000 in
set_option maxRecDepth 100000 in
theorem c_L_law_l68_12 {K : CT} {Ts : List Cond}  (hc : Ok K cL_law RL Ts ret 10 398 19) (k_nl : vNL (kV K) = 3) : ∀ (n12 : Nat) (v10 : Int32) (G11 : G_) (G17 : G_), f_L_law_l68_12 n12 v10 G11 = some (G17) → X K 99 [(0, .ref (vSB (kV K))), (1, .ref (kad K 0)), (2, .ref (kad K 124)), (3, .ref (kad K 248)), (4, .ref (kad K 249)), (5, .ref (kad K 250))] [] G17 → X K 68 [(0, .ref (vSB (kV K))), (1, .ref (kad K 0)), (2, .ref (kad K 124)), (3, .ref (kad K 248)), (4, .ref (kad K 249)), (5, .ref (kad K 250)), (6, .int v10)] [] G11 := by
  intro n12
  induction n12 with
  | zero =>
    intro v10 G11 G17 hf hk
    cases hf
  | succ n12 ih =>
    intro v10 G11 G17 hf hk
    unfold f_L_law_l68_12 at hf
    refine x_iload hc 6 dL_law_68 rfl ?_
    refine x_iconst (v := 3) hc rfl dL_law_70 ?_
    refine x_aload hc 4 dL_law_71 rfl ?_
    refine x_iconst (v := 0) hc rfl dL_law_73 ?_
    obtain ⟨h13, hf⟩ := chk_ok hf
    refine x_ialoadA (p0 := 249) hc (aok_l (p := 249) k_nl rfl rfl (by decide)) h13 dL_law_74 ?_
    refine x_imul hc dL_law_75 ?_
    refine x_icmp_ge (tgt := 99) hc dL_law_76 rfl (fun c_76 => ?_) (fun c_76 => ?_)
    · replace hf := if_p hf c_76
      cases hf
      exact x_sub [0, 1, 2, 3, 4, 5] hk rfl
    · replace hf := if_n hf c_76
      refine x_aload hc 5 dL_law_79 rfl ?_
      refine x_iconst (v := 4) hc rfl dL_law_81 ?_
      refine x_iload hc 6 dL_law_82 rfl ?_
      refine x_iadd hc dL_law_84 ?_
      refine x_aload hc 4 dL_law_85 rfl ?_
      refine x_iconst (v := 1) hc rfl dL_law_87 ?_
      refine x_iload hc 6 dL_law_88 rfl ?_
      refine x_iadd hc dL_law_90 ?_
      obtain ⟨h14, hf⟩ := chk_ok hf
      refine x_ialoadA (p0 := 249) hc (aok_l (p := 249) k_nl rfl rfl (by decide)) h14 dL_law_91 ?_
      obtain ⟨h15, hf⟩ := chk_ok hf
      refine x_iastoreA (p0 := 250) hc (aok_l (p := 250) k_nl rfl rfl (by decide)) h15 dL_law_92 ?_
      refine x_nmg (fun G16 e_G16 => ?_)
      replace hf := nm_ok hf G16 e_G16
      refine x_iinc (v := v10 + 1) (L' := [(0, .ref (vSB (kV K))), (1, .ref (kad K 0)), (2, .ref (kad K 124)), (3, .ref (kad K 248)), (4, .ref (kad K 249)), (5, .ref (kad K 250)), (6, .int (v10 + 1))]) hc 6 [1, 2, 3, 4, 5, 6, 0] dL_law_93 rfl rfl (by decide) rfl ?_
      refine x_goto (tgt := 68) hc dL_law_96 rfl ?_
      exact x_sub [0, 1, 2, 3, 4, 5, 6] (ih _ _ _ hf hk) rfl
set_option maxHeartbeats 4000000 in
set_option maxRecDepth 100000 in
theorem c_L_law_l182_47 {K : CT} {Ts : List Cond} (x43 : Int32) (G40 : G_) (hc : Ok K cL_law RL Ts ret 10 398 19) (k_nl : vNL (kV K) = 3) : ∀ (n47 : Nat) (v45 : Int32) (v46 : Int32) (x53 : Int32), f_L_law_l182_47 x43 G40 n47 v45 v46 = some (x53) → X K 233 [(0, .ref (vSB (kV K))), (1, .ref (kad K 0)), (2, .ref (kad K 124)), (3, .ref (kad K 248)), (4, .ref (kad K 249)), (5, .ref (kad K 250)), (6, .int x43), (7, .int x53)] [] G40 → X K 182 [(0, .ref (vSB (kV K))), (1, .ref (kad K 0)), (2, .ref (kad K 124)), (3, .ref (kad K 248)), (4, .ref (kad K 249)), (5, .ref (kad K 250)), (6, .int x43), (7, .int v45), (8, .int v46)] [] G40 := by
  intro n47
  induction n47 with
  | zero =>
    intro v45 v46 x53 hf hk
    cases hf
  | succ n47 ih =>
    intro v45 v46 x53 hf hk
    unfold f_L_law_l182_47 at hf
    refine x_iload hc 8 dL_law_182 rfl ?_
    refine x_aload hc 4 dL_law_184 rfl ?_
    refine x_iconst (v := 0) hc rfl dL_law_186 ?_
    obtain ⟨h48, hf⟩ := chk_ok hf
    refine x_ialoadA (p0 := 249) hc (aok_l (p := 249) k_nl rfl rfl (by decide)) h48 dL_law_187 ?_
    refine x_icmp_ge (tgt := 233) hc dL_law_188 rfl (fun c_188 => ?_) (fun c_188 => ?_)
    · replace hf := if_p hf c_188
      cases hf
      exact x_sub [0, 1, 2, 3, 4, 5, 6, 7] hk rfl
    · replace hf := if_n hf c_188
      refine x_bipush (v := 100) hc rfl dL_law_191 ?_
      refine x_aload hc 4 dL_law_193 rfl ?_
      refine x_iconst (v := 2) hc rfl dL_law_195 ?_
      refine x_iconst (v := 3) hc rfl dL_law_196 ?_
      refine x_iload hc 8 dL_law_197 rfl ?_
      refine x_imul hc dL_law_199 ?_
      refine x_iadd hc dL_law_200 ?_
      obtain ⟨h49, hf⟩ := chk_ok hf
      refine x_ialoadA (p0 := 249) hc (aok_l (p := 249) k_nl rfl rfl (by decide)) h49 dL_law_201 ?_
      refine x_imul hc dL_law_202 ?_
      refine x_iload hc 7 dL_law_203 rfl ?_
      obtain ⟨x52, hr, hf⟩ := bj1_ok hf
      have hj_225_50 : X K 225 [(0, .ref (vSB (kV K))), (1, .ref (kad K 0)), (2, .ref (kad K 124)), (3, .ref (kad K 248)), (4, .ref (kad K 249)), (5, .ref (kad K 250)), (6, .int x43), (8, .int v46)] [.int x52] G40 := by
        clear hr
        refine x_istore (L' := [(0, .ref (vSB (kV K))), (1, .ref (kad K 0)), (2, .ref (kad K 124)), (3, .ref (kad K 248)), (4, .ref (kad K 249)), (5, .ref (kad K 250)), (6, .int x43), (7, .int x52), (8, .int v46)]) hc [1, 2, 3, 4, 5, 6, 7, 0, 8] dL_law_225 (by decide) rfl ?_
        refine x_iinc (v := v46 + 1) (L' := [(0, .ref (vSB (kV K))), (1, .ref (kad K 0)), (2, .ref (kad K 124)), (3, .ref (kad K 248)), (4, .ref (kad K 249)), (5, .ref (kad K 250)), (6, .int x43), (7, .int x52), (8, .int (v46 + 1))]) hc 8 [1, 2, 3, 4, 5, 6, 7, 8, 0] dL_law_227 rfl rfl (by decide) rfl ?_
        refine x_goto (tgt := 182) hc dL_law_230 rfl ?_
        exact x_sub [0, 1, 2, 3, 4, 5, 6, 7, 8] (ih _ _ _ hf hk) rfl
      replace hf := hr
      clear hr
      refine x_icmp_le (tgt := 223) hc dL_law_205 rfl (fun c_205 => ?_) (fun c_205 => ?_)
      · replace hf := if_p hf c_205
        refine x_iload hc 7 dL_law_223 rfl ?_
        cases hf
        exact x_sub [0, 1, 2, 3, 4, 5, 6, 8] hj_225_50 rfl
      · replace hf := if_n hf c_205
        refine x_bipush (v := 100) hc rfl dL_law_208 ?_
        refine x_aload hc 4 dL_law_210 rfl ?_
        refine x_iconst (v := 2) hc rfl dL_law_212 ?_
        refine x_iconst (v := 3) hc rfl dL_law_213 ?_
        refine x_iload hc 8 dL_law_214 rfl ?_
        refine x_imul hc dL_law_216 ?_
        refine x_iadd hc dL_law_217 ?_
        obtain ⟨h51, hf⟩ := chk_ok hf
        refine x_ialoadA (p0 := 249) hc (aok_l (p := 249) k_nl rfl rfl (by decide)) h51 dL_law_218 ?_
        refine x_imul hc dL_law_219 ?_
        refine x_goto (tgt := 225) hc dL_law_220 rfl ?_
        cases hf
        exact x_sub [0, 1, 2, 3, 4, 5, 6, 8] hj_225_50 rfl
set_option maxHeartbeats 40000000 in
set_option maxRecDepth 100000 in
theorem c_L_lawB {K : CT} {Ts : List Cond} (sl : Nat) (xs : Nat → Int32) (G : G_) (u6 : Int32) (u7 : Int32) (G' : G_) (hc : Ok K cL_law RL Ts ret 10 398 19) (k_nl : vNL (kV K) = 3) (k_sc : SCO (kV K) sl xs) (hf : f_L_lawB sl xs G = some (u6, u7, G')) (hk : X K 257 [(0, .ref (vSB (kV K))), (1, .ref (kad K 0)), (2, .ref (kad K 124)), (3, .ref (kad K 248)), (4, .ref (kad K 249)), (5, .ref (kad K 250)), (6, .int u6), (7, .int u7)] [] G') : X K 33 [(0, .ref (vSB (kV K))), (1, .ref (kad K 0)), (2, .ref (kad K 124)), (3, .ref (kad K 248)), (4, .ref (kad K 249)), (5, .ref (kad K 250))] [] G := by
  unfold f_L_lawB at hf
  refine x_aload_n hc 0 dL_law_33 rfl rfl ?_
  refine x_bipush (v := 10) hc rfl dL_law_34 ?_
  refine x_aload_n hc 3 dL_law_36 rfl rfl ?_
  obtain ⟨G1, r2, hf⟩ := bj1_ok hf
  refine x_callSv (As := [.ref (vSB (kV K)), .int 10, .ref (kad K 248)]) hc (c_L_numbers (kl K) (kV K) sl xs 10 248 G G1 k_sc (aok_l (p := 248) k_nl rfl rfl (by decide)) r2) mw_L_numbers tw_687 rfl (Nat.le_of_ble_eq_true rfl) ⟨Nat.le_of_ble_eq_true rfl, Nat.le_of_ble_eq_true rfl⟩ dL_law_37 rfl ?_
  refine x_aload_n hc 0 dL_law_40 rfl rfl ?_
  refine x_bipush (v := 20) hc rfl dL_law_41 ?_
  refine x_bipush (v := 6) hc rfl dL_law_43 ?_
  refine x_aload hc 4 dL_law_45 rfl ?_
  obtain ⟨G3, r4, hf⟩ := bj1_ok hf
  refine x_callSv (As := [.ref (vSB (kV K)), .int 20, .int 6, .ref (kad K 249)]) hc (c_L_plans (kl K) (kV K) sl xs 20 6 249 G1 G3 k_sc (aok_l (p := 249) k_nl rfl rfl (by decide)) r4) mw_L_plans tw_747 rfl (Nat.le_of_ble_eq_true rfl) ⟨Nat.le_of_ble_eq_true rfl, Nat.le_of_ble_eq_true rfl⟩ dL_law_47 rfl ?_
  refine x_aload hc 5 dL_law_50 rfl ?_
  refine x_iconst (v := 0) hc rfl dL_law_52 ?_
  refine x_aload hc 4 dL_law_53 rfl ?_
  refine x_iconst (v := 0) hc rfl dL_law_55 ?_
  obtain ⟨h5, hf⟩ := chk_ok hf
  refine x_ialoadA (p0 := 249) hc (aok_l (p := 249) k_nl rfl rfl (by decide)) h5 dL_law_56 ?_
  refine x_iconst (v := 1) hc rfl dL_law_57 ?_
  refine x_iadd hc dL_law_58 ?_
  obtain ⟨h6, hf⟩ := chk_ok hf
  refine x_iastoreA (p0 := 250) hc (aok_l (p := 250) k_nl rfl rfl (by decide)) h6 dL_law_59 ?_
  refine x_nmg (fun G7 e_G7 => ?_)
  replace hf := nm_ok hf G7 e_G7
  refine x_aload hc 5 dL_law_60 rfl ?_
  refine x_iconst (v := 1) hc rfl dL_law_62 ?_
  refine x_iconst (v := 5) hc rfl dL_law_63 ?_
  obtain ⟨h8, hf⟩ := chk_ok hf
  refine x_iastoreA (p0 := 250) hc (aok_l (p := 250) k_nl rfl rfl (by decide)) h8 dL_law_64 ?_
  refine x_nmg (fun G9 e_G9 => ?_)
  replace hf := nm_ok hf G9 e_G9
  refine x_iconst (v := 0) hc rfl dL_law_65 ?_
  refine x_istore (L' := [(0, .ref (vSB (kV K))), (1, .ref (kad K 0)), (2, .ref (kad K 124)), (3, .ref (kad K 248)), (4, .ref (kad K 249)), (5, .ref (kad K 250)), (6, .int 0)]) hc [1, 2, 3, 4, 5, 6, 0] dL_law_66 (by decide) rfl ?_
  obtain ⟨G17, hl_68, hf⟩ := bj1_ok hf
  have he_99_n12 : X K 99 [(0, .ref (vSB (kV K))), (1, .ref (kad K 0)), (2, .ref (kad K 124)), (3, .ref (kad K 248)), (4, .ref (kad K 249)), (5, .ref (kad K 250))] [] G17 := by
    clear hl_68
    refine x_aload_n hc 1 dL_law_99 rfl rfl ?_
    refine x_iconst (v := 0) hc rfl dL_law_100 ?_
    refine x_aload_n hc 3 dL_law_101 rfl rfl ?_
    obtain ⟨x19, G18, r20, hf⟩ := bj2_ok hf
    refine x_callSr (As := [.ref (kad K 0), .int 0, .ref (kad K 248)]) (v := (.int x19)) hc (c_L_slab (kl K) (kV K) 0 248 G17 x19 G18 (aok_l (p := 248) k_nl rfl rfl (by decide)) r20) mw_L_slab tw_694 rfl (Nat.le_of_ble_eq_true rfl) ⟨Nat.le_of_ble_eq_true rfl, Nat.le_of_ble_eq_true rfl⟩ dL_law_102 rfl ?_
    refine x_if_eq (tgt := 165) hc dL_law_105 rfl (fun c_105 => ?_) (fun c_105 => ?_)
    · replace hf := if_p hf c_105
      cases hf
    · replace hf := if_n hf c_105
      refine x_aload_n hc 2 dL_law_108 rfl rfl ?_
      refine x_iconst (v := 0) hc rfl dL_law_109 ?_
      refine x_aload_n hc 3 dL_law_110 rfl rfl ?_
      obtain ⟨x22, G21, r23, hf⟩ := bj2_ok hf
      refine x_callSr (As := [.ref (kad K 124), .int 0, .ref (kad K 248)]) (v := (.int x22)) hc (mc_sw (c_L_slab (kl K) (swV (kV K)) 0 248 (swG G18) x22 G21 (aok_l (p := 248) k_nl rfl rfl (by decide)) r23)) mw_L_slab tw_694 rfl (Nat.le_of_ble_eq_true rfl) ⟨Nat.le_of_ble_eq_true rfl, Nat.le_of_ble_eq_true rfl⟩ dL_law_111 rfl ?_
      refine x_nmg (fun G24 e_G24 => ?_)
      replace hf := nm_ok hf G24 e_G24
      refine x_if_eq (tgt := 165) hc dL_law_114 rfl (fun c_114 => ?_) (fun c_114 => ?_)
      · replace hf := if_p hf c_114
        cases hf
      · replace hf := if_n hf c_114
        refine x_aload_n hc 1 dL_law_117 rfl rfl ?_
        refine x_iconst (v := 0) hc rfl dL_law_118 ?_
        refine x_aload hc 4 dL_law_119 rfl ?_
        obtain ⟨x26, G25, r27, hf⟩ := bj2_ok hf
        refine x_callSr (As := [.ref (kad K 0), .int 0, .ref (kad K 249)]) (v := (.int x26)) hc (c_L_plan (kl K) (kV K) 0 249 G24 x26 G25 (aok_l (p := 249) k_nl rfl rfl (by decide)) r27) mw_L_plan tw_750 rfl (Nat.le_of_ble_eq_true rfl) ⟨Nat.le_of_ble_eq_true rfl, Nat.le_of_ble_eq_true rfl⟩ dL_law_121 rfl ?_
        refine x_if_eq (tgt := 165) hc dL_law_124 rfl (fun c_124 => ?_) (fun c_124 => ?_)
        · replace hf := if_p hf c_124
          cases hf
        · replace hf := if_n hf c_124
          refine x_aload_n hc 2 dL_law_127 rfl rfl ?_
          refine x_iconst (v := 0) hc rfl dL_law_128 ?_
          refine x_aload hc 5 dL_law_129 rfl ?_
          obtain ⟨x29, G28, r30, hf⟩ := bj2_ok hf
          refine x_callSr (As := [.ref (kad K 124), .int 0, .ref (kad K 250)]) (v := (.int x29)) hc (mc_sw (c_L_plan (kl K) (swV (kV K)) 0 250 (swG G25) x29 G28 (aok_l (p := 250) k_nl rfl rfl (by decide)) r30)) mw_L_plan tw_750 rfl (Nat.le_of_ble_eq_true rfl) ⟨Nat.le_of_ble_eq_true rfl, Nat.le_of_ble_eq_true rfl⟩ dL_law_131 rfl ?_
          refine x_nmg (fun G31 e_G31 => ?_)
          replace hf := nm_ok hf G31 e_G31
          refine x_if_eq (tgt := 165) hc dL_law_134 rfl (fun c_134 => ?_) (fun c_134 => ?_)
          · replace hf := if_p hf c_134
            cases hf
          · replace hf := if_n hf c_134
            refine x_aload_n hc 1 dL_law_137 rfl rfl ?_
            refine x_iconst (v := 0) hc rfl dL_law_138 ?_
            refine x_iconst (v := 0) hc rfl dL_law_139 ?_
            obtain ⟨x33, G32, r34, hf⟩ := bj2_ok hf
            refine x_callVr (As := [.int 0, .int 0]) (p0 := 0) (v := (.int x33)) (T := TX7) hc (c_X7_dish (kl K) (kV K) 0 0 G31 x33 G32 r34) mw_X7_dish tw_378 (rfl : kd 0 = 7) (by decide) rfl rfl (Nat.le_of_ble_eq_true rfl) ⟨Nat.le_of_ble_eq_true rfl, Nat.le_of_ble_eq_true rfl⟩ dL_law_140 rfl ?_
            refine x_aload hc 4 dL_law_143 rfl ?_
            obtain ⟨x35, r36, hf⟩ := bj1_ok hf
            refine x_callSr (As := [.ref (kad K 249)]) (v := (.int x35)) hc (c_L_ticks (kl K) (kV K) 249 G32 x35 (aok_l (p := 249) k_nl rfl rfl (by decide)) r36) mw_L_ticks tw_753 rfl (Nat.le_of_ble_eq_true rfl) ⟨Nat.le_of_ble_eq_true rfl, Nat.le_of_ble_eq_true rfl⟩ dL_law_145 rfl ?_
            refine x_icmp_ne (tgt := 165) hc dL_law_148 rfl (fun c_148 => ?_) (fun c_148 => ?_)
            · replace hf := if_n hf c_148
              cases hf
            · replace hf := if_p hf c_148
              refine x_aload_n hc 2 dL_law_151 rfl rfl ?_
              refine x_iconst (v := 0) hc rfl dL_law_152 ?_
              refine x_iconst (v := 0) hc rfl dL_law_153 ?_
              obtain ⟨x38, G37, r39, hf⟩ := bj2_ok hf
              refine x_callVr (As := [.int 0, .int 0]) (p0 := 124) (v := (.int x38)) (T := TX7) hc (mc_sw (c_X7_dish (kl K) (swV (kV K)) 0 0 (swG G32) x38 G37 r39)) mw_X7_dish tw_378 (rfl : kd 124 = 7) (by decide) rfl rfl (Nat.le_of_ble_eq_true rfl) ⟨Nat.le_of_ble_eq_true rfl, Nat.le_of_ble_eq_true rfl⟩ dL_law_154 rfl ?_
              refine x_nmg (fun G40 e_G40 => ?_)
              replace hf := nm_ok hf G40 e_G40
              refine x_aload hc 4 dL_law_157 rfl ?_
              obtain ⟨x41, r42, hf⟩ := bj1_ok hf
              refine x_callSr (As := [.ref (kad K 249)]) (v := (.int x41)) hc (c_L_ticks (kl K) (kV K) 249 G40 x41 (aok_l (p := 249) k_nl rfl rfl (by decide)) r42) mw_L_ticks tw_753 rfl (Nat.le_of_ble_eq_true rfl) ⟨Nat.le_of_ble_eq_true rfl, Nat.le_of_ble_eq_true rfl⟩ dL_law_159 rfl ?_
              refine x_icmp_eq (tgt := 167) hc dL_law_162 rfl (fun c_162 => ?_) (fun c_162 => ?_)
              · replace hf := if_p hf c_162
                refine x_aload hc 4 dL_law_167 rfl ?_
                obtain ⟨x43, r44, hf⟩ := bj1_ok hf
                refine x_callSr (As := [.ref (kad K 249)]) (v := (.int x43)) hc (c_L_ticks (kl K) (kV K) 249 G40 x43 (aok_l (p := 249) k_nl rfl rfl (by decide)) r44) mw_L_ticks tw_753 rfl (Nat.le_of_ble_eq_true rfl) ⟨Nat.le_of_ble_eq_true rfl, Nat.le_of_ble_eq_true rfl⟩ dL_law_169 rfl ?_
                refine x_istore (L' := [(0, .ref (vSB (kV K))), (1, .ref (kad K 0)), (2, .ref (kad K 124)), (3, .ref (kad K 248)), (4, .ref (kad K 249)), (5, .ref (kad K 250)), (6, .int x43)]) hc [1, 2, 3, 4, 5, 6, 0] dL_law_172 (by decide) rfl ?_
                refine x_sipush (v := 200) hc rfl dL_law_174 ?_
                refine x_istore (L' := [(0, .ref (vSB (kV K))), (1, .ref (kad K 0)), (2, .ref (kad K 124)), (3, .ref (kad K 248)), (4, .ref (kad K 249)), (5, .ref (kad K 250)), (6, .int x43), (7, .int 200)]) hc [1, 2, 3, 4, 5, 6, 7, 0] dL_law_177 (by decide) rfl ?_
                refine x_iconst (v := 0) hc rfl dL_law_179 ?_
                refine x_istore (L' := [(0, .ref (vSB (kV K))), (1, .ref (kad K 0)), (2, .ref (kad K 124)), (3, .ref (kad K 248)), (4, .ref (kad K 249)), (5, .ref (kad K 250)), (6, .int x43), (7, .int 200), (8, .int 0)]) hc [1, 2, 3, 4, 5, 6, 7, 8, 0] dL_law_180 (by decide) rfl ?_
                obtain ⟨x53, hl_182, hf⟩ := bj1_ok hf
                have he_233_n47 : X K 233 [(0, .ref (vSB (kV K))), (1, .ref (kad K 0)), (2, .ref (kad K 124)), (3, .ref (kad K 248)), (4, .ref (kad K 249)), (5, .ref (kad K 250)), (6, .int x43), (7, .int x53)] [] G40 := by
                  clear hl_182
                  refine x_bipush (v := 10) hc rfl dL_law_233 ?_
                  refine x_aload_n hc 3 dL_law_235 rfl rfl ?_
                  refine x_iconst (v := 1) hc rfl dL_law_236 ?_
                  obtain ⟨h54, hf⟩ := chk_ok hf
                  refine x_ialoadA (p0 := 248) hc (aok_l (p := 248) k_nl rfl rfl (by decide)) h54 dL_law_237 ?_
                  refine x_imul hc dL_law_238 ?_
                  refine x_iload hc 7 dL_law_239 rfl ?_
                  obtain ⟨x57, hr, hf⟩ := bj1_ok hf
                  have hj_255_55 : X K 255 [(0, .ref (vSB (kV K))), (1, .ref (kad K 0)), (2, .ref (kad K 124)), (3, .ref (kad K 248)), (4, .ref (kad K 249)), (5, .ref (kad K 250)), (6, .int x43)] [.int x57] G40 := by
                    clear hr
                    refine x_istore (L' := [(0, .ref (vSB (kV K))), (1, .ref (kad K 0)), (2, .ref (kad K 124)), (3, .ref (kad K 248)), (4, .ref (kad K 249)), (5, .ref (kad K 250)), (6, .int x43), (7, .int x57)]) hc [1, 2, 3, 4, 5, 6, 7, 0] dL_law_255 (by decide) rfl ?_
                    cases hf
                    exact x_sub [0, 1, 2, 3, 4, 5, 6, 7] hk rfl
                  replace hf := hr
                  clear hr
                  refine x_icmp_le (tgt := 253) hc dL_law_241 rfl (fun c_241 => ?_) (fun c_241 => ?_)
                  · replace hf := if_p hf c_241
                    refine x_iload hc 7 dL_law_253 rfl ?_
                    cases hf
                    exact x_sub [0, 1, 2, 3, 4, 5, 6] hj_255_55 rfl
                  · replace hf := if_n hf c_241
                    refine x_bipush (v := 10) hc rfl dL_law_244 ?_
                    refine x_aload_n hc 3 dL_law_246 rfl rfl ?_
                    refine x_iconst (v := 1) hc rfl dL_law_247 ?_
                    obtain ⟨h56, hf⟩ := chk_ok hf
                    refine x_ialoadA (p0 := 248) hc (aok_l (p := 248) k_nl rfl rfl (by decide)) h56 dL_law_248 ?_
                    refine x_imul hc dL_law_249 ?_
                    refine x_goto (tgt := 255) hc dL_law_250 rfl ?_
                    cases hf
                    exact x_sub [0, 1, 2, 3, 4, 5, 6] hj_255_55 rfl
                exact x_sub [0, 1, 2, 3, 4, 5, 6, 7, 8] (c_L_law_l182_47 x43 G40 hc k_nl FU 200 0 x53 hl_182 he_233_n47) rfl
              · replace hf := if_n hf c_162
                cases hf
  exact x_sub [0, 1, 2, 3, 4, 5, 6] (c_L_law_l68_12  hc k_nl FU 0 G9 G17 hl_68 he_99_n12) rfl
def f_L_law_l272_3 (u6 : Int32) (u7 : Int32) : Nat → Int32 → G_ → Option (G_)
  | 0, _, _ => none
  | n3 + 1, v1, G2 =>
    chk (inb 0 8) <|
    if G2.1 248 (ix 0) ≤ v1 then (
      some (G2))
    else (
      chk (inb v1 24) <|
      nm (sI G2 252 (ix v1) 100) fun G6 =>
      f_L_law_l272_3 u6 u7 n3 (v1 + 1) G6)
def f_L_law_l335_21 (u6 : Int32) (u7 : Int32) (v8 : Int32) (v9 : Int32) : Nat → Int32 → G_ → Option (G_)
  | 0, _, _ => none
  | n21 + 1, v19, G20 =>
    chk (inb 0 8) <|
    if G20.1 248 (ix 0) ≤ v19 then (
      some (G20))
    else (
      bj2 (f_X7_depth v19 0 G20) fun x24 G23 =>
      bj1 (f_L_tells x24 G23) fun x26 =>
      bj2 (f_X7_depth v19 1 G23) fun x29 G28 =>
      bj1 (f_L_tells x29 G28) fun x31 =>
      bj2 (f_X7_depth v19 2 G28) fun x34 G33 =>
      bj1 (f_L_tells x34 G33) fun x36 =>
      chk (inb 0 8) <|
      bj2 (f_X7_depth (((G33.1 248 (ix 0)) - 1) - v19) 0 (swG G33)) fun x40 G39 =>
      nm (swG G39) fun G42 =>
      bj1 (f_L_tells x40 (swG G42)) fun x43 =>
      bj2 (
        if x26 = x43 then (
          chk (inb 0 8) <|
          bj2 (f_X7_depth (((G42.1 248 (ix 0)) - 1) - v19) 1 (swG G42)) fun x48 G47 =>
          nm (swG G47) fun G50 =>
          bj1 (f_L_tells x48 (swG G50)) fun x51 =>
          if x31 = x51 then (
            chk (inb 0 8) <|
            bj2 (f_X7_depth (((G50.1 248 (ix 0)) - 1) - v19) 2 (swG G50)) fun x55 G54 =>
            nm (swG G54) fun G57 =>
            bj1 (f_L_tells x55 (swG G57)) fun x58 =>
            if x36 = x58 then (
              some (1, G57))
            else (
              some (0, G57)))
          else (
            some (0, G50)))
        else (
          some (0, G42))) fun (x60 : Int32) (G61 : G_) =>
      if x60 = 0 then (
        none)
      else (
        if u7 < x26 then (
          none)
        else (
          if x26 < 0 then (
            none)
          else (
            if x31 < x26 then (
              none)
            else (
              chk (inb v19 24) <|
              if x31 < G61.1 251 (ix v19) then (
                none)
              else (
                chk (inb v19 24) <|
                if G61.1 252 (ix v19) < x36 then (
                  none)
                else (
                  if 0 ≤ x36 then (
                    chk (inb v19 24) <|
                    nm (sI G61 251 (ix v19) x31) fun G65 =>
                    chk (inb v19 24) <|
                    nm (sI G65 252 (ix v19) x36) fun G67 =>
                    f_L_law_l335_21 u6 u7 v8 v9 n21 (v19 + 1) G67)
                  else (
                    none))))))))
def f_L_law_l299_11 (u6 : Int32) (u7 : Int32) : Nat → Int32 → Int32 → G_ → Option (G_)
  | 0, _, _, _ => none
  | n11 + 1, v8, v9, G10 =>
    if u6 ≤ v9 then (
      some (G10))
    else (
      bj2 (f_X7_go 1 G10) fun x13 G12 =>
      if x13 = v9 + 1 then (
        bj2 (f_X7_go 1 (swG G12)) fun x16 G15 =>
        nm (swG G15) fun G18 =>
        if x16 = v9 + 1 then (
          bj1 (f_L_law_l335_21 u6 u7 v8 v9 FU 0 G18) fun G68 =>
          bj2 (f_X7_skin 0 2 G68) fun x70 G69 =>
          bj1 (f_L_tells x70 G69) fun x72 =>
          bj2 (f_X7_skin 1 2 G69) fun x75 G74 =>
          bj1 (f_L_tells x75 G74) fun x77 =>
          if x72 + x77 < v8 then (
            none)
          else (
            bj2 (f_X7_skin 0 0 G74) fun x80 G79 =>
            bj1 (f_L_tells x80 G79) fun x82 =>
            bj2 (f_X7_skin 1 0 (swG G79)) fun x85 G84 =>
            nm (swG G84) fun G87 =>
            bj1 (f_L_tells x85 (swG G87)) fun x88 =>
            if x82 = x88 then (
              bj2 (f_X7_skin 1 1 G87) fun x91 G90 =>
              bj1 (f_L_tells x91 G90) fun x93 =>
              bj2 (f_X7_skin 0 1 (swG G90)) fun x96 G95 =>
              nm (swG G95) fun G98 =>
              bj1 (f_L_tells x96 (swG G98)) fun x99 =>
              if x93 = x99 then (
                bj2 (f_X7_skin 0 2 G98) fun x102 G101 =>
                bj1 (f_L_tells x102 G101) fun x104 =>
                bj2 (f_X7_skin 1 2 (swG G101)) fun x107 G106 =>
                nm (swG G106) fun G109 =>
                bj1 (f_L_tells x107 (swG G109)) fun x110 =>
                if x104 = x110 then (
                  bj2 (f_X7_skin 0 3 G109) fun x113 G112 =>
                  bj1 (f_L_tells x113 G112) fun x115 =>
                  bj2 (f_X7_skin 0 3 (swG G112)) fun x118 G117 =>
                  nm (swG G117) fun G120 =>
                  bj1 (f_L_tells x118 (swG G120)) fun x121 =>
                  if x115 = x121 then (
                    none)
                  else (
                    f_L_law_l299_11 u6 u7 n11 (x72 + x77) (v9 + 1) G120))
                else (
                  none))
              else (
                none))
            else (
              none)))
        else (
          none))
      else (
        none))
def f_L_lawC (sl : Nat) (xs : Nat → Int32) (u6 : Int32) (u7 : Int32) (G : G_) : Option (Int64 × G_) :=
  bj1 (f_L_law_l272_3 u6 u7 FU 0 G) fun G7 =>
  bj1 (f_L_law_l299_11 u6 u7 FU 0 0 G7) fun G123 =>
  bj2 (f_X7_plan 0 3 (swG G123)) fun x125 G124 =>
  nm (swG G124) fun G127 =>
  chk (inb 0 40) <|
  if x125 = G127.1 250 (ix 0) then (
    bj2 (f_L_plan 0 249 (swG G127)) fun x130 G129 =>
    nm (swG G129) fun G132 =>
    if x130 = 0 then (
      none)
    else (
      bj2 (f_X7_dish 0 0 (swG G132)) fun x134 G133 =>
      nm (swG G133) fun G136 =>
      if x134 = u6 then (
        bj2 (f_X7_go u6 (swG G136)) fun x138 G137 =>
        nm (swG G137) fun G140 =>
        if x138 = u6 then (
          bj2 (f_X7_slice 0 (swG G140)) fun x142 G141 =>
          nm (swG G141) fun G144 =>
          bj2 (f_X7_slice 0 G144) fun x146 G145 =>
          if x142 = x146 then (
            bj2 (f_X7_just 0 4000 (swG G145)) fun x149 G148 =>
            nm (swG G148) fun G151 =>
            chk (inb 0 8) <|
            if x149 = G151.1 248 (ix 0) then (
              bj1 (f_X7_asked (swG G151)) fun x153 =>
              bj2 (f_X7_just 0 4000 G151) fun x156 G155 =>
              chk (inb 0 8) <|
              if x156 = G155.1 248 (ix 0) then (
                bj1 (f_X7_asked G155) fun x159 =>
                if x159 = x153 then (
                  bj2 (f_X7_which 0 G155) fun x162 G161 =>
                  if x162 = 0 then (
                    bj1 (f_X7_asked G161) fun x164 =>
                    if x164 = 0 then (
                      bj2 (f_X7_odds 0 0 G161) fun x167 G166 =>
                      if x167 = 1 then (
                        bj1 (f_X7_upper G166) fun w169 =>
                        if lg_cmp w169 1 = 0 then (
                          bj1 (f_X7_digest G166) fun w171 =>
                          bj2 (f_X7_cut 7 G166) fun x174 G173 =>
                          bj1 (f_X7_asked G173) fun x176 =>
                          bj2 (f_X7_rest 0 0 G173) fun x179 G178 =>
                          bj1 (f_X7_asked G178) fun x181 =>
                          bj2 (f_X7_rise G178) fun x184 G183 =>
                          if x174 < 0 then (
                            none)
                          else (
                            if x153 < x174 then (
                              none)
                            else (
                              if x176 < 0 then (
                                none)
                              else (
                                if x184 < 0 then (
                                  none)
                                else (
                                  if x179 < 0 then (
                                    none)
                                  else (
                                    if 30 < x179 then (
                                      none)
                                    else (
                                      if x174 < x181 then (
                                        none)
                                      else (
                                        bj1 (
                                          if x179 = 0 then (
                                            if x181 = x174 then (
                                              some ())
                                            else (
                                              none))
                                          else (
                                            some ())) fun _ =>
                                        bj1 (f_X7_digest G183) fun w187 =>
                                        if lg_cmp w187 w171 = 0 then (
                                          chk (inb 0 40) <|
                                          chk (inb (1 + (3 * ((G183.1 249 (ix 0)) - 1))) 40) <|
                                          bj1 (
                                            if 5 ≤ G183.1 249 (ix (1 + (3 * ((G183.1 249 (ix 0)) - 1)))) then (
                                              some ())
                                            else (
                                              if x181 ≤ x176 then (
                                                some ())
                                              else (
                                                none))) fun _ =>
                                          bj2 (f_L_ways sl xs 248 G183) fun x193 G192 =>
                                          if x193 = 0 then (
                                            none)
                                          else (
                                            some (w171, G192)))
                                        else (
                                          none)))))))))
                        else (
                          none))
                      else (
                        none))
                    else (
                      none))
                  else (
                    none))
                else (
                  none))
              else (
                none))
            else (
              none))
          else (
            none))
        else (
          none))
      else (
        none)))
  else (
    none)
set_option maxHeartbeats 4000000 in
set_option maxRecDepth 100000 in
theorem c_L_law_l272_3 {K : CT} {Ts : List Cond} (u6 : Int32) (u7 : Int32) (hc : Ok K cL_law RL Ts ret 10 398 19) (k_nl : vNL (kV K) = 5) : ∀ (n3 : Nat) (v1 : Int32) (G2 : G_) (G7 : G_), f_L_law_l272_3 u6 u7 n3 v1 G2 = some (G7) → X K 293 [(0, .ref (vSB (kV K))), (1, .ref (kad K 0)), (2, .ref (kad K 124)), (3, .ref (kad K 248)), (4, .ref (kad K 249)), (5, .ref (kad K 250)), (6, .int u6), (7, .int u7), (8, .ref (kad K 251)), (9, .ref (kad K 252))] [] G7 → X K 272 [(0, .ref (vSB (kV K))), (1, .ref (kad K 0)), (2, .ref (kad K 124)), (3, .ref (kad K 248)), (4, .ref (kad K 249)), (5, .ref (kad K 250)), (6, .int u6), (7, .int u7), (8, .ref (kad K 251)), (9, .ref (kad K 252)), (10, .int v1)] [] G2 := by
  intro n3
  induction n3 with
  | zero =>
    intro v1 G2 G7 hf hk
    cases hf
  | succ n3 ih =>
    intro v1 G2 G7 hf hk
    unfold f_L_law_l272_3 at hf
    refine x_iload hc 10 dL_law_272 rfl ?_
    refine x_aload_n hc 3 dL_law_274 rfl rfl ?_
    refine x_iconst (v := 0) hc rfl dL_law_275 ?_
    obtain ⟨h4, hf⟩ := chk_ok hf
    refine x_ialoadA (p0 := 248) hc (aok_l (p := 248) k_nl rfl rfl (by decide)) h4 dL_law_276 ?_
    refine x_icmp_ge (tgt := 293) hc dL_law_277 rfl (fun c_277 => ?_) (fun c_277 => ?_)
    · replace hf := if_p hf c_277
      cases hf
      exact x_sub [0, 1, 2, 3, 4, 5, 6, 7, 8, 9] hk rfl
    · replace hf := if_n hf c_277
      refine x_aload hc 9 dL_law_280 rfl ?_
      refine x_iload hc 10 dL_law_282 rfl ?_
      refine x_bipush (v := 100) hc rfl dL_law_284 ?_
      obtain ⟨h5, hf⟩ := chk_ok hf
      refine x_iastoreA (p0 := 252) hc (aok_l (p := 252) k_nl rfl rfl (by decide)) h5 dL_law_286 ?_
      refine x_nmg (fun G6 e_G6 => ?_)
      replace hf := nm_ok hf G6 e_G6
      refine x_iinc (v := v1 + 1) (L' := [(0, .ref (vSB (kV K))), (1, .ref (kad K 0)), (2, .ref (kad K 124)), (3, .ref (kad K 248)), (4, .ref (kad K 249)), (5, .ref (kad K 250)), (6, .int u6), (7, .int u7), (8, .ref (kad K 251)), (9, .ref (kad K 252)), (10, .int (v1 + 1))]) hc 10 [1, 2, 3, 4, 5, 6, 7, 8, 9, 10, 0] dL_law_287 rfl rfl (by decide) rfl ?_
      refine x_goto (tgt := 272) hc dL_law_290 rfl ?_
      exact x_sub [0, 1, 2, 3, 4, 5, 6, 7, 8, 9, 10] (ih _ _ _ hf hk) rfl
set_option maxHeartbeats 4000000 in
set_option maxRecDepth 100000 in
theorem c_L_law_l335_21 {K : CT} {Ts : List Cond} (u6 : Int32) (u7 : Int32) (v8 : Int32) (v9 : Int32) (hc : Ok K cL_law RL Ts ret 10 398 19) (k_nl : vNL (kV K) = 5) : ∀ (n21 : Nat) (v19 : Int32) (G20 : G_) (G68 : G_), f_L_law_l335_21 u6 u7 v8 v9 n21 v19 G20 = some (G68) → X K 526 [(0, .ref (vSB (kV K))), (1, .ref (kad K 0)), (2, .ref (kad K 124)), (3, .ref (kad K 248)), (4, .ref (kad K 249)), (5, .ref (kad K 250)), (6, .int u6), (7, .int u7), (8, .ref (kad K 251)), (9, .ref (kad K 252)), (10, .int v8), (11, .int v9)] [] G68 → X K 335 [(0, .ref (vSB (kV K))), (1, .ref (kad K 0)), (2, .ref (kad K 124)), (3, .ref (kad K 248)), (4, .ref (kad K 249)), (5, .ref (kad K 250)), (6, .int u6), (7, .int u7), (8, .ref (kad K 251)), (9, .ref (kad K 252)), (10, .int v8), (11, .int v9), (12, .int v19)] [] G20 := by
  intro n21
  induction n21 with
  | zero =>
    intro v19 G20 G68 hf hk
    cases hf
  | succ n21 ih =>
    intro v19 G20 G68 hf hk
    unfold f_L_law_l335_21 at hf
    refine x_iload hc 12 dL_law_335 rfl ?_
    refine x_aload_n hc 3 dL_law_337 rfl rfl ?_
    refine x_iconst (v := 0) hc rfl dL_law_338 ?_
    obtain ⟨h22, hf⟩ := chk_ok hf
    refine x_ialoadA (p0 := 248) hc (aok_l (p := 248) k_nl rfl rfl (by decide)) h22 dL_law_339 ?_
    refine x_icmp_ge (tgt := 526) hc dL_law_340 rfl (fun c_340 => ?_) (fun c_340 => ?_)
    · replace hf := if_p hf c_340
      cases hf
      exact x_sub [0, 1, 2, 3, 4, 5, 6, 7, 8, 9, 10, 11] hk rfl
    · replace hf := if_n hf c_340
      refine x_aload_n hc 1 dL_law_343 rfl rfl ?_
      refine x_aload_n hc 1 dL_law_344 rfl rfl ?_
      refine x_iload hc 12 dL_law_345 rfl ?_
      refine x_iconst (v := 0) hc rfl dL_law_347 ?_
      obtain ⟨x24, G23, r25, hf⟩ := bj2_ok hf
      refine x_callVr (As := [.int v19, .int 0]) (p0 := 0) (v := (.int x24)) (T := TX7) hc (c_X7_depth (kl K) (kV K) v19 0 G20 x24 G23 r25) mw_X7_depth tw_433 (rfl : kd 0 = 7) (by decide) rfl rfl (Nat.le_of_ble_eq_true rfl) ⟨Nat.le_of_ble_eq_true rfl, Nat.le_of_ble_eq_true rfl⟩ dL_law_348 rfl ?_
      obtain ⟨x26, r27, hf⟩ := bj1_ok hf
      refine x_callSr (As := [.ref (kad K 0), .int x24]) (v := (.int x26)) hc (c_L_tells (kl K) (kV K) x24 G23 x26 r27) mw_L_tells tw_756 rfl (Nat.le_of_ble_eq_true rfl) ⟨Nat.le_of_ble_eq_true rfl, Nat.le_of_ble_eq_true rfl⟩ dL_law_351 rfl ?_
      refine x_istore (L' := [(0, .ref (vSB (kV K))), (1, .ref (kad K 0)), (2, .ref (kad K 124)), (3, .ref (kad K 248)), (4, .ref (kad K 249)), (5, .ref (kad K 250)), (6, .int u6), (7, .int u7), (8, .ref (kad K 251)), (9, .ref (kad K 252)), (10, .int v8), (11, .int v9), (12, .int v19), (13, .int x26)]) hc [1, 2, 3, 4, 5, 6, 7, 8, 9, 10, 11, 12, 13, 0] dL_law_354 (by decide) rfl ?_
      refine x_aload_n hc 1 dL_law_356 rfl rfl ?_
      refine x_aload_n hc 1 dL_law_357 rfl rfl ?_
      refine x_iload hc 12 dL_law_358 rfl ?_
      refine x_iconst (v := 1) hc rfl dL_law_360 ?_
      obtain ⟨x29, G28, r30, hf⟩ := bj2_ok hf
      refine x_callVr (As := [.int v19, .int 1]) (p0 := 0) (v := (.int x29)) (T := TX7) hc (c_X7_depth (kl K) (kV K) v19 1 G23 x29 G28 r30) mw_X7_depth tw_433 (rfl : kd 0 = 7) (by decide) rfl rfl (Nat.le_of_ble_eq_true rfl) ⟨Nat.le_of_ble_eq_true rfl, Nat.le_of_ble_eq_true rfl⟩ dL_law_361 rfl ?_
      obtain ⟨x31, r32, hf⟩ := bj1_ok hf
      refine x_callSr (As := [.ref (kad K 0), .int x29]) (v := (.int x31)) hc (c_L_tells (kl K) (kV K) x29 G28 x31 r32) mw_L_tells tw_756 rfl (Nat.le_of_ble_eq_true rfl) ⟨Nat.le_of_ble_eq_true rfl, Nat.le_of_ble_eq_true rfl⟩ dL_law_364 rfl ?_
      refine x_istore (L' := [(0, .ref (vSB (kV K))), (1, .ref (kad K 0)), (2, .ref (kad K 124)), (3, .ref (kad K 248)), (4, .ref (kad K 249)), (5, .ref (kad K 250)), (6, .int u6), (7, .int u7), (8, .ref (kad K 251)), (9, .ref (kad K 252)), (10, .int v8), (11, .int v9), (12, .int v19), (13, .int x26), (14, .int x31)]) hc [1, 2, 3, 4, 5, 6, 7, 8, 9, 10, 11, 12, 13, 14, 0] dL_law_367 (by decide) rfl ?_
      refine x_aload_n hc 1 dL_law_369 rfl rfl ?_
      refine x_aload_n hc 1 dL_law_370 rfl rfl ?_
      refine x_iload hc 12 dL_law_371 rfl ?_
      refine x_iconst (v := 2) hc rfl dL_law_373 ?_
      obtain ⟨x34, G33, r35, hf⟩ := bj2_ok hf
      refine x_callVr (As := [.int v19, .int 2]) (p0 := 0) (v := (.int x34)) (T := TX7) hc (c_X7_depth (kl K) (kV K) v19 2 G28 x34 G33 r35) mw_X7_depth tw_433 (rfl : kd 0 = 7) (by decide) rfl rfl (Nat.le_of_ble_eq_true rfl) ⟨Nat.le_of_ble_eq_true rfl, Nat.le_of_ble_eq_true rfl⟩ dL_law_374 rfl ?_
      obtain ⟨x36, r37, hf⟩ := bj1_ok hf
      refine x_callSr (As := [.ref (kad K 0), .int x34]) (v := (.int x36)) hc (c_L_tells (kl K) (kV K) x34 G33 x36 r37) mw_L_tells tw_756 rfl (Nat.le_of_ble_eq_true rfl) ⟨Nat.le_of_ble_eq_true rfl, Nat.le_of_ble_eq_true rfl⟩ dL_law_377 rfl ?_
      refine x_istore (L' := [(0, .ref (vSB (kV K))), (1, .ref (kad K 0)), (2, .ref (kad K 124)), (3, .ref (kad K 248)), (4, .ref (kad K 249)), (5, .ref (kad K 250)), (6, .int u6), (7, .int u7), (8, .ref (kad K 251)), (9, .ref (kad K 252)), (10, .int v8), (11, .int v9), (12, .int v19), (13, .int x26), (14, .int x31), (15, .int x36)]) hc [1, 2, 3, 4, 5, 6, 7, 8, 9, 10, 11, 12, 13, 14, 15, 0] dL_law_380 (by decide) rfl ?_
      refine x_iload hc 13 dL_law_382 rfl ?_
      refine x_aload_n hc 2 dL_law_384 rfl rfl ?_
      refine x_aload_n hc 2 dL_law_385 rfl rfl ?_
      refine x_aload_n hc 3 dL_law_386 rfl rfl ?_
      refine x_iconst (v := 0) hc rfl dL_law_387 ?_
      obtain ⟨h38, hf⟩ := chk_ok hf
      refine x_ialoadA (p0 := 248) hc (aok_l (p := 248) k_nl rfl rfl (by decide)) h38 dL_law_388 ?_
      refine x_iconst (v := 1) hc rfl dL_law_389 ?_
      refine x_isub hc dL_law_390 ?_
      refine x_iload hc 12 dL_law_391 rfl ?_
      refine x_isub hc dL_law_393 ?_
      refine x_iconst (v := 0) hc rfl dL_law_394 ?_
      obtain ⟨x40, G39, r41, hf⟩ := bj2_ok hf
      refine x_callVr (As := [.int (((G33.1 248 (ix 0)) - 1) - v19), .int 0]) (p0 := 124) (v := (.int x40)) (T := TX7) hc (mc_sw (c_X7_depth (kl K) (swV (kV K)) (((G33.1 248 (ix 0)) - 1) - v19) 0 (swG G33) x40 G39 r41)) mw_X7_depth tw_433 (rfl : kd 124 = 7) (by decide) rfl rfl (Nat.le_of_ble_eq_true rfl) ⟨Nat.le_of_ble_eq_true rfl, Nat.le_of_ble_eq_true rfl⟩ dL_law_395 rfl ?_
      refine x_nmg (fun G42 e_G42 => ?_)
      replace hf := nm_ok hf G42 e_G42
      obtain ⟨x43, r44, hf⟩ := bj1_ok hf
      refine x_callSr (As := [.ref (kad K 124), .int x40]) (v := (.int x43)) hc (mc_swp (c_L_tells (kl K) (swV (kV K)) x40 (swG G42) x43 r44)) mw_L_tells tw_756 rfl (Nat.le_of_ble_eq_true rfl) ⟨Nat.le_of_ble_eq_true rfl, Nat.le_of_ble_eq_true rfl⟩ dL_law_398 rfl ?_
      obtain ⟨x60, G61, hr, hf⟩ := bj2_ok hf
      have hj_453_45 : X K 453 [(0, .ref (vSB (kV K))), (1, .ref (kad K 0)), (2, .ref (kad K 124)), (3, .ref (kad K 248)), (4, .ref (kad K 249)), (5, .ref (kad K 250)), (6, .int u6), (7, .int u7), (8, .ref (kad K 251)), (9, .ref (kad K 252)), (10, .int v8), (11, .int v9), (12, .int v19), (13, .int x26), (14, .int x31), (15, .int x36)] [.int x60] G61 := by
        clear hr
        refine x_istore (L' := [(0, .ref (vSB (kV K))), (1, .ref (kad K 0)), (2, .ref (kad K 124)), (3, .ref (kad K 248)), (4, .ref (kad K 249)), (5, .ref (kad K 250)), (6, .int u6), (7, .int u7), (8, .ref (kad K 251)), (9, .ref (kad K 252)), (10, .int v8), (11, .int v9), (12, .int v19), (13, .int x26), (14, .int x31), (15, .int x36), (16, .int x60)]) hc [1, 2, 3, 4, 5, 6, 7, 8, 9, 10, 11, 12, 13, 14, 15, 16, 0] dL_law_453 (by decide) rfl ?_
        refine x_iload hc 16 dL_law_455 rfl ?_
        refine x_if_eq (tgt := 504) hc dL_law_457 rfl (fun c_457 => ?_) (fun c_457 => ?_)
        · replace hf := if_p hf c_457
          cases hf
        · replace hf := if_n hf c_457
          refine x_iload hc 13 dL_law_460 rfl ?_
          refine x_iload hc 7 dL_law_462 rfl ?_
          refine x_icmp_gt (tgt := 504) hc dL_law_464 rfl (fun c_464 => ?_) (fun c_464 => ?_)
          · replace hf := if_p hf c_464
            cases hf
          · replace hf := if_n hf c_464
            refine x_iload hc 13 dL_law_467 rfl ?_
            refine x_if_lt (tgt := 504) hc dL_law_469 rfl (fun c_469 => ?_) (fun c_469 => ?_)
            · replace hf := if_p hf c_469
              cases hf
            · replace hf := if_n hf c_469
              refine x_iload hc 14 dL_law_472 rfl ?_
              refine x_iload hc 13 dL_law_474 rfl ?_
              refine x_icmp_lt (tgt := 504) hc dL_law_476 rfl (fun c_476 => ?_) (fun c_476 => ?_)
              · replace hf := if_p hf c_476
                cases hf
              · replace hf := if_n hf c_476
                refine x_iload hc 14 dL_law_479 rfl ?_
                refine x_aload hc 8 dL_law_481 rfl ?_
                refine x_iload hc 12 dL_law_483 rfl ?_
                obtain ⟨h62, hf⟩ := chk_ok hf
                refine x_ialoadA (p0 := 251) hc (aok_l (p := 251) k_nl rfl rfl (by decide)) h62 dL_law_485 ?_
                refine x_icmp_lt (tgt := 504) hc dL_law_486 rfl (fun c_486 => ?_) (fun c_486 => ?_)
                · replace hf := if_p hf c_486
                  cases hf
                · replace hf := if_n hf c_486
                  refine x_iload hc 15 dL_law_489 rfl ?_
                  refine x_aload hc 9 dL_law_491 rfl ?_
                  refine x_iload hc 12 dL_law_493 rfl ?_
                  obtain ⟨h63, hf⟩ := chk_ok hf
                  refine x_ialoadA (p0 := 252) hc (aok_l (p := 252) k_nl rfl rfl (by decide)) h63 dL_law_495 ?_
                  refine x_icmp_gt (tgt := 504) hc dL_law_496 rfl (fun c_496 => ?_) (fun c_496 => ?_)
                  · replace hf := if_p hf c_496
                    cases hf
                  · replace hf := if_n hf c_496
                    refine x_iload hc 15 dL_law_499 rfl ?_
                    refine x_if_ge (tgt := 506) hc dL_law_501 rfl (fun c_501 => ?_) (fun c_501 => ?_)
                    · replace hf := if_p hf c_501
                      refine x_aload hc 8 dL_law_506 rfl ?_
                      refine x_iload hc 12 dL_law_508 rfl ?_
                      refine x_iload hc 14 dL_law_510 rfl ?_
                      obtain ⟨h64, hf⟩ := chk_ok hf
                      refine x_iastoreA (p0 := 251) hc (aok_l (p := 251) k_nl rfl rfl (by decide)) h64 dL_law_512 ?_
                      refine x_nmg (fun G65 e_G65 => ?_)
                      replace hf := nm_ok hf G65 e_G65
                      refine x_aload hc 9 dL_law_513 rfl ?_
                      refine x_iload hc 12 dL_law_515 rfl ?_
                      refine x_iload hc 15 dL_law_517 rfl ?_
                      obtain ⟨h66, hf⟩ := chk_ok hf
                      refine x_iastoreA (p0 := 252) hc (aok_l (p := 252) k_nl rfl rfl (by decide)) h66 dL_law_519 ?_
                      refine x_nmg (fun G67 e_G67 => ?_)
                      replace hf := nm_ok hf G67 e_G67
                      refine x_iinc (v := v19 + 1) (L' := [(0, .ref (vSB (kV K))), (1, .ref (kad K 0)), (2, .ref (kad K 124)), (3, .ref (kad K 248)), (4, .ref (kad K 249)), (5, .ref (kad K 250)), (6, .int u6), (7, .int u7), (8, .ref (kad K 251)), (9, .ref (kad K 252)), (10, .int v8), (11, .int v9), (12, .int (v19 + 1))]) hc 12 [1, 2, 3, 4, 5, 6, 7, 8, 9, 10, 11, 12, 0] dL_law_520 rfl rfl (by decide) rfl ?_
                      refine x_goto (tgt := 335) hc dL_law_523 rfl ?_
                      exact x_sub [0, 1, 2, 3, 4, 5, 6, 7, 8, 9, 10, 11, 12] (ih _ _ _ hf hk) rfl
                    · replace hf := if_n hf c_501
                      cases hf
      replace hf := hr
      clear hr
      refine x_icmp_ne (tgt := 452) hc dL_law_401 rfl (fun c_401 => ?_) (fun c_401 => ?_)
      · replace hf := if_n hf c_401
        refine x_iconst (v := 0) hc rfl dL_law_452 ?_
        cases hf
        exact x_sub [0, 1, 2, 3, 4, 5, 6, 7, 8, 9, 10, 11, 12, 13, 14, 15] hj_453_45 rfl
      · replace hf := if_p hf c_401
        refine x_iload hc 14 dL_law_404 rfl ?_
        refine x_aload_n hc 2 dL_law_406 rfl rfl ?_
        refine x_aload_n hc 2 dL_law_407 rfl rfl ?_
        refine x_aload_n hc 3 dL_law_408 rfl rfl ?_
        refine x_iconst (v := 0) hc rfl dL_law_409 ?_
        obtain ⟨h46, hf⟩ := chk_ok hf
        refine x_ialoadA (p0 := 248) hc (aok_l (p := 248) k_nl rfl rfl (by decide)) h46 dL_law_410 ?_
        refine x_iconst (v := 1) hc rfl dL_law_411 ?_
        refine x_isub hc dL_law_412 ?_
        refine x_iload hc 12 dL_law_413 rfl ?_
        refine x_isub hc dL_law_415 ?_
        refine x_iconst (v := 1) hc rfl dL_law_416 ?_
        obtain ⟨x48, G47, r49, hf⟩ := bj2_ok hf
        refine x_callVr (As := [.int (((G42.1 248 (ix 0)) - 1) - v19), .int 1]) (p0 := 124) (v := (.int x48)) (T := TX7) hc (mc_sw (c_X7_depth (kl K) (swV (kV K)) (((G42.1 248 (ix 0)) - 1) - v19) 1 (swG G42) x48 G47 r49)) mw_X7_depth tw_433 (rfl : kd 124 = 7) (by decide) rfl rfl (Nat.le_of_ble_eq_true rfl) ⟨Nat.le_of_ble_eq_true rfl, Nat.le_of_ble_eq_true rfl⟩ dL_law_417 rfl ?_
        refine x_nmg (fun G50 e_G50 => ?_)
        replace hf := nm_ok hf G50 e_G50
        obtain ⟨x51, r52, hf⟩ := bj1_ok hf
        refine x_callSr (As := [.ref (kad K 124), .int x48]) (v := (.int x51)) hc (mc_swp (c_L_tells (kl K) (swV (kV K)) x48 (swG G50) x51 r52)) mw_L_tells tw_756 rfl (Nat.le_of_ble_eq_true rfl) ⟨Nat.le_of_ble_eq_true rfl, Nat.le_of_ble_eq_true rfl⟩ dL_law_420 rfl ?_
        refine x_icmp_ne (tgt := 452) hc dL_law_423 rfl (fun c_423 => ?_) (fun c_423 => ?_)
        · replace hf := if_n hf c_423
          refine x_iconst (v := 0) hc rfl dL_law_452 ?_
          cases hf
          exact x_sub [0, 1, 2, 3, 4, 5, 6, 7, 8, 9, 10, 11, 12, 13, 14, 15] hj_453_45 rfl
        · replace hf := if_p hf c_423
          refine x_iload hc 15 dL_law_426 rfl ?_
          refine x_aload_n hc 2 dL_law_428 rfl rfl ?_
          refine x_aload_n hc 2 dL_law_429 rfl rfl ?_
          refine x_aload_n hc 3 dL_law_430 rfl rfl ?_
          refine x_iconst (v := 0) hc rfl dL_law_431 ?_
          obtain ⟨h53, hf⟩ := chk_ok hf
          refine x_ialoadA (p0 := 248) hc (aok_l (p := 248) k_nl rfl rfl (by decide)) h53 dL_law_432 ?_
          refine x_iconst (v := 1) hc rfl dL_law_433 ?_
          refine x_isub hc dL_law_434 ?_
          refine x_iload hc 12 dL_law_435 rfl ?_
          refine x_isub hc dL_law_437 ?_
          refine x_iconst (v := 2) hc rfl dL_law_438 ?_
          obtain ⟨x55, G54, r56, hf⟩ := bj2_ok hf
          refine x_callVr (As := [.int (((G50.1 248 (ix 0)) - 1) - v19), .int 2]) (p0 := 124) (v := (.int x55)) (T := TX7) hc (mc_sw (c_X7_depth (kl K) (swV (kV K)) (((G50.1 248 (ix 0)) - 1) - v19) 2 (swG G50) x55 G54 r56)) mw_X7_depth tw_433 (rfl : kd 124 = 7) (by decide) rfl rfl (Nat.le_of_ble_eq_true rfl) ⟨Nat.le_of_ble_eq_true rfl, Nat.le_of_ble_eq_true rfl⟩ dL_law_439 rfl ?_
          refine x_nmg (fun G57 e_G57 => ?_)
          replace hf := nm_ok hf G57 e_G57
          obtain ⟨x58, r59, hf⟩ := bj1_ok hf
          refine x_callSr (As := [.ref (kad K 124), .int x55]) (v := (.int x58)) hc (mc_swp (c_L_tells (kl K) (swV (kV K)) x55 (swG G57) x58 r59)) mw_L_tells tw_756 rfl (Nat.le_of_ble_eq_true rfl) ⟨Nat.le_of_ble_eq_true rfl, Nat.le_of_ble_eq_true rfl⟩ dL_law_442 rfl ?_
          refine x_icmp_ne (tgt := 452) hc dL_law_445 rfl (fun c_445 => ?_) (fun c_445 => ?_)
          · replace hf := if_n hf c_445
            refine x_iconst (v := 0) hc rfl dL_law_452 ?_
            cases hf
            exact x_sub [0, 1, 2, 3, 4, 5, 6, 7, 8, 9, 10, 11, 12, 13, 14, 15] hj_453_45 rfl
          · replace hf := if_p hf c_445
            refine x_iconst (v := 1) hc rfl dL_law_448 ?_
            refine x_goto (tgt := 453) hc dL_law_449 rfl ?_
            cases hf
            exact x_sub [0, 1, 2, 3, 4, 5, 6, 7, 8, 9, 10, 11, 12, 13, 14, 15] hj_453_45 rfl
set_option maxHeartbeats 4000000 in
set_option maxRecDepth 100000 in
theorem c_L_law_l299_11 {K : CT} {Ts : List Cond} (u6 : Int32) (u7 : Int32) (hc : Ok K cL_law RL Ts ret 10 398 19) (k_nl : vNL (kV K) = 5) : ∀ (n11 : Nat) (v8 : Int32) (v9 : Int32) (G10 : G_) (G123 : G_), f_L_law_l299_11 u6 u7 n11 v8 v9 G10 = some (G123) → X K 660 [(0, .ref (vSB (kV K))), (1, .ref (kad K 0)), (2, .ref (kad K 124)), (3, .ref (kad K 248)), (4, .ref (kad K 249)), (5, .ref (kad K 250)), (6, .int u6)] [] G123 → X K 299 [(0, .ref (vSB (kV K))), (1, .ref (kad K 0)), (2, .ref (kad K 124)), (3, .ref (kad K 248)), (4, .ref (kad K 249)), (5, .ref (kad K 250)), (6, .int u6), (7, .int u7), (8, .ref (kad K 251)), (9, .ref (kad K 252)), (10, .int v8), (11, .int v9)] [] G10 := by
  intro n11
  induction n11 with
  | zero =>
    intro v8 v9 G10 G123 hf hk
    cases hf
  | succ n11 ih =>
    intro v8 v9 G10 G123 hf hk
    unfold f_L_law_l299_11 at hf
    refine x_iload hc 11 dL_law_299 rfl ?_
    refine x_iload hc 6 dL_law_301 rfl ?_
    refine x_icmp_ge (tgt := 660) hc dL_law_303 rfl (fun c_303 => ?_) (fun c_303 => ?_)
    · replace hf := if_p hf c_303
      cases hf
      exact x_sub [0, 1, 2, 3, 4, 5, 6] hk rfl
    · replace hf := if_n hf c_303
      refine x_aload_n hc 1 dL_law_306 rfl rfl ?_
      refine x_iconst (v := 1) hc rfl dL_law_307 ?_
      obtain ⟨x13, G12, r14, hf⟩ := bj2_ok hf
      refine x_callVr (As := [.int 1]) (p0 := 0) (v := (.int x13)) (T := TX7) hc (c_X7_go (kl K) (kV K) 1 G10 x13 G12 r14) mw_X7_go tw_397 (rfl : kd 0 = 7) (by decide) rfl rfl (Nat.le_of_ble_eq_true rfl) ⟨Nat.le_of_ble_eq_true rfl, Nat.le_of_ble_eq_true rfl⟩ dL_law_308 rfl ?_
      refine x_iload hc 11 dL_law_311 rfl ?_
      refine x_iconst (v := 1) hc rfl dL_law_313 ?_
      refine x_iadd hc dL_law_314 ?_
      refine x_icmp_ne (tgt := 330) hc dL_law_315 rfl (fun c_315 => ?_) (fun c_315 => ?_)
      · replace hf := if_n hf c_315
        cases hf
      · replace hf := if_p hf c_315
        refine x_aload_n hc 2 dL_law_318 rfl rfl ?_
        refine x_iconst (v := 1) hc rfl dL_law_319 ?_
        obtain ⟨x16, G15, r17, hf⟩ := bj2_ok hf
        refine x_callVr (As := [.int 1]) (p0 := 124) (v := (.int x16)) (T := TX7) hc (mc_sw (c_X7_go (kl K) (swV (kV K)) 1 (swG G12) x16 G15 r17)) mw_X7_go tw_397 (rfl : kd 124 = 7) (by decide) rfl rfl (Nat.le_of_ble_eq_true rfl) ⟨Nat.le_of_ble_eq_true rfl, Nat.le_of_ble_eq_true rfl⟩ dL_law_320 rfl ?_
        refine x_nmg (fun G18 e_G18 => ?_)
        replace hf := nm_ok hf G18 e_G18
        refine x_iload hc 11 dL_law_323 rfl ?_
        refine x_iconst (v := 1) hc rfl dL_law_325 ?_
        refine x_iadd hc dL_law_326 ?_
        refine x_icmp_eq (tgt := 332) hc dL_law_327 rfl (fun c_327 => ?_) (fun c_327 => ?_)
        · replace hf := if_p hf c_327
          refine x_iconst (v := 0) hc rfl dL_law_332 ?_
          refine x_istore (L' := [(0, .ref (vSB (kV K))), (1, .ref (kad K 0)), (2, .ref (kad K 124)), (3, .ref (kad K 248)), (4, .ref (kad K 249)), (5, .ref (kad K 250)), (6, .int u6), (7, .int u7), (8, .ref (kad K 251)), (9, .ref (kad K 252)), (10, .int v8), (11, .int v9), (12, .int 0)]) hc [1, 2, 3, 4, 5, 6, 7, 8, 9, 10, 11, 12, 0] dL_law_333 (by decide) rfl ?_
          obtain ⟨G68, hl_335, hf⟩ := bj1_ok hf
          have he_526_n21 : X K 526 [(0, .ref (vSB (kV K))), (1, .ref (kad K 0)), (2, .ref (kad K 124)), (3, .ref (kad K 248)), (4, .ref (kad K 249)), (5, .ref (kad K 250)), (6, .int u6), (7, .int u7), (8, .ref (kad K 251)), (9, .ref (kad K 252)), (10, .int v8), (11, .int v9)] [] G68 := by
            clear hl_335
            refine x_aload_n hc 1 dL_law_526 rfl rfl ?_
            refine x_aload_n hc 1 dL_law_527 rfl rfl ?_
            refine x_iconst (v := 0) hc rfl dL_law_528 ?_
            refine x_iconst (v := 2) hc rfl dL_law_529 ?_
            obtain ⟨x70, G69, r71, hf⟩ := bj2_ok hf
            refine x_callVr (As := [.int 0, .int 2]) (p0 := 0) (v := (.int x70)) (T := TX7) hc (c_X7_skin (kl K) (kV K) 0 2 G68 x70 G69 r71) mw_X7_skin tw_461 (rfl : kd 0 = 7) (by decide) rfl rfl (Nat.le_of_ble_eq_true rfl) ⟨Nat.le_of_ble_eq_true rfl, Nat.le_of_ble_eq_true rfl⟩ dL_law_530 rfl ?_
            obtain ⟨x72, r73, hf⟩ := bj1_ok hf
            refine x_callSr (As := [.ref (kad K 0), .int x70]) (v := (.int x72)) hc (c_L_tells (kl K) (kV K) x70 G69 x72 r73) mw_L_tells tw_756 rfl (Nat.le_of_ble_eq_true rfl) ⟨Nat.le_of_ble_eq_true rfl, Nat.le_of_ble_eq_true rfl⟩ dL_law_533 rfl ?_
            refine x_aload_n hc 1 dL_law_536 rfl rfl ?_
            refine x_aload_n hc 1 dL_law_537 rfl rfl ?_
            refine x_iconst (v := 1) hc rfl dL_law_538 ?_
            refine x_iconst (v := 2) hc rfl dL_law_539 ?_
            obtain ⟨x75, G74, r76, hf⟩ := bj2_ok hf
            refine x_callVr (As := [.int 1, .int 2]) (p0 := 0) (v := (.int x75)) (T := TX7) hc (c_X7_skin (kl K) (kV K) 1 2 G69 x75 G74 r76) mw_X7_skin tw_461 (rfl : kd 0 = 7) (by decide) rfl rfl (Nat.le_of_ble_eq_true rfl) ⟨Nat.le_of_ble_eq_true rfl, Nat.le_of_ble_eq_true rfl⟩ dL_law_540 rfl ?_
            obtain ⟨x77, r78, hf⟩ := bj1_ok hf
            refine x_callSr (As := [.ref (kad K 0), .int x75]) (v := (.int x77)) hc (c_L_tells (kl K) (kV K) x75 G74 x77 r78) mw_L_tells tw_756 rfl (Nat.le_of_ble_eq_true rfl) ⟨Nat.le_of_ble_eq_true rfl, Nat.le_of_ble_eq_true rfl⟩ dL_law_543 rfl ?_
            refine x_iadd hc dL_law_546 ?_
            refine x_istore (L' := [(0, .ref (vSB (kV K))), (1, .ref (kad K 0)), (2, .ref (kad K 124)), (3, .ref (kad K 248)), (4, .ref (kad K 249)), (5, .ref (kad K 250)), (6, .int u6), (7, .int u7), (8, .ref (kad K 251)), (9, .ref (kad K 252)), (10, .int v8), (11, .int v9), (12, .int (x72 + x77))]) hc [1, 2, 3, 4, 5, 6, 7, 8, 9, 10, 11, 12, 0] dL_law_547 (by decide) rfl ?_
            refine x_iload hc 12 dL_law_549 rfl ?_
            refine x_iload hc 10 dL_law_551 rfl ?_
            refine x_icmp_lt (tgt := 648) hc dL_law_553 rfl (fun c_553 => ?_) (fun c_553 => ?_)
            · replace hf := if_p hf c_553
              cases hf
            · replace hf := if_n hf c_553
              refine x_aload_n hc 1 dL_law_556 rfl rfl ?_
              refine x_aload_n hc 1 dL_law_557 rfl rfl ?_
              refine x_iconst (v := 0) hc rfl dL_law_558 ?_
              refine x_iconst (v := 0) hc rfl dL_law_559 ?_
              obtain ⟨x80, G79, r81, hf⟩ := bj2_ok hf
              refine x_callVr (As := [.int 0, .int 0]) (p0 := 0) (v := (.int x80)) (T := TX7) hc (c_X7_skin (kl K) (kV K) 0 0 G74 x80 G79 r81) mw_X7_skin tw_461 (rfl : kd 0 = 7) (by decide) rfl rfl (Nat.le_of_ble_eq_true rfl) ⟨Nat.le_of_ble_eq_true rfl, Nat.le_of_ble_eq_true rfl⟩ dL_law_560 rfl ?_
              obtain ⟨x82, r83, hf⟩ := bj1_ok hf
              refine x_callSr (As := [.ref (kad K 0), .int x80]) (v := (.int x82)) hc (c_L_tells (kl K) (kV K) x80 G79 x82 r83) mw_L_tells tw_756 rfl (Nat.le_of_ble_eq_true rfl) ⟨Nat.le_of_ble_eq_true rfl, Nat.le_of_ble_eq_true rfl⟩ dL_law_563 rfl ?_
              refine x_aload_n hc 2 dL_law_566 rfl rfl ?_
              refine x_aload_n hc 2 dL_law_567 rfl rfl ?_
              refine x_iconst (v := 1) hc rfl dL_law_568 ?_
              refine x_iconst (v := 0) hc rfl dL_law_569 ?_
              obtain ⟨x85, G84, r86, hf⟩ := bj2_ok hf
              refine x_callVr (As := [.int 1, .int 0]) (p0 := 124) (v := (.int x85)) (T := TX7) hc (mc_sw (c_X7_skin (kl K) (swV (kV K)) 1 0 (swG G79) x85 G84 r86)) mw_X7_skin tw_461 (rfl : kd 124 = 7) (by decide) rfl rfl (Nat.le_of_ble_eq_true rfl) ⟨Nat.le_of_ble_eq_true rfl, Nat.le_of_ble_eq_true rfl⟩ dL_law_570 rfl ?_
              refine x_nmg (fun G87 e_G87 => ?_)
              replace hf := nm_ok hf G87 e_G87
              obtain ⟨x88, r89, hf⟩ := bj1_ok hf
              refine x_callSr (As := [.ref (kad K 124), .int x85]) (v := (.int x88)) hc (mc_swp (c_L_tells (kl K) (swV (kV K)) x85 (swG G87) x88 r89)) mw_L_tells tw_756 rfl (Nat.le_of_ble_eq_true rfl) ⟨Nat.le_of_ble_eq_true rfl, Nat.le_of_ble_eq_true rfl⟩ dL_law_573 rfl ?_
              refine x_icmp_ne (tgt := 648) hc dL_law_576 rfl (fun c_576 => ?_) (fun c_576 => ?_)
              · replace hf := if_n hf c_576
                cases hf
              · replace hf := if_p hf c_576
                refine x_aload_n hc 1 dL_law_579 rfl rfl ?_
                refine x_aload_n hc 1 dL_law_580 rfl rfl ?_
                refine x_iconst (v := 1) hc rfl dL_law_581 ?_
                refine x_iconst (v := 1) hc rfl dL_law_582 ?_
                obtain ⟨x91, G90, r92, hf⟩ := bj2_ok hf
                refine x_callVr (As := [.int 1, .int 1]) (p0 := 0) (v := (.int x91)) (T := TX7) hc (c_X7_skin (kl K) (kV K) 1 1 G87 x91 G90 r92) mw_X7_skin tw_461 (rfl : kd 0 = 7) (by decide) rfl rfl (Nat.le_of_ble_eq_true rfl) ⟨Nat.le_of_ble_eq_true rfl, Nat.le_of_ble_eq_true rfl⟩ dL_law_583 rfl ?_
                obtain ⟨x93, r94, hf⟩ := bj1_ok hf
                refine x_callSr (As := [.ref (kad K 0), .int x91]) (v := (.int x93)) hc (c_L_tells (kl K) (kV K) x91 G90 x93 r94) mw_L_tells tw_756 rfl (Nat.le_of_ble_eq_true rfl) ⟨Nat.le_of_ble_eq_true rfl, Nat.le_of_ble_eq_true rfl⟩ dL_law_586 rfl ?_
                refine x_aload_n hc 2 dL_law_589 rfl rfl ?_
                refine x_aload_n hc 2 dL_law_590 rfl rfl ?_
                refine x_iconst (v := 0) hc rfl dL_law_591 ?_
                refine x_iconst (v := 1) hc rfl dL_law_592 ?_
                obtain ⟨x96, G95, r97, hf⟩ := bj2_ok hf
                refine x_callVr (As := [.int 0, .int 1]) (p0 := 124) (v := (.int x96)) (T := TX7) hc (mc_sw (c_X7_skin (kl K) (swV (kV K)) 0 1 (swG G90) x96 G95 r97)) mw_X7_skin tw_461 (rfl : kd 124 = 7) (by decide) rfl rfl (Nat.le_of_ble_eq_true rfl) ⟨Nat.le_of_ble_eq_true rfl, Nat.le_of_ble_eq_true rfl⟩ dL_law_593 rfl ?_
                refine x_nmg (fun G98 e_G98 => ?_)
                replace hf := nm_ok hf G98 e_G98
                obtain ⟨x99, r100, hf⟩ := bj1_ok hf
                refine x_callSr (As := [.ref (kad K 124), .int x96]) (v := (.int x99)) hc (mc_swp (c_L_tells (kl K) (swV (kV K)) x96 (swG G98) x99 r100)) mw_L_tells tw_756 rfl (Nat.le_of_ble_eq_true rfl) ⟨Nat.le_of_ble_eq_true rfl, Nat.le_of_ble_eq_true rfl⟩ dL_law_596 rfl ?_
                refine x_icmp_ne (tgt := 648) hc dL_law_599 rfl (fun c_599 => ?_) (fun c_599 => ?_)
                · replace hf := if_n hf c_599
                  cases hf
                · replace hf := if_p hf c_599
                  refine x_aload_n hc 1 dL_law_602 rfl rfl ?_
                  refine x_aload_n hc 1 dL_law_603 rfl rfl ?_
                  refine x_iconst (v := 0) hc rfl dL_law_604 ?_
                  refine x_iconst (v := 2) hc rfl dL_law_605 ?_
                  obtain ⟨x102, G101, r103, hf⟩ := bj2_ok hf
                  refine x_callVr (As := [.int 0, .int 2]) (p0 := 0) (v := (.int x102)) (T := TX7) hc (c_X7_skin (kl K) (kV K) 0 2 G98 x102 G101 r103) mw_X7_skin tw_461 (rfl : kd 0 = 7) (by decide) rfl rfl (Nat.le_of_ble_eq_true rfl) ⟨Nat.le_of_ble_eq_true rfl, Nat.le_of_ble_eq_true rfl⟩ dL_law_606 rfl ?_
                  obtain ⟨x104, r105, hf⟩ := bj1_ok hf
                  refine x_callSr (As := [.ref (kad K 0), .int x102]) (v := (.int x104)) hc (c_L_tells (kl K) (kV K) x102 G101 x104 r105) mw_L_tells tw_756 rfl (Nat.le_of_ble_eq_true rfl) ⟨Nat.le_of_ble_eq_true rfl, Nat.le_of_ble_eq_true rfl⟩ dL_law_609 rfl ?_
                  refine x_aload_n hc 2 dL_law_612 rfl rfl ?_
                  refine x_aload_n hc 2 dL_law_613 rfl rfl ?_
                  refine x_iconst (v := 1) hc rfl dL_law_614 ?_
                  refine x_iconst (v := 2) hc rfl dL_law_615 ?_
                  obtain ⟨x107, G106, r108, hf⟩ := bj2_ok hf
                  refine x_callVr (As := [.int 1, .int 2]) (p0 := 124) (v := (.int x107)) (T := TX7) hc (mc_sw (c_X7_skin (kl K) (swV (kV K)) 1 2 (swG G101) x107 G106 r108)) mw_X7_skin tw_461 (rfl : kd 124 = 7) (by decide) rfl rfl (Nat.le_of_ble_eq_true rfl) ⟨Nat.le_of_ble_eq_true rfl, Nat.le_of_ble_eq_true rfl⟩ dL_law_616 rfl ?_
                  refine x_nmg (fun G109 e_G109 => ?_)
                  replace hf := nm_ok hf G109 e_G109
                  obtain ⟨x110, r111, hf⟩ := bj1_ok hf
                  refine x_callSr (As := [.ref (kad K 124), .int x107]) (v := (.int x110)) hc (mc_swp (c_L_tells (kl K) (swV (kV K)) x107 (swG G109) x110 r111)) mw_L_tells tw_756 rfl (Nat.le_of_ble_eq_true rfl) ⟨Nat.le_of_ble_eq_true rfl, Nat.le_of_ble_eq_true rfl⟩ dL_law_619 rfl ?_
                  refine x_icmp_ne (tgt := 648) hc dL_law_622 rfl (fun c_622 => ?_) (fun c_622 => ?_)
                  · replace hf := if_n hf c_622
                    cases hf
                  · replace hf := if_p hf c_622
                    refine x_aload_n hc 1 dL_law_625 rfl rfl ?_
                    refine x_aload_n hc 1 dL_law_626 rfl rfl ?_
                    refine x_iconst (v := 0) hc rfl dL_law_627 ?_
                    refine x_iconst (v := 3) hc rfl dL_law_628 ?_
                    obtain ⟨x113, G112, r114, hf⟩ := bj2_ok hf
                    refine x_callVr (As := [.int 0, .int 3]) (p0 := 0) (v := (.int x113)) (T := TX7) hc (c_X7_skin (kl K) (kV K) 0 3 G109 x113 G112 r114) mw_X7_skin tw_461 (rfl : kd 0 = 7) (by decide) rfl rfl (Nat.le_of_ble_eq_true rfl) ⟨Nat.le_of_ble_eq_true rfl, Nat.le_of_ble_eq_true rfl⟩ dL_law_629 rfl ?_
                    obtain ⟨x115, r116, hf⟩ := bj1_ok hf
                    refine x_callSr (As := [.ref (kad K 0), .int x113]) (v := (.int x115)) hc (c_L_tells (kl K) (kV K) x113 G112 x115 r116) mw_L_tells tw_756 rfl (Nat.le_of_ble_eq_true rfl) ⟨Nat.le_of_ble_eq_true rfl, Nat.le_of_ble_eq_true rfl⟩ dL_law_632 rfl ?_
                    refine x_aload_n hc 2 dL_law_635 rfl rfl ?_
                    refine x_aload_n hc 2 dL_law_636 rfl rfl ?_
                    refine x_iconst (v := 0) hc rfl dL_law_637 ?_
                    refine x_iconst (v := 3) hc rfl dL_law_638 ?_
                    obtain ⟨x118, G117, r119, hf⟩ := bj2_ok hf
                    refine x_callVr (As := [.int 0, .int 3]) (p0 := 124) (v := (.int x118)) (T := TX7) hc (mc_sw (c_X7_skin (kl K) (swV (kV K)) 0 3 (swG G112) x118 G117 r119)) mw_X7_skin tw_461 (rfl : kd 124 = 7) (by decide) rfl rfl (Nat.le_of_ble_eq_true rfl) ⟨Nat.le_of_ble_eq_true rfl, Nat.le_of_ble_eq_true rfl⟩ dL_law_639 rfl ?_
                    refine x_nmg (fun G120 e_G120 => ?_)
                    replace hf := nm_ok hf G120 e_G120
                    obtain ⟨x121, r122, hf⟩ := bj1_ok hf
                    refine x_callSr (As := [.ref (kad K 124), .int x118]) (v := (.int x121)) hc (mc_swp (c_L_tells (kl K) (swV (kV K)) x118 (swG G120) x121 r122)) mw_L_tells tw_756 rfl (Nat.le_of_ble_eq_true rfl) ⟨Nat.le_of_ble_eq_true rfl, Nat.le_of_ble_eq_true rfl⟩ dL_law_642 rfl ?_
                    refine x_icmp_ne (tgt := 650) hc dL_law_645 rfl (fun c_645 => ?_) (fun c_645 => ?_)
                    · replace hf := if_n hf c_645
                      refine x_iload hc 12 dL_law_650 rfl ?_
                      refine x_istore (L' := [(0, .ref (vSB (kV K))), (1, .ref (kad K 0)), (2, .ref (kad K 124)), (3, .ref (kad K 248)), (4, .ref (kad K 249)), (5, .ref (kad K 250)), (6, .int u6), (7, .int u7), (8, .ref (kad K 251)), (9, .ref (kad K 252)), (10, .int (x72 + x77)), (11, .int v9)]) hc [1, 2, 3, 4, 5, 6, 7, 8, 9, 10, 0, 11] dL_law_652 (by decide) rfl ?_
                      refine x_iinc (v := v9 + 1) (L' := [(0, .ref (vSB (kV K))), (1, .ref (kad K 0)), (2, .ref (kad K 124)), (3, .ref (kad K 248)), (4, .ref (kad K 249)), (5, .ref (kad K 250)), (6, .int u6), (7, .int u7), (8, .ref (kad K 251)), (9, .ref (kad K 252)), (10, .int (x72 + x77)), (11, .int (v9 + 1))]) hc 11 [1, 2, 3, 4, 5, 6, 7, 8, 9, 10, 11, 0] dL_law_654 rfl rfl (by decide) rfl ?_
                      refine x_goto (tgt := 299) hc dL_law_657 rfl ?_
                      exact x_sub [0, 1, 2, 3, 4, 5, 6, 7, 8, 9, 10, 11] (ih _ _ _ _ hf hk) rfl
                    · replace hf := if_p hf c_645
                      cases hf
          exact x_sub [0, 1, 2, 3, 4, 5, 6, 7, 8, 9, 10, 11, 12] (c_L_law_l335_21 u6 u7 v8 v9 hc k_nl FU 0 G18 G68 hl_335 he_526_n21) rfl
        · replace hf := if_n hf c_327
          cases hf
set_option maxHeartbeats 40000000 in
set_option maxRecDepth 100000 in
theorem c_L_lawC {K : CT} {Ts : List Cond} (sl : Nat) (xs : Nat → Int32) (u6 : Int32) (u7 : Int32) (G : G_) (u12 : Int64) (G' : G_) (hc : Ok K cL_law RL Ts ret 10 398 19) (k_nl : vNL (kV K) = 5) (k_sc : SCO (kV K) sl xs) (hf : f_L_lawC sl xs u6 u7 G = some (u12, G')) (hk : X K 939 [(1, .ref (kad K 0)), (2, .ref (kad K 124)), (3, .ref (kad K 248)), (4, .ref (kad K 249)), (12, .long u12)] [] G') : X K 269 [(0, .ref (vSB (kV K))), (1, .ref (kad K 0)), (2, .ref (kad K 124)), (3, .ref (kad K 248)), (4, .ref (kad K 249)), (5, .ref (kad K 250)), (6, .int u6), (7, .int u7), (8, .ref (kad K 251)), (9, .ref (kad K 252))] [] G := by
  unfold f_L_lawC at hf
  refine x_iconst (v := 0) hc rfl dL_law_269 ?_
  refine x_istore (L' := [(0, .ref (vSB (kV K))), (1, .ref (kad K 0)), (2, .ref (kad K 124)), (3, .ref (kad K 248)), (4, .ref (kad K 249)), (5, .ref (kad K 250)), (6, .int u6), (7, .int u7), (8, .ref (kad K 251)), (9, .ref (kad K 252)), (10, .int 0)]) hc [1, 2, 3, 4, 5, 6, 7, 8, 9, 10, 0] dL_law_270 (by decide) rfl ?_
  obtain ⟨G7, hl_272, hf⟩ := bj1_ok hf
  have he_293_n3 : X K 293 [(0, .ref (vSB (kV K))), (1, .ref (kad K 0)), (2, .ref (kad K 124)), (3, .ref (kad K 248)), (4, .ref (kad K 249)), (5, .ref (kad K 250)), (6, .int u6), (7, .int u7), (8, .ref (kad K 251)), (9, .ref (kad K 252))] [] G7 := by
    clear hl_272
    refine x_iconst (v := 0) hc rfl dL_law_293 ?_
    refine x_istore (L' := [(0, .ref (vSB (kV K))), (1, .ref (kad K 0)), (2, .ref (kad K 124)), (3, .ref (kad K 248)), (4, .ref (kad K 249)), (5, .ref (kad K 250)), (6, .int u6), (7, .int u7), (8, .ref (kad K 251)), (9, .ref (kad K 252)), (10, .int 0)]) hc [1, 2, 3, 4, 5, 6, 7, 8, 9, 10, 0] dL_law_294 (by decide) rfl ?_
    refine x_iconst (v := 0) hc rfl dL_law_296 ?_
    refine x_istore (L' := [(0, .ref (vSB (kV K))), (1, .ref (kad K 0)), (2, .ref (kad K 124)), (3, .ref (kad K 248)), (4, .ref (kad K 249)), (5, .ref (kad K 250)), (6, .int u6), (7, .int u7), (8, .ref (kad K 251)), (9, .ref (kad K 252)), (10, .int 0), (11, .int 0)]) hc [1, 2, 3, 4, 5, 6, 7, 8, 9, 10, 11, 0] dL_law_297 (by decide) rfl ?_
    obtain ⟨G123, hl_299, hf⟩ := bj1_ok hf
    have he_660_n11 : X K 660 [(0, .ref (vSB (kV K))), (1, .ref (kad K 0)), (2, .ref (kad K 124)), (3, .ref (kad K 248)), (4, .ref (kad K 249)), (5, .ref (kad K 250)), (6, .int u6)] [] G123 := by
      clear hl_299
      refine x_aload_n hc 2 dL_law_660 rfl rfl ?_
      refine x_iconst (v := 0) hc rfl dL_law_661 ?_
      refine x_iconst (v := 3) hc rfl dL_law_662 ?_
      obtain ⟨x125, G124, r126, hf⟩ := bj2_ok hf
      refine x_callVr (As := [.int 0, .int 3]) (p0 := 124) (v := (.int x125)) (T := TX7) hc (mc_sw (c_X7_plan (kl K) (swV (kV K)) 0 3 (swG G123) x125 G124 r126)) mw_X7_plan tw_298 (rfl : kd 124 = 7) (by decide) rfl rfl (Nat.le_of_ble_eq_true rfl) ⟨Nat.le_of_ble_eq_true rfl, Nat.le_of_ble_eq_true rfl⟩ dL_law_663 rfl ?_
      refine x_nmg (fun G127 e_G127 => ?_)
      replace hf := nm_ok hf G127 e_G127
      refine x_aload hc 5 dL_law_666 rfl ?_
      refine x_iconst (v := 0) hc rfl dL_law_668 ?_
      obtain ⟨h128, hf⟩ := chk_ok hf
      refine x_ialoadA (p0 := 250) hc (aok_l (p := 250) k_nl rfl rfl (by decide)) h128 dL_law_669 ?_
      refine x_icmp_ne (tgt := 732) hc dL_law_670 rfl (fun c_670 => ?_) (fun c_670 => ?_)
      · replace hf := if_n hf c_670
        cases hf
      · replace hf := if_p hf c_670
        refine x_aload_n hc 2 dL_law_673 rfl rfl ?_
        refine x_iconst (v := 0) hc rfl dL_law_674 ?_
        refine x_aload hc 4 dL_law_675 rfl ?_
        obtain ⟨x130, G129, r131, hf⟩ := bj2_ok hf
        refine x_callSr (As := [.ref (kad K 124), .int 0, .ref (kad K 249)]) (v := (.int x130)) hc (mc_sw (c_L_plan (kl K) (swV (kV K)) 0 249 (swG G127) x130 G129 (aok_l (p := 249) k_nl rfl rfl (by decide)) r131)) mw_L_plan tw_750 rfl (Nat.le_of_ble_eq_true rfl) ⟨Nat.le_of_ble_eq_true rfl, Nat.le_of_ble_eq_true rfl⟩ dL_law_677 rfl ?_
        refine x_nmg (fun G132 e_G132 => ?_)
        replace hf := nm_ok hf G132 e_G132
        refine x_if_eq (tgt := 732) hc dL_law_680 rfl (fun c_680 => ?_) (fun c_680 => ?_)
        · replace hf := if_p hf c_680
          cases hf
        · replace hf := if_n hf c_680
          refine x_aload_n hc 2 dL_law_683 rfl rfl ?_
          refine x_iconst (v := 0) hc rfl dL_law_684 ?_
          refine x_iconst (v := 0) hc rfl dL_law_685 ?_
          obtain ⟨x134, G133, r135, hf⟩ := bj2_ok hf
          refine x_callVr (As := [.int 0, .int 0]) (p0 := 124) (v := (.int x134)) (T := TX7) hc (mc_sw (c_X7_dish (kl K) (swV (kV K)) 0 0 (swG G132) x134 G133 r135)) mw_X7_dish tw_378 (rfl : kd 124 = 7) (by decide) rfl rfl (Nat.le_of_ble_eq_true rfl) ⟨Nat.le_of_ble_eq_true rfl, Nat.le_of_ble_eq_true rfl⟩ dL_law_686 rfl ?_
          refine x_nmg (fun G136 e_G136 => ?_)
          replace hf := nm_ok hf G136 e_G136
          refine x_iload hc 6 dL_law_689 rfl ?_
          refine x_icmp_ne (tgt := 732) hc dL_law_691 rfl (fun c_691 => ?_) (fun c_691 => ?_)
          · replace hf := if_n hf c_691
            cases hf
          · replace hf := if_p hf c_691
            refine x_aload_n hc 2 dL_law_694 rfl rfl ?_
            refine x_iload hc 6 dL_law_695 rfl ?_
            obtain ⟨x138, G137, r139, hf⟩ := bj2_ok hf
            refine x_callVr (As := [.int u6]) (p0 := 124) (v := (.int x138)) (T := TX7) hc (mc_sw (c_X7_go (kl K) (swV (kV K)) u6 (swG G136) x138 G137 r139)) mw_X7_go tw_397 (rfl : kd 124 = 7) (by decide) rfl rfl (Nat.le_of_ble_eq_true rfl) ⟨Nat.le_of_ble_eq_true rfl, Nat.le_of_ble_eq_true rfl⟩ dL_law_697 rfl ?_
            refine x_nmg (fun G140 e_G140 => ?_)
            replace hf := nm_ok hf G140 e_G140
            refine x_iload hc 6 dL_law_700 rfl ?_
            refine x_icmp_ne (tgt := 732) hc dL_law_702 rfl (fun c_702 => ?_) (fun c_702 => ?_)
            · replace hf := if_n hf c_702
              cases hf
            · replace hf := if_p hf c_702
              refine x_aload_n hc 2 dL_law_705 rfl rfl ?_
              refine x_iconst (v := 0) hc rfl dL_law_706 ?_
              obtain ⟨x142, G141, r143, hf⟩ := bj2_ok hf
              refine x_callVr (As := [.int 0]) (p0 := 124) (v := (.int x142)) (T := TX7) hc (mc_sw (c_X7_slice (kl K) (swV (kV K)) 0 (swG G140) x142 G141 r143)) mw_X7_slice tw_497 (rfl : kd 124 = 7) (by decide) rfl rfl (Nat.le_of_ble_eq_true rfl) ⟨Nat.le_of_ble_eq_true rfl, Nat.le_of_ble_eq_true rfl⟩ dL_law_707 rfl ?_
              refine x_nmg (fun G144 e_G144 => ?_)
              replace hf := nm_ok hf G144 e_G144
              refine x_aload_n hc 1 dL_law_710 rfl rfl ?_
              refine x_iconst (v := 0) hc rfl dL_law_711 ?_
              obtain ⟨x146, G145, r147, hf⟩ := bj2_ok hf
              refine x_callVr (As := [.int 0]) (p0 := 0) (v := (.int x146)) (T := TX7) hc (c_X7_slice (kl K) (kV K) 0 G144 x146 G145 r147) mw_X7_slice tw_497 (rfl : kd 0 = 7) (by decide) rfl rfl (Nat.le_of_ble_eq_true rfl) ⟨Nat.le_of_ble_eq_true rfl, Nat.le_of_ble_eq_true rfl⟩ dL_law_712 rfl ?_
              refine x_icmp_ne (tgt := 732) hc dL_law_715 rfl (fun c_715 => ?_) (fun c_715 => ?_)
              · replace hf := if_n hf c_715
                cases hf
              · replace hf := if_p hf c_715
                refine x_aload_n hc 2 dL_law_718 rfl rfl ?_
                refine x_iconst (v := 0) hc rfl dL_law_719 ?_
                refine x_sipush (v := 4000) hc rfl dL_law_720 ?_
                obtain ⟨x149, G148, r150, hf⟩ := bj2_ok hf
                refine x_callVr (As := [.int 0, .int 4000]) (p0 := 124) (v := (.int x149)) (T := TX7) hc (mc_sw (c_X7_just (kl K) (swV (kV K)) 0 4000 (swG G145) x149 G148 r150)) mw_X7_just tw_481 (rfl : kd 124 = 7) (by decide) rfl rfl (Nat.le_of_ble_eq_true rfl) ⟨Nat.le_of_ble_eq_true rfl, Nat.le_of_ble_eq_true rfl⟩ dL_law_723 rfl ?_
                refine x_nmg (fun G151 e_G151 => ?_)
                replace hf := nm_ok hf G151 e_G151
                refine x_aload_n hc 3 dL_law_726 rfl rfl ?_
                refine x_iconst (v := 0) hc rfl dL_law_727 ?_
                obtain ⟨h152, hf⟩ := chk_ok hf
                refine x_ialoadA (p0 := 248) hc (aok_l (p := 248) k_nl rfl rfl (by decide)) h152 dL_law_728 ?_
                refine x_icmp_eq (tgt := 734) hc dL_law_729 rfl (fun c_729 => ?_) (fun c_729 => ?_)
                · replace hf := if_p hf c_729
                  refine x_aload_n hc 2 dL_law_734 rfl rfl ?_
                  obtain ⟨x153, r154, hf⟩ := bj1_ok hf
                  refine x_callVr (As := []) (p0 := 124) (v := (.int x153)) (T := TX7) hc (mc_swp (c_X7_asked (kl K) (swV (kV K)) (swG G151) x153 r154)) mw_X7_asked tw_602 (rfl : kd 124 = 7) (by decide) rfl rfl (Nat.le_of_ble_eq_true rfl) ⟨Nat.le_of_ble_eq_true rfl, Nat.le_of_ble_eq_true rfl⟩ dL_law_735 rfl ?_
                  refine x_istore (L' := [(0, .ref (vSB (kV K))), (1, .ref (kad K 0)), (2, .ref (kad K 124)), (3, .ref (kad K 248)), (4, .ref (kad K 249)), (11, .int x153)]) hc [1, 2, 3, 4, 5, 0] dL_law_738 (by decide) rfl ?_
                  refine x_aload_n hc 1 dL_law_740 rfl rfl ?_
                  refine x_iconst (v := 0) hc rfl dL_law_741 ?_
                  refine x_sipush (v := 4000) hc rfl dL_law_742 ?_
                  obtain ⟨x156, G155, r157, hf⟩ := bj2_ok hf
                  refine x_callVr (As := [.int 0, .int 4000]) (p0 := 0) (v := (.int x156)) (T := TX7) hc (c_X7_just (kl K) (kV K) 0 4000 G151 x156 G155 r157) mw_X7_just tw_481 (rfl : kd 0 = 7) (by decide) rfl rfl (Nat.le_of_ble_eq_true rfl) ⟨Nat.le_of_ble_eq_true rfl, Nat.le_of_ble_eq_true rfl⟩ dL_law_745 rfl ?_
                  refine x_aload_n hc 3 dL_law_748 rfl rfl ?_
                  refine x_iconst (v := 0) hc rfl dL_law_749 ?_
                  obtain ⟨h158, hf⟩ := chk_ok hf
                  refine x_ialoadA (p0 := 248) hc (aok_l (p := 248) k_nl rfl rfl (by decide)) h158 dL_law_750 ?_
                  refine x_icmp_ne (tgt := 797) hc dL_law_751 rfl (fun c_751 => ?_) (fun c_751 => ?_)
                  · replace hf := if_n hf c_751
                    cases hf
                  · replace hf := if_p hf c_751
                    refine x_aload_n hc 1 dL_law_754 rfl rfl ?_
                    obtain ⟨x159, r160, hf⟩ := bj1_ok hf
                    refine x_callVr (As := []) (p0 := 0) (v := (.int x159)) (T := TX7) hc (c_X7_asked (kl K) (kV K) G155 x159 r160) mw_X7_asked tw_602 (rfl : kd 0 = 7) (by decide) rfl rfl (Nat.le_of_ble_eq_true rfl) ⟨Nat.le_of_ble_eq_true rfl, Nat.le_of_ble_eq_true rfl⟩ dL_law_755 rfl ?_
                    refine x_iload hc 5 dL_law_758 rfl ?_
                    refine x_icmp_ne (tgt := 797) hc dL_law_760 rfl (fun c_760 => ?_) (fun c_760 => ?_)
                    · replace hf := if_n hf c_760
                      cases hf
                    · replace hf := if_p hf c_760
                      refine x_aload_n hc 1 dL_law_763 rfl rfl ?_
                      refine x_iconst (v := 0) hc rfl dL_law_764 ?_
                      obtain ⟨x162, G161, r163, hf⟩ := bj2_ok hf
                      refine x_callVr (As := [.int 0]) (p0 := 0) (v := (.int x162)) (T := TX7) hc (c_X7_which (kl K) (kV K) 0 G155 x162 G161 r163) mw_X7_which tw_568 (rfl : kd 0 = 7) (by decide) rfl rfl (Nat.le_of_ble_eq_true rfl) ⟨Nat.le_of_ble_eq_true rfl, Nat.le_of_ble_eq_true rfl⟩ dL_law_765 rfl ?_
                      refine x_if_ne (tgt := 797) hc dL_law_768 rfl (fun c_768 => ?_) (fun c_768 => ?_)
                      · replace hf := if_n hf c_768
                        cases hf
                      · replace hf := if_p hf c_768
                        refine x_aload_n hc 1 dL_law_771 rfl rfl ?_
                        obtain ⟨x164, r165, hf⟩ := bj1_ok hf
                        refine x_callVr (As := []) (p0 := 0) (v := (.int x164)) (T := TX7) hc (c_X7_asked (kl K) (kV K) G161 x164 r165) mw_X7_asked tw_602 (rfl : kd 0 = 7) (by decide) rfl rfl (Nat.le_of_ble_eq_true rfl) ⟨Nat.le_of_ble_eq_true rfl, Nat.le_of_ble_eq_true rfl⟩ dL_law_772 rfl ?_
                        refine x_if_ne (tgt := 797) hc dL_law_775 rfl (fun c_775 => ?_) (fun c_775 => ?_)
                        · replace hf := if_n hf c_775
                          cases hf
                        · replace hf := if_p hf c_775
                          refine x_aload_n hc 1 dL_law_778 rfl rfl ?_
                          refine x_iconst (v := 0) hc rfl dL_law_779 ?_
                          refine x_iconst (v := 0) hc rfl dL_law_780 ?_
                          obtain ⟨x167, G166, r168, hf⟩ := bj2_ok hf
                          refine x_callVr (As := [.int 0, .int 0]) (p0 := 0) (v := (.int x167)) (T := TX7) hc (c_X7_odds (kl K) (kV K) 0 0 G161 x167 G166 r168) mw_X7_odds tw_594 (rfl : kd 0 = 7) (by decide) rfl rfl (Nat.le_of_ble_eq_true rfl) ⟨Nat.le_of_ble_eq_true rfl, Nat.le_of_ble_eq_true rfl⟩ dL_law_781 rfl ?_
                          refine x_iconst (v := 1) hc rfl dL_law_784 ?_
                          refine x_icmp_ne (tgt := 797) hc dL_law_785 rfl (fun c_785 => ?_) (fun c_785 => ?_)
                          · replace hf := if_n hf c_785
                            cases hf
                          · replace hf := if_p hf c_785
                            refine x_aload_n hc 1 dL_law_788 rfl rfl ?_
                            obtain ⟨w169, r170, hf⟩ := bj1_ok hf
                            refine x_callVr (As := []) (p0 := 0) (v := (.long w169)) (T := TX7) hc (c_X7_upper (kl K) (kV K) G166 w169 r170) mw_X7_upper tw_606 (rfl : kd 0 = 7) (by decide) rfl rfl (Nat.le_of_ble_eq_true rfl) ⟨Nat.le_of_ble_eq_true rfl, Nat.le_of_ble_eq_true rfl⟩ dL_law_789 rfl ?_
                            refine x_lconst (v := 1) hc rfl dL_law_792 ?_
                            refine x_lcmp hc dL_law_793 ?_
                            refine x_if_eq (tgt := 799) hc dL_law_794 rfl (fun c_794 => ?_) (fun c_794 => ?_)
                            · replace hf := if_p hf c_794
                              refine x_aload_n hc 1 dL_law_799 rfl rfl ?_
                              obtain ⟨w171, r172, hf⟩ := bj1_ok hf
                              refine x_callVr (As := []) (p0 := 0) (v := (.long w171)) (T := TX7) hc (c_X7_digest (kl K) (kV K) G166 w171 r172) mw_X7_digest tw_610 (rfl : kd 0 = 7) (by decide) rfl rfl (Nat.le_of_ble_eq_true rfl) ⟨Nat.le_of_ble_eq_true rfl, Nat.le_of_ble_eq_true rfl⟩ dL_law_800 rfl ?_
                              refine x_lstore (L' := [(0, .ref (vSB (kV K))), (1, .ref (kad K 0)), (2, .ref (kad K 124)), (3, .ref (kad K 248)), (4, .ref (kad K 249)), (11, .int x153), (12, .long w171)]) hc [1, 2, 3, 4, 5, 6, 0] dL_law_803 (by decide) rfl ?_
                              refine x_aload_n hc 1 dL_law_805 rfl rfl ?_
                              refine x_bipush (v := 7) hc rfl dL_law_806 ?_
                              obtain ⟨x174, G173, r175, hf⟩ := bj2_ok hf
                              refine x_callVr (As := [.int 7]) (p0 := 0) (v := (.int x174)) (T := TX7) hc (c_X7_cut (kl K) (kV K) 7 G166 x174 G173 r175) mw_X7_cut tw_528 (rfl : kd 0 = 7) (by decide) rfl rfl (Nat.le_of_ble_eq_true rfl) ⟨Nat.le_of_ble_eq_true rfl, Nat.le_of_ble_eq_true rfl⟩ dL_law_808 rfl ?_
                              refine x_istore (L' := [(0, .ref (vSB (kV K))), (1, .ref (kad K 0)), (2, .ref (kad K 124)), (3, .ref (kad K 248)), (4, .ref (kad K 249)), (11, .int x153), (12, .long w171), (14, .int x174)]) hc [1, 2, 3, 4, 5, 6, 7, 0] dL_law_811 (by decide) rfl ?_
                              refine x_aload_n hc 1 dL_law_813 rfl rfl ?_
                              obtain ⟨x176, r177, hf⟩ := bj1_ok hf
                              refine x_callVr (As := []) (p0 := 0) (v := (.int x176)) (T := TX7) hc (c_X7_asked (kl K) (kV K) G173 x176 r177) mw_X7_asked tw_602 (rfl : kd 0 = 7) (by decide) rfl rfl (Nat.le_of_ble_eq_true rfl) ⟨Nat.le_of_ble_eq_true rfl, Nat.le_of_ble_eq_true rfl⟩ dL_law_814 rfl ?_
                              refine x_istore (L' := [(0, .ref (vSB (kV K))), (1, .ref (kad K 0)), (2, .ref (kad K 124)), (3, .ref (kad K 248)), (4, .ref (kad K 249)), (11, .int x153), (12, .long w171), (14, .int x174), (15, .int x176)]) hc [1, 2, 3, 4, 5, 6, 7, 8, 0] dL_law_817 (by decide) rfl ?_
                              refine x_aload_n hc 1 dL_law_819 rfl rfl ?_
                              refine x_iconst (v := 0) hc rfl dL_law_820 ?_
                              refine x_iconst (v := 0) hc rfl dL_law_821 ?_
                              obtain ⟨x179, G178, r180, hf⟩ := bj2_ok hf
                              refine x_callVr (As := [.int 0, .int 0]) (p0 := 0) (v := (.int x179)) (T := TX7) hc (c_X7_rest (kl K) (kV K) 0 0 G173 x179 G178 r180) mw_X7_rest tw_558 (rfl : kd 0 = 7) (by decide) rfl rfl (Nat.le_of_ble_eq_true rfl) ⟨Nat.le_of_ble_eq_true rfl, Nat.le_of_ble_eq_true rfl⟩ dL_law_822 rfl ?_
                              refine x_istore (L' := [(0, .ref (vSB (kV K))), (1, .ref (kad K 0)), (2, .ref (kad K 124)), (3, .ref (kad K 248)), (4, .ref (kad K 249)), (11, .int x153), (12, .long w171), (14, .int x174), (15, .int x176), (16, .int x179)]) hc [1, 2, 3, 4, 5, 6, 7, 8, 9, 0] dL_law_825 (by decide) rfl ?_
                              refine x_aload_n hc 1 dL_law_827 rfl rfl ?_
                              obtain ⟨x181, r182, hf⟩ := bj1_ok hf
                              refine x_callVr (As := []) (p0 := 0) (v := (.int x181)) (T := TX7) hc (c_X7_asked (kl K) (kV K) G178 x181 r182) mw_X7_asked tw_602 (rfl : kd 0 = 7) (by decide) rfl rfl (Nat.le_of_ble_eq_true rfl) ⟨Nat.le_of_ble_eq_true rfl, Nat.le_of_ble_eq_true rfl⟩ dL_law_828 rfl ?_
                              refine x_istore (L' := [(0, .ref (vSB (kV K))), (1, .ref (kad K 0)), (2, .ref (kad K 124)), (3, .ref (kad K 248)), (4, .ref (kad K 249)), (11, .int x153), (12, .long w171), (14, .int x174), (15, .int x176), (16, .int x179), (17, .int x181)]) hc [1, 2, 3, 4, 5, 6, 7, 8, 9, 10, 0] dL_law_831 (by decide) rfl ?_
                              refine x_aload_n hc 1 dL_law_833 rfl rfl ?_
                              obtain ⟨x184, G183, r185, hf⟩ := bj2_ok hf
                              refine x_callVr (As := []) (p0 := 0) (v := (.int x184)) (T := TX7) hc (c_X7_rise (kl K) (kV K) G178 x184 G183 r185) mw_X7_rise tw_545 (rfl : kd 0 = 7) (by decide) rfl rfl (Nat.le_of_ble_eq_true rfl) ⟨Nat.le_of_ble_eq_true rfl, Nat.le_of_ble_eq_true rfl⟩ dL_law_834 rfl ?_
                              refine x_istore (L' := [(0, .ref (vSB (kV K))), (1, .ref (kad K 0)), (2, .ref (kad K 124)), (3, .ref (kad K 248)), (4, .ref (kad K 249)), (11, .int x153), (12, .long w171), (14, .int x174), (15, .int x176), (16, .int x179), (17, .int x181), (18, .int x184)]) hc [1, 2, 3, 4, 5, 6, 7, 8, 9, 10, 11, 0] dL_law_837 (by decide) rfl ?_
                              refine x_iload hc 7 dL_law_839 rfl ?_
                              refine x_if_lt (tgt := 902) hc dL_law_841 rfl (fun c_841 => ?_) (fun c_841 => ?_)
                              · replace hf := if_p hf c_841
                                cases hf
                              · replace hf := if_n hf c_841
                                refine x_iload hc 7 dL_law_844 rfl ?_
                                refine x_iload hc 5 dL_law_846 rfl ?_
                                refine x_icmp_gt (tgt := 902) hc dL_law_848 rfl (fun c_848 => ?_) (fun c_848 => ?_)
                                · replace hf := if_p hf c_848
                                  cases hf
                                · replace hf := if_n hf c_848
                                  refine x_iload hc 8 dL_law_851 rfl ?_
                                  refine x_if_lt (tgt := 902) hc dL_law_853 rfl (fun c_853 => ?_) (fun c_853 => ?_)
                                  · replace hf := if_p hf c_853
                                    cases hf
                                  · replace hf := if_n hf c_853
                                    refine x_iload hc 11 dL_law_856 rfl ?_
                                    refine x_if_lt (tgt := 902) hc dL_law_858 rfl (fun c_858 => ?_) (fun c_858 => ?_)
                                    · replace hf := if_p hf c_858
                                      cases hf
                                    · replace hf := if_n hf c_858
                                      refine x_iload hc 9 dL_law_861 rfl ?_
                                      refine x_if_lt (tgt := 902) hc dL_law_863 rfl (fun c_863 => ?_) (fun c_863 => ?_)
                                      · replace hf := if_p hf c_863
                                        cases hf
                                      · replace hf := if_n hf c_863
                                        refine x_iload hc 9 dL_law_866 rfl ?_
                                        refine x_bipush (v := 30) hc rfl dL_law_868 ?_
                                        refine x_icmp_gt (tgt := 902) hc dL_law_870 rfl (fun c_870 => ?_) (fun c_870 => ?_)
                                        · replace hf := if_p hf c_870
                                          cases hf
                                        · replace hf := if_n hf c_870
                                          refine x_iload hc 10 dL_law_873 rfl ?_
                                          refine x_iload hc 7 dL_law_875 rfl ?_
                                          refine x_icmp_gt (tgt := 902) hc dL_law_877 rfl (fun c_877 => ?_) (fun c_877 => ?_)
                                          · replace hf := if_p hf c_877
                                            cases hf
                                          · replace hf := if_n hf c_877
                                            refine x_iload hc 9 dL_law_880 rfl ?_
                                            obtain ⟨_u, hr, hf⟩ := bj1_ok hf
                                            have hj_892_186 : X K 892 [(0, .ref (vSB (kV K))), (1, .ref (kad K 0)), (2, .ref (kad K 124)), (3, .ref (kad K 248)), (4, .ref (kad K 249)), (12, .long w171), (15, .int x176), (17, .int x181)] [] G183 := by
                                              clear hr
                                              refine x_aload_n hc 1 dL_law_892 rfl rfl ?_
                                              obtain ⟨w187, r188, hf⟩ := bj1_ok hf
                                              refine x_callVr (As := []) (p0 := 0) (v := (.long w187)) (T := TX7) hc (c_X7_digest (kl K) (kV K) G183 w187 r188) mw_X7_digest tw_610 (rfl : kd 0 = 7) (by decide) rfl rfl (Nat.le_of_ble_eq_true rfl) ⟨Nat.le_of_ble_eq_true rfl, Nat.le_of_ble_eq_true rfl⟩ dL_law_893 rfl ?_
                                              refine x_lload hc 5 dL_law_896 rfl ?_
                                              refine x_lcmp hc dL_law_898 ?_
                                              refine x_if_eq (tgt := 904) hc dL_law_899 rfl (fun c_899 => ?_) (fun c_899 => ?_)
                                              · replace hf := if_p hf c_899
                                                refine x_aload hc 4 dL_law_904 rfl ?_
                                                refine x_iconst (v := 1) hc rfl dL_law_906 ?_
                                                refine x_iconst (v := 3) hc rfl dL_law_907 ?_
                                                refine x_aload hc 4 dL_law_908 rfl ?_
                                                refine x_iconst (v := 0) hc rfl dL_law_910 ?_
                                                obtain ⟨h189, hf⟩ := chk_ok hf
                                                refine x_ialoadA (p0 := 249) hc (aok_l (p := 249) k_nl rfl rfl (by decide)) h189 dL_law_911 ?_
                                                refine x_iconst (v := 1) hc rfl dL_law_912 ?_
                                                refine x_isub hc dL_law_913 ?_
                                                refine x_imul hc dL_law_914 ?_
                                                refine x_iadd hc dL_law_915 ?_
                                                obtain ⟨h190, hf⟩ := chk_ok hf
                                                refine x_ialoadA (p0 := 249) hc (aok_l (p := 249) k_nl rfl rfl (by decide)) h190 dL_law_916 ?_
                                                refine x_iconst (v := 5) hc rfl dL_law_917 ?_
                                                obtain ⟨_u, hr, hf⟩ := bj1_ok hf
                                                have hj_930_191 : X K 930 [(0, .ref (vSB (kV K))), (1, .ref (kad K 0)), (2, .ref (kad K 124)), (3, .ref (kad K 248)), (4, .ref (kad K 249)), (12, .long w171)] [] G183 := by
                                                  clear hr
                                                  refine x_aload_n hc 1 dL_law_930 rfl rfl ?_
                                                  refine x_aload_n hc 0 dL_law_931 rfl rfl ?_
                                                  refine x_aload_n hc 3 dL_law_932 rfl rfl ?_
                                                  obtain ⟨x193, G192, r194, hf⟩ := bj2_ok hf
                                                  refine x_callSr (As := [.ref (kad K 0), .ref (vSB (kV K)), .ref (kad K 248)]) (v := (.int x193)) hc (c_L_ways (kl K) (kV K) sl xs 248 G183 x193 G192 k_sc (aok_l (p := 248) k_nl rfl rfl (by decide)) r194) mw_L_ways tw_759 rfl (Nat.le_of_ble_eq_true rfl) ⟨Nat.le_of_ble_eq_true rfl, Nat.le_of_ble_eq_true rfl⟩ dL_law_933 rfl ?_
                                                  refine x_if_eq (tgt := 964) hc dL_law_936 rfl (fun c_936 => ?_) (fun c_936 => ?_)
                                                  · replace hf := if_p hf c_936
                                                    cases hf
                                                  · replace hf := if_n hf c_936
                                                    cases hf
                                                    exact x_sub [1, 2, 3, 4, 5] hk rfl
                                                replace hf := hr
                                                clear hr
                                                refine x_icmp_ge (tgt := 930) hc dL_law_918 rfl (fun c_918 => ?_) (fun c_918 => ?_)
                                                · replace hf := if_p hf c_918
                                                  cases hf
                                                  exact x_sub [0, 1, 2, 3, 4, 5] hj_930_191 rfl
                                                · replace hf := if_n hf c_918
                                                  refine x_iload hc 7 dL_law_921 rfl ?_
                                                  refine x_iload hc 6 dL_law_923 rfl ?_
                                                  refine x_icmp_le (tgt := 930) hc dL_law_925 rfl (fun c_925 => ?_) (fun c_925 => ?_)
                                                  · replace hf := if_p hf c_925
                                                    cases hf
                                                    exact x_sub [0, 1, 2, 3, 4, 5] hj_930_191 rfl
                                                  · replace hf := if_n hf c_925
                                                    cases hf
                                              · replace hf := if_n hf c_899
                                                cases hf
                                            replace hf := hr
                                            clear hr
                                            refine x_if_ne (tgt := 892) hc dL_law_882 rfl (fun c_882 => ?_) (fun c_882 => ?_)
                                            · replace hf := if_n hf c_882
                                              cases hf
                                              exact x_sub [0, 1, 2, 3, 4, 6, 8, 10] hj_892_186 rfl
                                            · replace hf := if_p hf c_882
                                              refine x_iload hc 10 dL_law_885 rfl ?_
                                              refine x_iload hc 7 dL_law_887 rfl ?_
                                              refine x_icmp_ne (tgt := 902) hc dL_law_889 rfl (fun c_889 => ?_) (fun c_889 => ?_)
                                              · replace hf := if_n hf c_889
                                                cases hf
                                              · replace hf := if_p hf c_889
                                                cases hf
                                                exact x_sub [0, 1, 2, 3, 4, 6, 8, 10] hj_892_186 rfl
                            · replace hf := if_n hf c_794
                              cases hf
                · replace hf := if_n hf c_729
                  cases hf
    exact x_sub [0, 1, 2, 3, 4, 5, 6, 7, 8, 9, 10, 11] (c_L_law_l299_11 u6 u7 hc k_nl FU 0 0 G7 G123 hl_299 he_660_n11) rfl
  exact x_sub [0, 1, 2, 3, 4, 5, 6, 7, 8, 9, 10] (c_L_law_l272_3 u6 u7 hc k_nl FU 0 G G7 hl_272 he_293_n3) rfl
def f_L_lawD (u12 : Int64) (r : Int32) (G : G_) : Option Int32 :=
  if r = 0 then (
    none)
  else (
    bj1 (f_X7_digest G) fun w1 =>
    if lg_cmp w1 u12 = 0 then (
      some 1)
    else (
      none))
set_option maxHeartbeats 40000000 in
set_option maxRecDepth 100000 in
theorem c_L_lawD {K : CT} {Ts : List Cond} (u12 : Int64) (r : Int32) (G : G_) (hc : Ok K cL_law RL Ts ret 10 398 19) (k_nl : vNL (kV K) = 5) (hend : ∀ (L' : List (Nat × Value)) (G : G_), X K 965 L' [.int 1] G) (hf : f_L_lawD u12 r G = some 1) : X K 947 [(1, .ref (kad K 0)), (12, .long u12)] [.int r] G := by
  unfold f_L_lawD at hf
  refine x_if_eq (tgt := 964) hc dL_law_947 rfl (fun c_947 => ?_) (fun c_947 => ?_)
  · replace hf := if_p hf c_947
    cases hf
  · replace hf := if_n hf c_947
    refine x_aload_n hc 0 dL_law_950 rfl rfl ?_
    obtain ⟨w1, r2, hf⟩ := bj1_ok hf
    refine x_callVr (As := []) (p0 := 0) (v := (.long w1)) (T := TX7) hc (c_X7_digest (kl K) (kV K) G w1 r2) mw_X7_digest tw_610 (rfl : kd 0 = 7) (by decide) rfl rfl (Nat.le_of_ble_eq_true rfl) ⟨Nat.le_of_ble_eq_true rfl, Nat.le_of_ble_eq_true rfl⟩ dL_law_951 rfl ?_
    refine x_lload hc 1 dL_law_954 rfl ?_
    refine x_lcmp hc dL_law_956 ?_
    refine x_if_ne (tgt := 964) hc dL_law_957 rfl (fun c_957 => ?_) (fun c_957 => ?_)
    · replace hf := if_n hf c_957
      cases hf
    · replace hf := if_p hf c_957
      refine x_iconst (v := 1) hc rfl dL_law_960 ?_
      refine x_goto (tgt := 965) hc dL_law_961 rfl ?_
      cases hf
      exact hend _ _
theorem mw_L_salts : MWS yL_salts cL_salts 10 (some .boolean) 4 := ⟨⟨by decide, by decide, by decide +kernel⟩, tw_835, tw_27, tw_834⟩
theorem wv_eq {V : VT} {m : Nat} (h : vNL V = m) : wv_n V = 248 + min 6 m := by show NO + min 6 (vNL V) = _; rw [h]
def f_L_salts (G : G_) : Option (Int32 × G_) :=
  bj3 (f_L_saltsA G) fun u4 u5 G1 =>
  f_L_saltsB u4 u5 (z0 253 G1)
set_option maxHeartbeats 4000000 in
set_option maxRecDepth 100000 in
theorem c_L_salts (l : Launch) (V : VT) (G : G_) (r : Int32) (G' : G_) (k_nl : vNL V = 5) (k_av : ∀ q, V.2.2.1 0 ≤ q → V.2.2.2.1 q) (hf : f_L_salts G = some (r, G')) : MCn l V yL_salts cL_salts 10 (some .boolean) 7 170 1 8 [.ref (V.2.2.1 0), .ref (V.2.2.1 124), .ref (V.2.2.1 248), .ref (V.2.2.1 249)] G (some (.int r)) G' := by
  unfold f_L_salts at hf
  obtain ⟨u4, u5, G1, h1, h2⟩ := bj3_ok hf
  have e5 : wv_n V = 253 := by rw [wv_eq k_nl]; rfl
  have hlt : ∀ q, q < 253 → q < wv_n V := fun q h => by rw [e5]; exact h
  refine mcn_of (by decide) (Nat.le_of_ble_eq_true rfl) k_av (fun p e s m below meth c hA hc => ?_)
  refine c_L_saltsA (K := (p, l, e, _, s, m, _, below, meth, c, 10, V, 0, 0, _)) G u4 u5 G1 hc k_nl h1 ?_
  refine x_bipush (v := 8) hc rfl dL_salts_14 ?_
  refine x_newarr (N' := 8) (fun ad => [(0, .ref (ad 0)), (1, .ref (ad 124)), (2, .ref (ad 248)), (3, .ref (ad 249)), (4, .int u4), (5, .int u5)]) hc hA (by rw [k_nl]; decide) (by rw [e5]; rfl) (by decide) rfl (by decide) tw_91 (by decide) (by decide) (fun ad ad' h => by simp only [h 0 (hlt 0 (by decide)), h 124 (hlt 124 (by decide)), h 248 (hlt 248 (by decide)), h 249 (hlt 249 (by decide))]) dL_salts_16 (fun x hc2 => ?_)
  rw [e5]
  refine c_L_saltsB (K := (p, l, e, _, s, m, _, below, meth, c, 10, setN V x, 1, 8, _)) u4 u5 (z0 253 G1) r G' hc2 (by show vNL V + 1 = 6; rw [k_nl]) (fun hz L' => ?_) h2
  exact x_zretD (by rw [k_nl]; decide) hc2 rfl hz rfl dL_salts_211

def Scr (K : CT) (b L : Nat) (xs : Nat → Int32) : Prop := match K with
  | (p, l, e, R, s, m, args, below, meth, c, nL, V, cells, slots, Q) => va_X b L xs s s.heap ∧ b < s.heap.size ∧ ¬ V.2.2.2.1 b
theorem x_sld {K : CT} {cc : ByteArray} {own : String} {Ts : List Cond} {ret : Option FieldType} {fr lo nL0 pc : Nat} {L0 : List (Nat × Value)} {st : List Value} {G : G_} {b L : Nat} {xs : Nat → Int32} {i : Int32} (hc : Ok K cc own Ts ret fr lo nL0) (hs : Scr K b L xs) (hi : inb i L = true) (hd : decode cc pc = .ok (.iaload, 1)) (k : X K (pc + 1) L0 (.int (xs (ix i)) :: st) G) : X K pc L0 (.int i :: .ref b :: st) G := by
  obtain ⟨p, l, e, R, s, m, args, below, meth, c, nL, V, cells, slots, Q⟩ := K
  obtain ⟨hx, hb, -⟩ := hc
  exact fun H locs ls hP hS hl => va_sld hx hb hs.1 hs.2.1 hs.2.2 hS (inb_in hi) hd (k H locs ls hP hS hl)
theorem x_slen {K : CT} {cc : ByteArray} {own : String} {Ts : List Cond} {ret : Option FieldType} {fr lo nL0 pc : Nat} {L0 : List (Nat × Value)} {st : List Value} {G : G_} {b L : Nat} {xs : Nat → Int32} (hc : Ok K cc own Ts ret fr lo nL0) (hs : Scr K b L xs) (hd : decode cc pc = .ok (.arraylength, 1)) (k : X K (pc + 1) L0 (.int (Int32.ofNat L) :: st) G) : X K pc L0 (.ref b :: st) G := by
  obtain ⟨p, l, e, R, s, m, args, below, meth, c, nL, V, cells, slots, Q⟩ := K
  obtain ⟨hx, hb, -⟩ := hc
  exact fun H locs ls hP hS hl => va_slen hx hb hs.1 hs.2.1 hs.2.2 hS hd (k H locs ls hP hS hl)
theorem tw_357 : Cond.methodLink RL 13 yX7_row ∈ TB := TB_mem 357 (by decide +kernel) (by decide +kernel)
theorem tw_379 : Cond.methodLink RL 18 yX7_lay ∈ TB := TB_mem 379 (by decide +kernel) (by decide +kernel)
theorem tw_404 : Cond.methodLink RL 23 yX7_at ∈ TB := TB_mem 404 (by decide +kernel) (by decide +kernel)
theorem tw_408 : Cond.methodLink RL 27 yX7_tear ∈ TB := TB_mem 408 (by decide +kernel) (by decide +kernel)
theorem tw_412 : Cond.methodLink RL 32 yX7_copy ∈ TB := TB_mem 412 (by decide +kernel) (by decide +kernel)
theorem tw_423 : Cond.methodLink RL 37 yX7_mean ∈ TB := TB_mem 423 (by decide +kernel) (by decide +kernel)
theorem tw_432 : Cond.methodLink RL 41 yX7_text ∈ TB := TB_mem 432 (by decide +kernel) (by decide +kernel)
theorem tw_446 : Cond.methodLink RL 45 yX7_put ∈ TB := TB_mem 446 (by decide +kernel) (by decide +kernel)
theorem tw_467 : Cond.methodLink RL 49 yX7_fault ∈ TB := TB_mem 467 (by decide +kernel) (by decide +kernel)
theorem tw_514 : Cond.methodLink RL 54 yX7_slab ∈ TB := TB_mem 514 (by decide +kernel) (by decide +kernel)
theorem tw_526 : Cond.methodLink RL 58 yX7_plan ∈ TB := TB_mem 526 (by decide +kernel) (by decide +kernel)
theorem tw_556 : Cond.methodLink RL 62 yX7_about ∈ TB := TB_mem 556 (by decide +kernel) (by decide +kernel)
theorem tw_565 : Cond.methodLink RL 66 yX7_step ∈ TB := TB_mem 565 (by decide +kernel) (by decide +kernel)
theorem tw_575 : Cond.methodLink RL 70 yX7_dish ∈ TB := TB_mem 575 (by decide +kernel) (by decide +kernel)
theorem tw_586 : Cond.methodLink RL 74 yX7_go ∈ TB := TB_mem 586 (by decide +kernel) (by decide +kernel)
theorem tw_621 : Cond.methodLink RL 78 yX7_depth ∈ TB := TB_mem 621 (by decide +kernel) (by decide +kernel)
theorem tw_645 : Cond.methodLink RL 82 yX7_skin ∈ TB := TB_mem 645 (by decide +kernel) (by decide +kernel)
theorem tw_665 : Cond.methodLink RL 86 yX7_mark ∈ TB := TB_mem 665 (by decide +kernel) (by decide +kernel)
theorem tw_679 : Cond.methodLink RL 90 yX7_keep ∈ TB := TB_mem 679 (by decide +kernel) (by decide +kernel)
theorem tw_692 : Cond.methodLink RL 94 yX7_on ∈ TB := TB_mem 692 (by decide +kernel) (by decide +kernel)
theorem tw_696 : Cond.methodLink RL 98 yX7_just ∈ TB := TB_mem 696 (by decide +kernel) (by decide +kernel)
theorem tw_712 : Cond.methodLink RL 102 yX7_slice ∈ TB := TB_mem 712 (by decide +kernel) (by decide +kernel)
theorem tw_725 : Cond.methodLink RL 106 yX7_cut ∈ TB := TB_mem 725 (by decide +kernel) (by decide +kernel)
theorem tw_737 : Cond.methodLink RL 110 yX7_rise ∈ TB := TB_mem 737 (by decide +kernel) (by decide +kernel)
theorem tw_750 : Cond.methodLink RL 115 yX7_wire ∈ TB := TB_mem 750 (by decide +kernel) (by decide +kernel)
theorem tw_758 : Cond.methodLink RL 119 yX7_way ∈ TB := TB_mem 758 (by decide +kernel) (by decide +kernel)
theorem tw_778 : Cond.methodLink RL 124 yX7_often ∈ TB := TB_mem 778 (by decide +kernel) (by decide +kernel)
theorem tw_786 : Cond.methodLink RL 128 yX7_turns ∈ TB := TB_mem 786 (by decide +kernel) (by decide +kernel)
theorem tw_790 : Cond.methodLink RL 132 yX7_most ∈ TB := TB_mem 790 (by decide +kernel) (by decide +kernel)
theorem tw_797 : Cond.methodLink RL 136 yX7_off ∈ TB := TB_mem 797 (by decide +kernel) (by decide +kernel)
theorem tw_809 : Cond.methodLink RL 140 yX7_rest ∈ TB := TB_mem 809 (by decide +kernel) (by decide +kernel)
theorem tw_818 : Cond.methodLink RL 144 yX7_salt ∈ TB := TB_mem 818 (by decide +kernel) (by decide +kernel)
theorem tw_822 : Cond.methodLink RL 148 yX7_thick ∈ TB := TB_mem 822 (by decide +kernel) (by decide +kernel)
theorem tw_826 : Cond.methodLink RL 152 yX7_same ∈ TB := TB_mem 826 (by decide +kernel) (by decide +kernel)
theorem tw_835 : Cond.methodLink RL 157 yX7_order ∈ TB := TB_mem 835 (by decide +kernel) (by decide +kernel)
theorem tw_886 : Cond.methodLink RL 161 yX7_both ∈ TB := TB_mem 886 (by decide +kernel) (by decide +kernel)
theorem tw_893 : Cond.methodLink RL 165 yX7_safe ∈ TB := TB_mem 893 (by decide +kernel) (by decide +kernel)
theorem tw_897 : Cond.methodLink RL 169 yX7_which ∈ TB := TB_mem 897 (by decide +kernel) (by decide +kernel)
theorem tw_914 : Cond.methodLink RL 173 yX7_odds ∈ TB := TB_mem 914 (by decide +kernel) (by decide +kernel)
theorem tw_922 : Cond.methodLink RL 177 yX7_rule ∈ TB := TB_mem 922 (by decide +kernel) (by decide +kernel)
theorem tw_926 : Cond.methodLink RL 181 yX7_asked ∈ TB := TB_mem 926 (by decide +kernel) (by decide +kernel)
theorem tw_930 : Cond.methodLink RL 185 yX7_upper ∈ TB := TB_mem 930 (by decide +kernel) (by decide +kernel)
theorem tw_934 : Cond.methodLink RL 190 yX7_lower ∈ TB := TB_mem 934 (by decide +kernel) (by decide +kernel)
theorem tw_938 : Cond.methodLink RL 194 yX7_count ∈ TB := TB_mem 938 (by decide +kernel) (by decide +kernel)
theorem tw_966 : Cond.methodLink RL 198 yX7_finding ∈ TB := TB_mem 966 (by decide +kernel) (by decide +kernel)
theorem tw_970 : Cond.methodLink RL 202 yX7_findings ∈ TB := TB_mem 970 (by decide +kernel) (by decide +kernel)
theorem tw_974 : Cond.methodLink RL 206 yX7_digest ∈ TB := TB_mem 974 (by decide +kernel) (by decide +kernel)
theorem tw_1112 : Cond.methodLink RL 201 yX8_finding ∈ TB := TB_mem 1112 (by decide +kernel) (by decide +kernel)
theorem tw_1116 : Cond.methodLink RL 205 yX8_findings ∈ TB := TB_mem 1116 (by decide +kernel) (by decide +kernel)
theorem tw_1123 : Cond.methodLink RL 184 yX8_asked ∈ TB := TB_mem 1123 (by decide +kernel) (by decide +kernel)
theorem tw_1127 : Cond.methodLink RL 189 yX8_upper ∈ TB := TB_mem 1127 (by decide +kernel) (by decide +kernel)
theorem tw_1131 : Cond.methodLink RL 193 yX8_lower ∈ TB := TB_mem 1131 (by decide +kernel) (by decide +kernel)
theorem tw_1135 : Cond.methodLink RL 17 yX8_row ∈ TB := TB_mem 1135 (by decide +kernel) (by decide +kernel)
theorem tw_1146 : Cond.methodLink RL 22 yX8_lay ∈ TB := TB_mem 1146 (by decide +kernel) (by decide +kernel)
theorem tw_1158 : Cond.methodLink RL 26 yX8_at ∈ TB := TB_mem 1158 (by decide +kernel) (by decide +kernel)
theorem tw_1162 : Cond.methodLink RL 31 yX8_tear ∈ TB := TB_mem 1162 (by decide +kernel) (by decide +kernel)
theorem tw_1166 : Cond.methodLink RL 36 yX8_copy ∈ TB := TB_mem 1166 (by decide +kernel) (by decide +kernel)
theorem tw_1170 : Cond.methodLink RL 40 yX8_mean ∈ TB := TB_mem 1170 (by decide +kernel) (by decide +kernel)
theorem tw_1174 : Cond.methodLink RL 44 yX8_text ∈ TB := TB_mem 1174 (by decide +kernel) (by decide +kernel)
theorem tw_1181 : Cond.methodLink RL 48 yX8_put ∈ TB := TB_mem 1181 (by decide +kernel) (by decide +kernel)
theorem tw_1185 : Cond.methodLink RL 53 yX8_fault ∈ TB := TB_mem 1185 (by decide +kernel) (by decide +kernel)
theorem tw_1219 : Cond.methodLink RL 57 yX8_slab ∈ TB := TB_mem 1219 (by decide +kernel) (by decide +kernel)
theorem tw_1226 : Cond.methodLink RL 61 yX8_plan ∈ TB := TB_mem 1226 (by decide +kernel) (by decide +kernel)
theorem tw_1230 : Cond.methodLink RL 65 yX8_about ∈ TB := TB_mem 1230 (by decide +kernel) (by decide +kernel)
theorem tw_1234 : Cond.methodLink RL 69 yX8_step ∈ TB := TB_mem 1234 (by decide +kernel) (by decide +kernel)
theorem tw_1242 : Cond.methodLink RL 73 yX8_dish ∈ TB := TB_mem 1242 (by decide +kernel) (by decide +kernel)
theorem tw_1277 : Cond.methodLink RL 77 yX8_go ∈ TB := TB_mem 1277 (by decide +kernel) (by decide +kernel)
theorem tw_1317 : Cond.methodLink RL 81 yX8_depth ∈ TB := TB_mem 1317 (by decide +kernel) (by decide +kernel)
theorem tw_1325 : Cond.methodLink RL 85 yX8_skin ∈ TB := TB_mem 1325 (by decide +kernel) (by decide +kernel)
theorem tw_1337 : Cond.methodLink RL 89 yX8_mark ∈ TB := TB_mem 1337 (by decide +kernel) (by decide +kernel)
theorem tw_1344 : Cond.methodLink RL 93 yX8_keep ∈ TB := TB_mem 1344 (by decide +kernel) (by decide +kernel)
theorem tw_1352 : Cond.methodLink RL 97 yX8_on ∈ TB := TB_mem 1352 (by decide +kernel) (by decide +kernel)
theorem tw_1356 : Cond.methodLink RL 101 yX8_just ∈ TB := TB_mem 1356 (by decide +kernel) (by decide +kernel)
theorem tw_1371 : Cond.methodLink RL 105 yX8_slice ∈ TB := TB_mem 1371 (by decide +kernel) (by decide +kernel)
theorem tw_1383 : Cond.methodLink RL 109 yX8_cut ∈ TB := TB_mem 1383 (by decide +kernel) (by decide +kernel)
theorem tw_1398 : Cond.methodLink RL 114 yX8_rise ∈ TB := TB_mem 1398 (by decide +kernel) (by decide +kernel)
theorem tw_1406 : Cond.methodLink RL 118 yX8_wire ∈ TB := TB_mem 1406 (by decide +kernel) (by decide +kernel)
theorem tw_1410 : Cond.methodLink RL 123 yX8_way ∈ TB := TB_mem 1410 (by decide +kernel) (by decide +kernel)
theorem tw_1437 : Cond.methodLink RL 127 yX8_often ∈ TB := TB_mem 1437 (by decide +kernel) (by decide +kernel)
theorem tw_1441 : Cond.methodLink RL 131 yX8_turns ∈ TB := TB_mem 1441 (by decide +kernel) (by decide +kernel)
theorem tw_1445 : Cond.methodLink RL 135 yX8_most ∈ TB := TB_mem 1445 (by decide +kernel) (by decide +kernel)
theorem tw_1452 : Cond.methodLink RL 139 yX8_off ∈ TB := TB_mem 1452 (by decide +kernel) (by decide +kernel)
theorem tw_1459 : Cond.methodLink RL 143 yX8_rest ∈ TB := TB_mem 1459 (by decide +kernel) (by decide +kernel)
theorem tw_1471 : Cond.methodLink RL 147 yX8_salt ∈ TB := TB_mem 1471 (by decide +kernel) (by decide +kernel)
theorem tw_1475 : Cond.methodLink RL 151 yX8_thick ∈ TB := TB_mem 1475 (by decide +kernel) (by decide +kernel)
theorem tw_1479 : Cond.methodLink RL 156 yX8_same ∈ TB := TB_mem 1479 (by decide +kernel) (by decide +kernel)
theorem tw_1490 : Cond.methodLink RL 160 yX8_order ∈ TB := TB_mem 1490 (by decide +kernel) (by decide +kernel)
theorem tw_1506 : Cond.methodLink RL 164 yX8_both ∈ TB := TB_mem 1506 (by decide +kernel) (by decide +kernel)
theorem tw_1513 : Cond.methodLink RL 168 yX8_safe ∈ TB := TB_mem 1513 (by decide +kernel) (by decide +kernel)
theorem tw_1517 : Cond.methodLink RL 172 yX8_which ∈ TB := TB_mem 1517 (by decide +kernel) (by decide +kernel)
theorem tw_1529 : Cond.methodLink RL 176 yX8_odds ∈ TB := TB_mem 1529 (by decide +kernel) (by decide +kernel)
theorem tw_1537 : Cond.methodLink RL 180 yX8_rule ∈ TB := TB_mem 1537 (by decide +kernel) (by decide +kernel)
theorem tw_1541 : Cond.methodLink RL 197 yX8_count ∈ TB := TB_mem 1541 (by decide +kernel) (by decide +kernel)
theorem tw_1549 : Cond.methodLink RL 209 yX8_digest ∈ TB := TB_mem 1549 (by decide +kernel) (by decide +kernel)
theorem dL_law_0 : decode cL_law 0 = .ok (.new 7, 3) := by decide +kernel
theorem dL_law_3 : decode cL_law 3 = .ok (.dup, 1) := by decide +kernel
theorem dL_law_4 : decode cL_law 4 = .ok (.invokespecial 9, 3) := by decide +kernel
theorem dL_law_7 : decode cL_law 7 = .ok (.astore_n 1, 1) := by decide +kernel
theorem dL_law_8 : decode cL_law 8 = .ok (.new 10, 3) := by decide +kernel
theorem dL_law_11 : decode cL_law 11 = .ok (.dup, 1) := by decide +kernel
theorem dL_law_12 : decode cL_law 12 = .ok (.invokespecial 12, 3) := by decide +kernel
theorem dL_law_15 : decode cL_law 15 = .ok (.astore_n 2, 1) := by decide +kernel
theorem dL_law_16 : decode cL_law 16 = .ok (.iconst 0, 1) := by decide +kernel
theorem dL_law_17 : decode cL_law 17 = .ok (.istore_n 3, 1) := by decide +kernel
theorem dL_law_18 : decode cL_law 18 = .ok (.iload_n 3, 1) := by decide +kernel
theorem dL_law_19 : decode cL_law 19 = .ok (.aload_n 0, 1) := by decide +kernel
theorem dL_law_20 : decode cL_law 20 = .ok (.arraylength, 1) := by decide +kernel
theorem dL_law_21 : decode cL_law 21 = .ok (.bipush 7, 2) := by decide +kernel
theorem dL_law_23 : decode cL_law 23 = .ok (.isub, 1) := by decide +kernel
theorem dL_law_24 : decode cL_law 24 = .ok (.if_icmp .gt 1810, 3) := by decide +kernel
theorem dL_law_27 : decode cL_law 27 = .ok (.aload_n 0, 1) := by decide +kernel
theorem dL_law_28 : decode cL_law 28 = .ok (.iload_n 3, 1) := by decide +kernel
theorem dL_law_29 : decode cL_law 29 = .ok (.iaload, 1) := by decide +kernel
theorem dL_law_30 : decode cL_law 30 = .ok (.bipush 63, 2) := by decide +kernel
theorem dL_law_32 : decode cL_law 32 = .ok (.iand, 1) := by decide +kernel
theorem dL_law_33 : decode cL_law 33 = .ok (.tableswitch 1795 0 46 #[203, 236, 279, 312, 335, 398, 421, 454, 497, 546, 579, 612, 645, 678, 711, 734, 767, 800, 833, 856, 879, 912, 935, 958, 971, 994, 1047, 1100, 1143, 1196, 1249, 1282, 1315, 1368, 1443, 1476, 1539, 1572, 1595, 1628, 1681, 1694, 1708, 1722, 1745, 1758, 1781], 203) := by decide +kernel
theorem dL_law_236 : decode cL_law 236 = .ok (.aload_n 1, 1) := by decide +kernel
theorem dL_law_237 : decode cL_law 237 = .ok (.aload_n 0, 1) := by decide +kernel
theorem dL_law_238 : decode cL_law 238 = .ok (.iload_n 3, 1) := by decide +kernel
theorem dL_law_239 : decode cL_law 239 = .ok (.iconst 1, 1) := by decide +kernel
theorem dL_law_240 : decode cL_law 240 = .ok (.iadd, 1) := by decide +kernel
theorem dL_law_241 : decode cL_law 241 = .ok (.iaload, 1) := by decide +kernel
theorem dL_law_242 : decode cL_law 242 = .ok (.aload_n 0, 1) := by decide +kernel
theorem dL_law_243 : decode cL_law 243 = .ok (.iload_n 3, 1) := by decide +kernel
theorem dL_law_244 : decode cL_law 244 = .ok (.iconst 2, 1) := by decide +kernel
theorem dL_law_245 : decode cL_law 245 = .ok (.iadd, 1) := by decide +kernel
theorem dL_law_246 : decode cL_law 246 = .ok (.iaload, 1) := by decide +kernel
theorem dL_law_247 : decode cL_law 247 = .ok (.invokevirtual 13, 3) := by decide +kernel
theorem dL_law_250 : decode cL_law 250 = .ok (.aload_n 2, 1) := by decide +kernel
theorem dL_law_251 : decode cL_law 251 = .ok (.aload_n 0, 1) := by decide +kernel
theorem dL_law_252 : decode cL_law 252 = .ok (.iload_n 3, 1) := by decide +kernel
theorem dL_law_253 : decode cL_law 253 = .ok (.iconst 1, 1) := by decide +kernel
theorem dL_law_254 : decode cL_law 254 = .ok (.iadd, 1) := by decide +kernel
theorem dL_law_255 : decode cL_law 255 = .ok (.iaload, 1) := by decide +kernel
theorem dL_law_256 : decode cL_law 256 = .ok (.aload_n 0, 1) := by decide +kernel
theorem dL_law_257 : decode cL_law 257 = .ok (.iload_n 3, 1) := by decide +kernel
theorem dL_law_258 : decode cL_law 258 = .ok (.iconst 2, 1) := by decide +kernel
theorem dL_law_259 : decode cL_law 259 = .ok (.iadd, 1) := by decide +kernel
theorem dL_law_260 : decode cL_law 260 = .ok (.iaload, 1) := by decide +kernel
theorem dL_law_261 : decode cL_law 261 = .ok (.invokevirtual 17, 3) := by decide +kernel
theorem dL_law_264 : decode cL_law 264 = .ok (.if_icmp .eq 1564, 3) := by decide +kernel
theorem dL_law_267 : decode cL_law 267 = .ok (.iconst 0, 1) := by decide +kernel
theorem dL_law_268 : decode cL_law 268 = .ok (.ireturn, 1) := by decide +kernel
theorem dL_law_269 : decode cL_law 269 = .ok (.aload_n 1, 1) := by decide +kernel
theorem dL_law_270 : decode cL_law 270 = .ok (.aload_n 0, 1) := by decide +kernel
theorem dL_law_271 : decode cL_law 271 = .ok (.iload_n 3, 1) := by decide +kernel
theorem dL_law_272 : decode cL_law 272 = .ok (.iconst 1, 1) := by decide +kernel
theorem dL_law_273 : decode cL_law 273 = .ok (.iadd, 1) := by decide +kernel
theorem dL_law_274 : decode cL_law 274 = .ok (.iaload, 1) := by decide +kernel
theorem dL_law_275 : decode cL_law 275 = .ok (.aload_n 0, 1) := by decide +kernel
theorem dL_law_276 : decode cL_law 276 = .ok (.iload_n 3, 1) := by decide +kernel
theorem dL_law_277 : decode cL_law 277 = .ok (.iconst 2, 1) := by decide +kernel
theorem dL_law_278 : decode cL_law 278 = .ok (.iadd, 1) := by decide +kernel
theorem dL_law_279 : decode cL_law 279 = .ok (.iaload, 1) := by decide +kernel
theorem dL_law_280 : decode cL_law 280 = .ok (.aload_n 0, 1) := by decide +kernel
theorem dL_law_281 : decode cL_law 281 = .ok (.iload_n 3, 1) := by decide +kernel
theorem dL_law_282 : decode cL_law 282 = .ok (.iconst 3, 1) := by decide +kernel
theorem dL_law_283 : decode cL_law 283 = .ok (.iadd, 1) := by decide +kernel
theorem dL_law_284 : decode cL_law 284 = .ok (.iaload, 1) := by decide +kernel
theorem dL_law_285 : decode cL_law 285 = .ok (.invokevirtual 18, 3) := by decide +kernel
theorem dL_law_288 : decode cL_law 288 = .ok (.aload_n 2, 1) := by decide +kernel
theorem dL_law_289 : decode cL_law 289 = .ok (.aload_n 0, 1) := by decide +kernel
theorem dL_law_290 : decode cL_law 290 = .ok (.iload_n 3, 1) := by decide +kernel
theorem dL_law_291 : decode cL_law 291 = .ok (.iconst 1, 1) := by decide +kernel
theorem dL_law_292 : decode cL_law 292 = .ok (.iadd, 1) := by decide +kernel
theorem dL_law_293 : decode cL_law 293 = .ok (.iaload, 1) := by decide +kernel
theorem dL_law_294 : decode cL_law 294 = .ok (.aload_n 0, 1) := by decide +kernel
theorem dL_law_295 : decode cL_law 295 = .ok (.iload_n 3, 1) := by decide +kernel
theorem dL_law_296 : decode cL_law 296 = .ok (.iconst 2, 1) := by decide +kernel
theorem dL_law_297 : decode cL_law 297 = .ok (.iadd, 1) := by decide +kernel
theorem dL_law_298 : decode cL_law 298 = .ok (.iaload, 1) := by decide +kernel
theorem dL_law_299 : decode cL_law 299 = .ok (.aload_n 0, 1) := by decide +kernel
theorem dL_law_300 : decode cL_law 300 = .ok (.iload_n 3, 1) := by decide +kernel
theorem dL_law_301 : decode cL_law 301 = .ok (.iconst 3, 1) := by decide +kernel
theorem dL_law_302 : decode cL_law 302 = .ok (.iadd, 1) := by decide +kernel
theorem dL_law_303 : decode cL_law 303 = .ok (.iaload, 1) := by decide +kernel
theorem dL_law_304 : decode cL_law 304 = .ok (.invokevirtual 22, 3) := by decide +kernel
theorem dL_law_307 : decode cL_law 307 = .ok (.if_icmp .eq 1521, 3) := by decide +kernel
theorem dL_law_310 : decode cL_law 310 = .ok (.iconst 0, 1) := by decide +kernel
theorem dL_law_311 : decode cL_law 311 = .ok (.ireturn, 1) := by decide +kernel
theorem dL_law_312 : decode cL_law 312 = .ok (.aload_n 1, 1) := by decide +kernel
theorem dL_law_313 : decode cL_law 313 = .ok (.aload_n 0, 1) := by decide +kernel
theorem dL_law_314 : decode cL_law 314 = .ok (.iload_n 3, 1) := by decide +kernel
theorem dL_law_315 : decode cL_law 315 = .ok (.iconst 1, 1) := by decide +kernel
theorem dL_law_316 : decode cL_law 316 = .ok (.iadd, 1) := by decide +kernel
theorem dL_law_317 : decode cL_law 317 = .ok (.iaload, 1) := by decide +kernel
theorem dL_law_318 : decode cL_law 318 = .ok (.aload_n 0, 1) := by decide +kernel
theorem dL_law_319 : decode cL_law 319 = .ok (.iload_n 3, 1) := by decide +kernel
theorem dL_law_320 : decode cL_law 320 = .ok (.iconst 2, 1) := by decide +kernel
theorem dL_law_321 : decode cL_law 321 = .ok (.iadd, 1) := by decide +kernel
theorem dL_law_322 : decode cL_law 322 = .ok (.iaload, 1) := by decide +kernel
theorem dL_law_323 : decode cL_law 323 = .ok (.invokevirtual 23, 3) := by decide +kernel
theorem dL_law_326 : decode cL_law 326 = .ok (.aload_n 2, 1) := by decide +kernel
theorem dL_law_327 : decode cL_law 327 = .ok (.aload_n 0, 1) := by decide +kernel
theorem dL_law_328 : decode cL_law 328 = .ok (.iload_n 3, 1) := by decide +kernel
theorem dL_law_329 : decode cL_law 329 = .ok (.iconst 1, 1) := by decide +kernel
theorem dL_law_330 : decode cL_law 330 = .ok (.iadd, 1) := by decide +kernel
theorem dL_law_331 : decode cL_law 331 = .ok (.iaload, 1) := by decide +kernel
theorem dL_law_332 : decode cL_law 332 = .ok (.aload_n 0, 1) := by decide +kernel
theorem dL_law_333 : decode cL_law 333 = .ok (.iload_n 3, 1) := by decide +kernel
theorem dL_law_334 : decode cL_law 334 = .ok (.iconst 2, 1) := by decide +kernel
theorem dL_law_335 : decode cL_law 335 = .ok (.iadd, 1) := by decide +kernel
theorem dL_law_336 : decode cL_law 336 = .ok (.iaload, 1) := by decide +kernel
theorem dL_law_337 : decode cL_law 337 = .ok (.invokevirtual 26, 3) := by decide +kernel
theorem dL_law_340 : decode cL_law 340 = .ok (.if_icmp .eq 1488, 3) := by decide +kernel
theorem dL_law_343 : decode cL_law 343 = .ok (.iconst 0, 1) := by decide +kernel
theorem dL_law_344 : decode cL_law 344 = .ok (.ireturn, 1) := by decide +kernel
theorem dL_law_345 : decode cL_law 345 = .ok (.aload_n 1, 1) := by decide +kernel
theorem dL_law_346 : decode cL_law 346 = .ok (.aload_n 0, 1) := by decide +kernel
theorem dL_law_347 : decode cL_law 347 = .ok (.iload_n 3, 1) := by decide +kernel
theorem dL_law_348 : decode cL_law 348 = .ok (.iconst 1, 1) := by decide +kernel
theorem dL_law_349 : decode cL_law 349 = .ok (.iadd, 1) := by decide +kernel
theorem dL_law_350 : decode cL_law 350 = .ok (.iaload, 1) := by decide +kernel
theorem dL_law_351 : decode cL_law 351 = .ok (.invokevirtual 27, 3) := by decide +kernel
theorem dL_law_354 : decode cL_law 354 = .ok (.aload_n 2, 1) := by decide +kernel
theorem dL_law_355 : decode cL_law 355 = .ok (.aload_n 0, 1) := by decide +kernel
theorem dL_law_356 : decode cL_law 356 = .ok (.iload_n 3, 1) := by decide +kernel
theorem dL_law_357 : decode cL_law 357 = .ok (.iconst 1, 1) := by decide +kernel
theorem dL_law_358 : decode cL_law 358 = .ok (.iadd, 1) := by decide +kernel
theorem dL_law_359 : decode cL_law 359 = .ok (.iaload, 1) := by decide +kernel
theorem dL_law_360 : decode cL_law 360 = .ok (.invokevirtual 31, 3) := by decide +kernel
theorem dL_law_363 : decode cL_law 363 = .ok (.if_icmp .eq 1465, 3) := by decide +kernel
theorem dL_law_366 : decode cL_law 366 = .ok (.iconst 0, 1) := by decide +kernel
theorem dL_law_367 : decode cL_law 367 = .ok (.ireturn, 1) := by decide +kernel
theorem dL_law_368 : decode cL_law 368 = .ok (.aload_n 1, 1) := by decide +kernel
theorem dL_law_369 : decode cL_law 369 = .ok (.aload_n 0, 1) := by decide +kernel
theorem dL_law_370 : decode cL_law 370 = .ok (.iload_n 3, 1) := by decide +kernel
theorem dL_law_371 : decode cL_law 371 = .ok (.iconst 1, 1) := by decide +kernel
theorem dL_law_372 : decode cL_law 372 = .ok (.iadd, 1) := by decide +kernel
theorem dL_law_373 : decode cL_law 373 = .ok (.iaload, 1) := by decide +kernel
theorem dL_law_374 : decode cL_law 374 = .ok (.aload_n 0, 1) := by decide +kernel
theorem dL_law_375 : decode cL_law 375 = .ok (.iload_n 3, 1) := by decide +kernel
theorem dL_law_376 : decode cL_law 376 = .ok (.iconst 2, 1) := by decide +kernel
theorem dL_law_377 : decode cL_law 377 = .ok (.iadd, 1) := by decide +kernel
theorem dL_law_378 : decode cL_law 378 = .ok (.iaload, 1) := by decide +kernel
theorem dL_law_379 : decode cL_law 379 = .ok (.aload_n 0, 1) := by decide +kernel
theorem dL_law_380 : decode cL_law 380 = .ok (.iload_n 3, 1) := by decide +kernel
theorem dL_law_381 : decode cL_law 381 = .ok (.iconst 3, 1) := by decide +kernel
theorem dL_law_382 : decode cL_law 382 = .ok (.iadd, 1) := by decide +kernel
theorem dL_law_383 : decode cL_law 383 = .ok (.iaload, 1) := by decide +kernel
theorem dL_law_384 : decode cL_law 384 = .ok (.aload_n 0, 1) := by decide +kernel
theorem dL_law_385 : decode cL_law 385 = .ok (.iload_n 3, 1) := by decide +kernel
theorem dL_law_386 : decode cL_law 386 = .ok (.iconst 4, 1) := by decide +kernel
theorem dL_law_387 : decode cL_law 387 = .ok (.iadd, 1) := by decide +kernel
theorem dL_law_388 : decode cL_law 388 = .ok (.iaload, 1) := by decide +kernel
theorem dL_law_389 : decode cL_law 389 = .ok (.aload_n 0, 1) := by decide +kernel
theorem dL_law_390 : decode cL_law 390 = .ok (.iload_n 3, 1) := by decide +kernel
theorem dL_law_391 : decode cL_law 391 = .ok (.iconst 5, 1) := by decide +kernel
theorem dL_law_392 : decode cL_law 392 = .ok (.iadd, 1) := by decide +kernel
theorem dL_law_393 : decode cL_law 393 = .ok (.iaload, 1) := by decide +kernel
theorem dL_law_394 : decode cL_law 394 = .ok (.invokevirtual 32, 3) := by decide +kernel
theorem dL_law_397 : decode cL_law 397 = .ok (.aload_n 2, 1) := by decide +kernel
theorem dL_law_398 : decode cL_law 398 = .ok (.aload_n 0, 1) := by decide +kernel
theorem dL_law_399 : decode cL_law 399 = .ok (.iload_n 3, 1) := by decide +kernel
theorem dL_law_400 : decode cL_law 400 = .ok (.iconst 1, 1) := by decide +kernel
theorem dL_law_401 : decode cL_law 401 = .ok (.iadd, 1) := by decide +kernel
theorem dL_law_402 : decode cL_law 402 = .ok (.iaload, 1) := by decide +kernel
theorem dL_law_403 : decode cL_law 403 = .ok (.aload_n 0, 1) := by decide +kernel
theorem dL_law_404 : decode cL_law 404 = .ok (.iload_n 3, 1) := by decide +kernel
theorem dL_law_405 : decode cL_law 405 = .ok (.iconst 2, 1) := by decide +kernel
theorem dL_law_406 : decode cL_law 406 = .ok (.iadd, 1) := by decide +kernel
theorem dL_law_407 : decode cL_law 407 = .ok (.iaload, 1) := by decide +kernel
theorem dL_law_408 : decode cL_law 408 = .ok (.aload_n 0, 1) := by decide +kernel
theorem dL_law_409 : decode cL_law 409 = .ok (.iload_n 3, 1) := by decide +kernel
theorem dL_law_410 : decode cL_law 410 = .ok (.iconst 3, 1) := by decide +kernel
theorem dL_law_411 : decode cL_law 411 = .ok (.iadd, 1) := by decide +kernel
theorem dL_law_412 : decode cL_law 412 = .ok (.iaload, 1) := by decide +kernel
theorem dL_law_413 : decode cL_law 413 = .ok (.aload_n 0, 1) := by decide +kernel
theorem dL_law_414 : decode cL_law 414 = .ok (.iload_n 3, 1) := by decide +kernel
theorem dL_law_415 : decode cL_law 415 = .ok (.iconst 4, 1) := by decide +kernel
theorem dL_law_416 : decode cL_law 416 = .ok (.iadd, 1) := by decide +kernel
theorem dL_law_417 : decode cL_law 417 = .ok (.iaload, 1) := by decide +kernel
theorem dL_law_418 : decode cL_law 418 = .ok (.aload_n 0, 1) := by decide +kernel
theorem dL_law_419 : decode cL_law 419 = .ok (.iload_n 3, 1) := by decide +kernel
theorem dL_law_420 : decode cL_law 420 = .ok (.iconst 5, 1) := by decide +kernel
theorem dL_law_421 : decode cL_law 421 = .ok (.iadd, 1) := by decide +kernel
theorem dL_law_422 : decode cL_law 422 = .ok (.iaload, 1) := by decide +kernel
theorem dL_law_423 : decode cL_law 423 = .ok (.invokevirtual 36, 3) := by decide +kernel
theorem dL_law_426 : decode cL_law 426 = .ok (.if_icmp .eq 1402, 3) := by decide +kernel
theorem dL_law_429 : decode cL_law 429 = .ok (.iconst 0, 1) := by decide +kernel
theorem dL_law_430 : decode cL_law 430 = .ok (.ireturn, 1) := by decide +kernel
theorem dL_law_431 : decode cL_law 431 = .ok (.aload_n 1, 1) := by decide +kernel
theorem dL_law_432 : decode cL_law 432 = .ok (.aload_n 0, 1) := by decide +kernel
theorem dL_law_433 : decode cL_law 433 = .ok (.iload_n 3, 1) := by decide +kernel
theorem dL_law_434 : decode cL_law 434 = .ok (.iconst 1, 1) := by decide +kernel
theorem dL_law_435 : decode cL_law 435 = .ok (.iadd, 1) := by decide +kernel
theorem dL_law_436 : decode cL_law 436 = .ok (.iaload, 1) := by decide +kernel
theorem dL_law_437 : decode cL_law 437 = .ok (.invokevirtual 37, 3) := by decide +kernel
theorem dL_law_440 : decode cL_law 440 = .ok (.aload_n 2, 1) := by decide +kernel
theorem dL_law_441 : decode cL_law 441 = .ok (.aload_n 0, 1) := by decide +kernel
theorem dL_law_442 : decode cL_law 442 = .ok (.iload_n 3, 1) := by decide +kernel
theorem dL_law_443 : decode cL_law 443 = .ok (.iconst 1, 1) := by decide +kernel
theorem dL_law_444 : decode cL_law 444 = .ok (.iadd, 1) := by decide +kernel
theorem dL_law_445 : decode cL_law 445 = .ok (.iaload, 1) := by decide +kernel
theorem dL_law_446 : decode cL_law 446 = .ok (.invokevirtual 40, 3) := by decide +kernel
theorem dL_law_449 : decode cL_law 449 = .ok (.if_icmp .eq 1379, 3) := by decide +kernel
theorem dL_law_452 : decode cL_law 452 = .ok (.iconst 0, 1) := by decide +kernel
theorem dL_law_453 : decode cL_law 453 = .ok (.ireturn, 1) := by decide +kernel
theorem dL_law_454 : decode cL_law 454 = .ok (.aload_n 1, 1) := by decide +kernel
theorem dL_law_455 : decode cL_law 455 = .ok (.aload_n 0, 1) := by decide +kernel
theorem dL_law_456 : decode cL_law 456 = .ok (.iload_n 3, 1) := by decide +kernel
theorem dL_law_457 : decode cL_law 457 = .ok (.iconst 1, 1) := by decide +kernel
theorem dL_law_458 : decode cL_law 458 = .ok (.iadd, 1) := by decide +kernel
theorem dL_law_459 : decode cL_law 459 = .ok (.iaload, 1) := by decide +kernel
theorem dL_law_460 : decode cL_law 460 = .ok (.aload_n 0, 1) := by decide +kernel
theorem dL_law_461 : decode cL_law 461 = .ok (.iload_n 3, 1) := by decide +kernel
theorem dL_law_462 : decode cL_law 462 = .ok (.iconst 2, 1) := by decide +kernel
theorem dL_law_463 : decode cL_law 463 = .ok (.iadd, 1) := by decide +kernel
theorem dL_law_464 : decode cL_law 464 = .ok (.iaload, 1) := by decide +kernel
theorem dL_law_465 : decode cL_law 465 = .ok (.invokevirtual 41, 3) := by decide +kernel
theorem dL_law_468 : decode cL_law 468 = .ok (.aload_n 2, 1) := by decide +kernel
theorem dL_law_469 : decode cL_law 469 = .ok (.aload_n 0, 1) := by decide +kernel
theorem dL_law_470 : decode cL_law 470 = .ok (.iload_n 3, 1) := by decide +kernel
theorem dL_law_471 : decode cL_law 471 = .ok (.iconst 1, 1) := by decide +kernel
theorem dL_law_472 : decode cL_law 472 = .ok (.iadd, 1) := by decide +kernel
theorem dL_law_473 : decode cL_law 473 = .ok (.iaload, 1) := by decide +kernel
theorem dL_law_474 : decode cL_law 474 = .ok (.aload_n 0, 1) := by decide +kernel
theorem dL_law_475 : decode cL_law 475 = .ok (.iload_n 3, 1) := by decide +kernel
theorem dL_law_476 : decode cL_law 476 = .ok (.iconst 2, 1) := by decide +kernel
theorem dL_law_477 : decode cL_law 477 = .ok (.iadd, 1) := by decide +kernel
theorem dL_law_478 : decode cL_law 478 = .ok (.iaload, 1) := by decide +kernel
theorem dL_law_479 : decode cL_law 479 = .ok (.invokevirtual 44, 3) := by decide +kernel
theorem dL_law_482 : decode cL_law 482 = .ok (.if_icmp .eq 1346, 3) := by decide +kernel
theorem dL_law_485 : decode cL_law 485 = .ok (.iconst 0, 1) := by decide +kernel
theorem dL_law_486 : decode cL_law 486 = .ok (.ireturn, 1) := by decide +kernel
theorem dL_law_487 : decode cL_law 487 = .ok (.aload_n 1, 1) := by decide +kernel
theorem dL_law_488 : decode cL_law 488 = .ok (.aload_n 0, 1) := by decide +kernel
theorem dL_law_489 : decode cL_law 489 = .ok (.iload_n 3, 1) := by decide +kernel
theorem dL_law_490 : decode cL_law 490 = .ok (.iconst 1, 1) := by decide +kernel
theorem dL_law_491 : decode cL_law 491 = .ok (.iadd, 1) := by decide +kernel
theorem dL_law_492 : decode cL_law 492 = .ok (.iaload, 1) := by decide +kernel
theorem dL_law_493 : decode cL_law 493 = .ok (.aload_n 0, 1) := by decide +kernel
theorem dL_law_494 : decode cL_law 494 = .ok (.iload_n 3, 1) := by decide +kernel
theorem dL_law_495 : decode cL_law 495 = .ok (.iconst 2, 1) := by decide +kernel
theorem dL_law_496 : decode cL_law 496 = .ok (.iadd, 1) := by decide +kernel
theorem dL_law_497 : decode cL_law 497 = .ok (.iaload, 1) := by decide +kernel
theorem dL_law_498 : decode cL_law 498 = .ok (.aload_n 0, 1) := by decide +kernel
theorem dL_law_499 : decode cL_law 499 = .ok (.iload_n 3, 1) := by decide +kernel
theorem dL_law_500 : decode cL_law 500 = .ok (.iconst 3, 1) := by decide +kernel
theorem dL_law_501 : decode cL_law 501 = .ok (.iadd, 1) := by decide +kernel
theorem dL_law_502 : decode cL_law 502 = .ok (.iaload, 1) := by decide +kernel
theorem dL_law_503 : decode cL_law 503 = .ok (.invokevirtual 45, 3) := by decide +kernel
theorem dL_law_506 : decode cL_law 506 = .ok (.aload_n 2, 1) := by decide +kernel
theorem dL_law_507 : decode cL_law 507 = .ok (.aload_n 0, 1) := by decide +kernel
theorem dL_law_508 : decode cL_law 508 = .ok (.iload_n 3, 1) := by decide +kernel
theorem dL_law_509 : decode cL_law 509 = .ok (.iconst 1, 1) := by decide +kernel
theorem dL_law_510 : decode cL_law 510 = .ok (.iadd, 1) := by decide +kernel
theorem dL_law_511 : decode cL_law 511 = .ok (.iaload, 1) := by decide +kernel
theorem dL_law_512 : decode cL_law 512 = .ok (.aload_n 0, 1) := by decide +kernel
theorem dL_law_513 : decode cL_law 513 = .ok (.iload_n 3, 1) := by decide +kernel
theorem dL_law_514 : decode cL_law 514 = .ok (.iconst 2, 1) := by decide +kernel
theorem dL_law_515 : decode cL_law 515 = .ok (.iadd, 1) := by decide +kernel
theorem dL_law_516 : decode cL_law 516 = .ok (.iaload, 1) := by decide +kernel
theorem dL_law_517 : decode cL_law 517 = .ok (.aload_n 0, 1) := by decide +kernel
theorem dL_law_518 : decode cL_law 518 = .ok (.iload_n 3, 1) := by decide +kernel
theorem dL_law_519 : decode cL_law 519 = .ok (.iconst 3, 1) := by decide +kernel
theorem dL_law_520 : decode cL_law 520 = .ok (.iadd, 1) := by decide +kernel
theorem dL_law_521 : decode cL_law 521 = .ok (.iaload, 1) := by decide +kernel
theorem dL_law_522 : decode cL_law 522 = .ok (.invokevirtual 48, 3) := by decide +kernel
theorem dL_law_525 : decode cL_law 525 = .ok (.if_icmp .eq 1303, 3) := by decide +kernel
theorem dL_law_528 : decode cL_law 528 = .ok (.iconst 0, 1) := by decide +kernel
theorem dL_law_529 : decode cL_law 529 = .ok (.ireturn, 1) := by decide +kernel
theorem dL_law_530 : decode cL_law 530 = .ok (.aload_n 1, 1) := by decide +kernel
theorem dL_law_531 : decode cL_law 531 = .ok (.aload_n 0, 1) := by decide +kernel
theorem dL_law_532 : decode cL_law 532 = .ok (.iload_n 3, 1) := by decide +kernel
theorem dL_law_533 : decode cL_law 533 = .ok (.iconst 1, 1) := by decide +kernel
theorem dL_law_534 : decode cL_law 534 = .ok (.iadd, 1) := by decide +kernel
theorem dL_law_535 : decode cL_law 535 = .ok (.iaload, 1) := by decide +kernel
theorem dL_law_536 : decode cL_law 536 = .ok (.aload_n 0, 1) := by decide +kernel
theorem dL_law_537 : decode cL_law 537 = .ok (.iload_n 3, 1) := by decide +kernel
theorem dL_law_538 : decode cL_law 538 = .ok (.iconst 2, 1) := by decide +kernel
theorem dL_law_539 : decode cL_law 539 = .ok (.iadd, 1) := by decide +kernel
theorem dL_law_540 : decode cL_law 540 = .ok (.iaload, 1) := by decide +kernel
theorem dL_law_541 : decode cL_law 541 = .ok (.ifCond .eq 7, 3) := by decide +kernel
theorem dL_law_544 : decode cL_law 544 = .ok (.iconst 1, 1) := by decide +kernel
theorem dL_law_545 : decode cL_law 545 = .ok (.goto 4, 3) := by decide +kernel
theorem dL_law_548 : decode cL_law 548 = .ok (.iconst 0, 1) := by decide +kernel
theorem dL_law_549 : decode cL_law 549 = .ok (.invokevirtual 49, 3) := by decide +kernel
theorem dL_law_552 : decode cL_law 552 = .ok (.aload_n 2, 1) := by decide +kernel
theorem dL_law_553 : decode cL_law 553 = .ok (.aload_n 0, 1) := by decide +kernel
theorem dL_law_554 : decode cL_law 554 = .ok (.iload_n 3, 1) := by decide +kernel
theorem dL_law_555 : decode cL_law 555 = .ok (.iconst 1, 1) := by decide +kernel
theorem dL_law_556 : decode cL_law 556 = .ok (.iadd, 1) := by decide +kernel
theorem dL_law_557 : decode cL_law 557 = .ok (.iaload, 1) := by decide +kernel
theorem dL_law_558 : decode cL_law 558 = .ok (.aload_n 0, 1) := by decide +kernel
theorem dL_law_559 : decode cL_law 559 = .ok (.iload_n 3, 1) := by decide +kernel
theorem dL_law_560 : decode cL_law 560 = .ok (.iconst 2, 1) := by decide +kernel
theorem dL_law_561 : decode cL_law 561 = .ok (.iadd, 1) := by decide +kernel
theorem dL_law_562 : decode cL_law 562 = .ok (.iaload, 1) := by decide +kernel
theorem dL_law_563 : decode cL_law 563 = .ok (.ifCond .eq 7, 3) := by decide +kernel
theorem dL_law_566 : decode cL_law 566 = .ok (.iconst 1, 1) := by decide +kernel
theorem dL_law_567 : decode cL_law 567 = .ok (.goto 4, 3) := by decide +kernel
theorem dL_law_570 : decode cL_law 570 = .ok (.iconst 0, 1) := by decide +kernel
theorem dL_law_571 : decode cL_law 571 = .ok (.invokevirtual 53, 3) := by decide +kernel
theorem dL_law_574 : decode cL_law 574 = .ok (.if_icmp .eq 1254, 3) := by decide +kernel
theorem dL_law_577 : decode cL_law 577 = .ok (.iconst 0, 1) := by decide +kernel
theorem dL_law_578 : decode cL_law 578 = .ok (.ireturn, 1) := by decide +kernel
theorem dL_law_579 : decode cL_law 579 = .ok (.aload_n 1, 1) := by decide +kernel
theorem dL_law_580 : decode cL_law 580 = .ok (.aload_n 0, 1) := by decide +kernel
theorem dL_law_581 : decode cL_law 581 = .ok (.iload_n 3, 1) := by decide +kernel
theorem dL_law_582 : decode cL_law 582 = .ok (.iconst 1, 1) := by decide +kernel
theorem dL_law_583 : decode cL_law 583 = .ok (.iadd, 1) := by decide +kernel
theorem dL_law_584 : decode cL_law 584 = .ok (.iaload, 1) := by decide +kernel
theorem dL_law_585 : decode cL_law 585 = .ok (.aload_n 0, 1) := by decide +kernel
theorem dL_law_586 : decode cL_law 586 = .ok (.iload_n 3, 1) := by decide +kernel
theorem dL_law_587 : decode cL_law 587 = .ok (.iconst 2, 1) := by decide +kernel
theorem dL_law_588 : decode cL_law 588 = .ok (.iadd, 1) := by decide +kernel
theorem dL_law_589 : decode cL_law 589 = .ok (.iaload, 1) := by decide +kernel
theorem dL_law_590 : decode cL_law 590 = .ok (.invokevirtual 54, 3) := by decide +kernel
theorem dL_law_593 : decode cL_law 593 = .ok (.aload_n 2, 1) := by decide +kernel
theorem dL_law_594 : decode cL_law 594 = .ok (.aload_n 0, 1) := by decide +kernel
theorem dL_law_595 : decode cL_law 595 = .ok (.iload_n 3, 1) := by decide +kernel
theorem dL_law_596 : decode cL_law 596 = .ok (.iconst 1, 1) := by decide +kernel
theorem dL_law_597 : decode cL_law 597 = .ok (.iadd, 1) := by decide +kernel
theorem dL_law_598 : decode cL_law 598 = .ok (.iaload, 1) := by decide +kernel
theorem dL_law_599 : decode cL_law 599 = .ok (.aload_n 0, 1) := by decide +kernel
theorem dL_law_600 : decode cL_law 600 = .ok (.iload_n 3, 1) := by decide +kernel
theorem dL_law_601 : decode cL_law 601 = .ok (.iconst 2, 1) := by decide +kernel
theorem dL_law_602 : decode cL_law 602 = .ok (.iadd, 1) := by decide +kernel
theorem dL_law_603 : decode cL_law 603 = .ok (.iaload, 1) := by decide +kernel
theorem dL_law_604 : decode cL_law 604 = .ok (.invokevirtual 57, 3) := by decide +kernel
theorem dL_law_607 : decode cL_law 607 = .ok (.if_icmp .eq 1221, 3) := by decide +kernel
theorem dL_law_610 : decode cL_law 610 = .ok (.iconst 0, 1) := by decide +kernel
theorem dL_law_611 : decode cL_law 611 = .ok (.ireturn, 1) := by decide +kernel
theorem dL_law_612 : decode cL_law 612 = .ok (.aload_n 1, 1) := by decide +kernel
theorem dL_law_613 : decode cL_law 613 = .ok (.aload_n 0, 1) := by decide +kernel
theorem dL_law_614 : decode cL_law 614 = .ok (.iload_n 3, 1) := by decide +kernel
theorem dL_law_615 : decode cL_law 615 = .ok (.iconst 1, 1) := by decide +kernel
theorem dL_law_616 : decode cL_law 616 = .ok (.iadd, 1) := by decide +kernel
theorem dL_law_617 : decode cL_law 617 = .ok (.iaload, 1) := by decide +kernel
theorem dL_law_618 : decode cL_law 618 = .ok (.aload_n 0, 1) := by decide +kernel
theorem dL_law_619 : decode cL_law 619 = .ok (.iload_n 3, 1) := by decide +kernel
theorem dL_law_620 : decode cL_law 620 = .ok (.iconst 2, 1) := by decide +kernel
theorem dL_law_621 : decode cL_law 621 = .ok (.iadd, 1) := by decide +kernel
theorem dL_law_622 : decode cL_law 622 = .ok (.iaload, 1) := by decide +kernel
theorem dL_law_623 : decode cL_law 623 = .ok (.invokevirtual 58, 3) := by decide +kernel
theorem dL_law_626 : decode cL_law 626 = .ok (.aload_n 2, 1) := by decide +kernel
theorem dL_law_627 : decode cL_law 627 = .ok (.aload_n 0, 1) := by decide +kernel
theorem dL_law_628 : decode cL_law 628 = .ok (.iload_n 3, 1) := by decide +kernel
theorem dL_law_629 : decode cL_law 629 = .ok (.iconst 1, 1) := by decide +kernel
theorem dL_law_630 : decode cL_law 630 = .ok (.iadd, 1) := by decide +kernel
theorem dL_law_631 : decode cL_law 631 = .ok (.iaload, 1) := by decide +kernel
theorem dL_law_632 : decode cL_law 632 = .ok (.aload_n 0, 1) := by decide +kernel
theorem dL_law_633 : decode cL_law 633 = .ok (.iload_n 3, 1) := by decide +kernel
theorem dL_law_634 : decode cL_law 634 = .ok (.iconst 2, 1) := by decide +kernel
theorem dL_law_635 : decode cL_law 635 = .ok (.iadd, 1) := by decide +kernel
theorem dL_law_636 : decode cL_law 636 = .ok (.iaload, 1) := by decide +kernel
theorem dL_law_637 : decode cL_law 637 = .ok (.invokevirtual 61, 3) := by decide +kernel
theorem dL_law_640 : decode cL_law 640 = .ok (.if_icmp .eq 1188, 3) := by decide +kernel
theorem dL_law_643 : decode cL_law 643 = .ok (.iconst 0, 1) := by decide +kernel
theorem dL_law_644 : decode cL_law 644 = .ok (.ireturn, 1) := by decide +kernel
theorem dL_law_645 : decode cL_law 645 = .ok (.aload_n 1, 1) := by decide +kernel
theorem dL_law_646 : decode cL_law 646 = .ok (.aload_n 0, 1) := by decide +kernel
theorem dL_law_647 : decode cL_law 647 = .ok (.iload_n 3, 1) := by decide +kernel
theorem dL_law_648 : decode cL_law 648 = .ok (.iconst 1, 1) := by decide +kernel
theorem dL_law_649 : decode cL_law 649 = .ok (.iadd, 1) := by decide +kernel
theorem dL_law_650 : decode cL_law 650 = .ok (.iaload, 1) := by decide +kernel
theorem dL_law_651 : decode cL_law 651 = .ok (.aload_n 0, 1) := by decide +kernel
theorem dL_law_652 : decode cL_law 652 = .ok (.iload_n 3, 1) := by decide +kernel
theorem dL_law_653 : decode cL_law 653 = .ok (.iconst 2, 1) := by decide +kernel
theorem dL_law_654 : decode cL_law 654 = .ok (.iadd, 1) := by decide +kernel
theorem dL_law_655 : decode cL_law 655 = .ok (.iaload, 1) := by decide +kernel
theorem dL_law_656 : decode cL_law 656 = .ok (.invokevirtual 62, 3) := by decide +kernel
theorem dL_law_659 : decode cL_law 659 = .ok (.aload_n 2, 1) := by decide +kernel
theorem dL_law_660 : decode cL_law 660 = .ok (.aload_n 0, 1) := by decide +kernel
theorem dL_law_661 : decode cL_law 661 = .ok (.iload_n 3, 1) := by decide +kernel
theorem dL_law_662 : decode cL_law 662 = .ok (.iconst 1, 1) := by decide +kernel
theorem dL_law_663 : decode cL_law 663 = .ok (.iadd, 1) := by decide +kernel
theorem dL_law_664 : decode cL_law 664 = .ok (.iaload, 1) := by decide +kernel
theorem dL_law_665 : decode cL_law 665 = .ok (.aload_n 0, 1) := by decide +kernel
theorem dL_law_666 : decode cL_law 666 = .ok (.iload_n 3, 1) := by decide +kernel
theorem dL_law_667 : decode cL_law 667 = .ok (.iconst 2, 1) := by decide +kernel
theorem dL_law_668 : decode cL_law 668 = .ok (.iadd, 1) := by decide +kernel
theorem dL_law_669 : decode cL_law 669 = .ok (.iaload, 1) := by decide +kernel
theorem dL_law_670 : decode cL_law 670 = .ok (.invokevirtual 65, 3) := by decide +kernel
theorem dL_law_673 : decode cL_law 673 = .ok (.if_icmp .eq 1155, 3) := by decide +kernel
theorem dL_law_676 : decode cL_law 676 = .ok (.iconst 0, 1) := by decide +kernel
theorem dL_law_677 : decode cL_law 677 = .ok (.ireturn, 1) := by decide +kernel
theorem dL_law_678 : decode cL_law 678 = .ok (.aload_n 1, 1) := by decide +kernel
theorem dL_law_679 : decode cL_law 679 = .ok (.aload_n 0, 1) := by decide +kernel
theorem dL_law_680 : decode cL_law 680 = .ok (.iload_n 3, 1) := by decide +kernel
theorem dL_law_681 : decode cL_law 681 = .ok (.iconst 1, 1) := by decide +kernel
theorem dL_law_682 : decode cL_law 682 = .ok (.iadd, 1) := by decide +kernel
theorem dL_law_683 : decode cL_law 683 = .ok (.iaload, 1) := by decide +kernel
theorem dL_law_684 : decode cL_law 684 = .ok (.aload_n 0, 1) := by decide +kernel
theorem dL_law_685 : decode cL_law 685 = .ok (.iload_n 3, 1) := by decide +kernel
theorem dL_law_686 : decode cL_law 686 = .ok (.iconst 2, 1) := by decide +kernel
theorem dL_law_687 : decode cL_law 687 = .ok (.iadd, 1) := by decide +kernel
theorem dL_law_688 : decode cL_law 688 = .ok (.iaload, 1) := by decide +kernel
theorem dL_law_689 : decode cL_law 689 = .ok (.invokevirtual 66, 3) := by decide +kernel
theorem dL_law_692 : decode cL_law 692 = .ok (.aload_n 2, 1) := by decide +kernel
theorem dL_law_693 : decode cL_law 693 = .ok (.aload_n 0, 1) := by decide +kernel
theorem dL_law_694 : decode cL_law 694 = .ok (.iload_n 3, 1) := by decide +kernel
theorem dL_law_695 : decode cL_law 695 = .ok (.iconst 1, 1) := by decide +kernel
theorem dL_law_696 : decode cL_law 696 = .ok (.iadd, 1) := by decide +kernel
theorem dL_law_697 : decode cL_law 697 = .ok (.iaload, 1) := by decide +kernel
theorem dL_law_698 : decode cL_law 698 = .ok (.aload_n 0, 1) := by decide +kernel
theorem dL_law_699 : decode cL_law 699 = .ok (.iload_n 3, 1) := by decide +kernel
theorem dL_law_700 : decode cL_law 700 = .ok (.iconst 2, 1) := by decide +kernel
theorem dL_law_701 : decode cL_law 701 = .ok (.iadd, 1) := by decide +kernel
theorem dL_law_702 : decode cL_law 702 = .ok (.iaload, 1) := by decide +kernel
theorem dL_law_703 : decode cL_law 703 = .ok (.invokevirtual 69, 3) := by decide +kernel
theorem dL_law_706 : decode cL_law 706 = .ok (.if_icmp .eq 1122, 3) := by decide +kernel
theorem dL_law_709 : decode cL_law 709 = .ok (.iconst 0, 1) := by decide +kernel
theorem dL_law_710 : decode cL_law 710 = .ok (.ireturn, 1) := by decide +kernel
theorem dL_law_711 : decode cL_law 711 = .ok (.aload_n 1, 1) := by decide +kernel
theorem dL_law_712 : decode cL_law 712 = .ok (.aload_n 0, 1) := by decide +kernel
theorem dL_law_713 : decode cL_law 713 = .ok (.iload_n 3, 1) := by decide +kernel
theorem dL_law_714 : decode cL_law 714 = .ok (.iconst 1, 1) := by decide +kernel
theorem dL_law_715 : decode cL_law 715 = .ok (.iadd, 1) := by decide +kernel
theorem dL_law_716 : decode cL_law 716 = .ok (.iaload, 1) := by decide +kernel
theorem dL_law_717 : decode cL_law 717 = .ok (.aload_n 0, 1) := by decide +kernel
theorem dL_law_718 : decode cL_law 718 = .ok (.iload_n 3, 1) := by decide +kernel
theorem dL_law_719 : decode cL_law 719 = .ok (.iconst 2, 1) := by decide +kernel
theorem dL_law_720 : decode cL_law 720 = .ok (.iadd, 1) := by decide +kernel
theorem dL_law_721 : decode cL_law 721 = .ok (.iaload, 1) := by decide +kernel
theorem dL_law_722 : decode cL_law 722 = .ok (.invokevirtual 70, 3) := by decide +kernel
theorem dL_law_725 : decode cL_law 725 = .ok (.aload_n 2, 1) := by decide +kernel
theorem dL_law_726 : decode cL_law 726 = .ok (.aload_n 0, 1) := by decide +kernel
theorem dL_law_727 : decode cL_law 727 = .ok (.iload_n 3, 1) := by decide +kernel
theorem dL_law_728 : decode cL_law 728 = .ok (.iconst 1, 1) := by decide +kernel
theorem dL_law_729 : decode cL_law 729 = .ok (.iadd, 1) := by decide +kernel
theorem dL_law_730 : decode cL_law 730 = .ok (.iaload, 1) := by decide +kernel
theorem dL_law_731 : decode cL_law 731 = .ok (.aload_n 0, 1) := by decide +kernel
theorem dL_law_732 : decode cL_law 732 = .ok (.iload_n 3, 1) := by decide +kernel
theorem dL_law_733 : decode cL_law 733 = .ok (.iconst 2, 1) := by decide +kernel
theorem dL_law_734 : decode cL_law 734 = .ok (.iadd, 1) := by decide +kernel
theorem dL_law_735 : decode cL_law 735 = .ok (.iaload, 1) := by decide +kernel
theorem dL_law_736 : decode cL_law 736 = .ok (.invokevirtual 73, 3) := by decide +kernel
theorem dL_law_739 : decode cL_law 739 = .ok (.if_icmp .eq 1089, 3) := by decide +kernel
theorem dL_law_742 : decode cL_law 742 = .ok (.iconst 0, 1) := by decide +kernel
theorem dL_law_743 : decode cL_law 743 = .ok (.ireturn, 1) := by decide +kernel
theorem dL_law_744 : decode cL_law 744 = .ok (.aload_n 1, 1) := by decide +kernel
theorem dL_law_745 : decode cL_law 745 = .ok (.aload_n 0, 1) := by decide +kernel
theorem dL_law_746 : decode cL_law 746 = .ok (.iload_n 3, 1) := by decide +kernel
theorem dL_law_747 : decode cL_law 747 = .ok (.iconst 1, 1) := by decide +kernel
theorem dL_law_748 : decode cL_law 748 = .ok (.iadd, 1) := by decide +kernel
theorem dL_law_749 : decode cL_law 749 = .ok (.iaload, 1) := by decide +kernel
theorem dL_law_750 : decode cL_law 750 = .ok (.invokevirtual 74, 3) := by decide +kernel
theorem dL_law_753 : decode cL_law 753 = .ok (.aload_n 2, 1) := by decide +kernel
theorem dL_law_754 : decode cL_law 754 = .ok (.aload_n 0, 1) := by decide +kernel
theorem dL_law_755 : decode cL_law 755 = .ok (.iload_n 3, 1) := by decide +kernel
theorem dL_law_756 : decode cL_law 756 = .ok (.iconst 1, 1) := by decide +kernel
theorem dL_law_757 : decode cL_law 757 = .ok (.iadd, 1) := by decide +kernel
theorem dL_law_758 : decode cL_law 758 = .ok (.iaload, 1) := by decide +kernel
theorem dL_law_759 : decode cL_law 759 = .ok (.invokevirtual 77, 3) := by decide +kernel
theorem dL_law_762 : decode cL_law 762 = .ok (.if_icmp .eq 1066, 3) := by decide +kernel
theorem dL_law_765 : decode cL_law 765 = .ok (.iconst 0, 1) := by decide +kernel
theorem dL_law_766 : decode cL_law 766 = .ok (.ireturn, 1) := by decide +kernel
theorem dL_law_767 : decode cL_law 767 = .ok (.aload_n 1, 1) := by decide +kernel
theorem dL_law_768 : decode cL_law 768 = .ok (.aload_n 0, 1) := by decide +kernel
theorem dL_law_769 : decode cL_law 769 = .ok (.iload_n 3, 1) := by decide +kernel
theorem dL_law_770 : decode cL_law 770 = .ok (.iconst 1, 1) := by decide +kernel
theorem dL_law_771 : decode cL_law 771 = .ok (.iadd, 1) := by decide +kernel
theorem dL_law_772 : decode cL_law 772 = .ok (.iaload, 1) := by decide +kernel
theorem dL_law_773 : decode cL_law 773 = .ok (.aload_n 0, 1) := by decide +kernel
theorem dL_law_774 : decode cL_law 774 = .ok (.iload_n 3, 1) := by decide +kernel
theorem dL_law_775 : decode cL_law 775 = .ok (.iconst 2, 1) := by decide +kernel
theorem dL_law_776 : decode cL_law 776 = .ok (.iadd, 1) := by decide +kernel
theorem dL_law_777 : decode cL_law 777 = .ok (.iaload, 1) := by decide +kernel
theorem dL_law_778 : decode cL_law 778 = .ok (.invokevirtual 78, 3) := by decide +kernel
theorem dL_law_781 : decode cL_law 781 = .ok (.aload_n 2, 1) := by decide +kernel
theorem dL_law_782 : decode cL_law 782 = .ok (.aload_n 0, 1) := by decide +kernel
theorem dL_law_783 : decode cL_law 783 = .ok (.iload_n 3, 1) := by decide +kernel
theorem dL_law_784 : decode cL_law 784 = .ok (.iconst 1, 1) := by decide +kernel
theorem dL_law_785 : decode cL_law 785 = .ok (.iadd, 1) := by decide +kernel
theorem dL_law_786 : decode cL_law 786 = .ok (.iaload, 1) := by decide +kernel
theorem dL_law_787 : decode cL_law 787 = .ok (.aload_n 0, 1) := by decide +kernel
theorem dL_law_788 : decode cL_law 788 = .ok (.iload_n 3, 1) := by decide +kernel
theorem dL_law_789 : decode cL_law 789 = .ok (.iconst 2, 1) := by decide +kernel
theorem dL_law_790 : decode cL_law 790 = .ok (.iadd, 1) := by decide +kernel
theorem dL_law_791 : decode cL_law 791 = .ok (.iaload, 1) := by decide +kernel
theorem dL_law_792 : decode cL_law 792 = .ok (.invokevirtual 81, 3) := by decide +kernel
theorem dL_law_795 : decode cL_law 795 = .ok (.if_icmp .eq 1033, 3) := by decide +kernel
theorem dL_law_798 : decode cL_law 798 = .ok (.iconst 0, 1) := by decide +kernel
theorem dL_law_799 : decode cL_law 799 = .ok (.ireturn, 1) := by decide +kernel
theorem dL_law_800 : decode cL_law 800 = .ok (.aload_n 1, 1) := by decide +kernel
theorem dL_law_801 : decode cL_law 801 = .ok (.aload_n 0, 1) := by decide +kernel
theorem dL_law_802 : decode cL_law 802 = .ok (.iload_n 3, 1) := by decide +kernel
theorem dL_law_803 : decode cL_law 803 = .ok (.iconst 1, 1) := by decide +kernel
theorem dL_law_804 : decode cL_law 804 = .ok (.iadd, 1) := by decide +kernel
theorem dL_law_805 : decode cL_law 805 = .ok (.iaload, 1) := by decide +kernel
theorem dL_law_806 : decode cL_law 806 = .ok (.aload_n 0, 1) := by decide +kernel
theorem dL_law_807 : decode cL_law 807 = .ok (.iload_n 3, 1) := by decide +kernel
theorem dL_law_808 : decode cL_law 808 = .ok (.iconst 2, 1) := by decide +kernel
theorem dL_law_809 : decode cL_law 809 = .ok (.iadd, 1) := by decide +kernel
theorem dL_law_810 : decode cL_law 810 = .ok (.iaload, 1) := by decide +kernel
theorem dL_law_811 : decode cL_law 811 = .ok (.invokevirtual 82, 3) := by decide +kernel
theorem dL_law_814 : decode cL_law 814 = .ok (.aload_n 2, 1) := by decide +kernel
theorem dL_law_815 : decode cL_law 815 = .ok (.aload_n 0, 1) := by decide +kernel
theorem dL_law_816 : decode cL_law 816 = .ok (.iload_n 3, 1) := by decide +kernel
theorem dL_law_817 : decode cL_law 817 = .ok (.iconst 1, 1) := by decide +kernel
theorem dL_law_818 : decode cL_law 818 = .ok (.iadd, 1) := by decide +kernel
theorem dL_law_819 : decode cL_law 819 = .ok (.iaload, 1) := by decide +kernel
theorem dL_law_820 : decode cL_law 820 = .ok (.aload_n 0, 1) := by decide +kernel
theorem dL_law_821 : decode cL_law 821 = .ok (.iload_n 3, 1) := by decide +kernel
theorem dL_law_822 : decode cL_law 822 = .ok (.iconst 2, 1) := by decide +kernel
theorem dL_law_823 : decode cL_law 823 = .ok (.iadd, 1) := by decide +kernel
theorem dL_law_824 : decode cL_law 824 = .ok (.iaload, 1) := by decide +kernel
theorem dL_law_825 : decode cL_law 825 = .ok (.invokevirtual 85, 3) := by decide +kernel
theorem dL_law_828 : decode cL_law 828 = .ok (.if_icmp .eq 1000, 3) := by decide +kernel
theorem dL_law_831 : decode cL_law 831 = .ok (.iconst 0, 1) := by decide +kernel
theorem dL_law_832 : decode cL_law 832 = .ok (.ireturn, 1) := by decide +kernel
theorem dL_law_833 : decode cL_law 833 = .ok (.aload_n 1, 1) := by decide +kernel
theorem dL_law_834 : decode cL_law 834 = .ok (.aload_n 0, 1) := by decide +kernel
theorem dL_law_835 : decode cL_law 835 = .ok (.iload_n 3, 1) := by decide +kernel
theorem dL_law_836 : decode cL_law 836 = .ok (.iconst 1, 1) := by decide +kernel
theorem dL_law_837 : decode cL_law 837 = .ok (.iadd, 1) := by decide +kernel
theorem dL_law_838 : decode cL_law 838 = .ok (.iaload, 1) := by decide +kernel
theorem dL_law_839 : decode cL_law 839 = .ok (.aload_n 0, 1) := by decide +kernel
theorem dL_law_840 : decode cL_law 840 = .ok (.iload_n 3, 1) := by decide +kernel
theorem dL_law_841 : decode cL_law 841 = .ok (.iconst 2, 1) := by decide +kernel
theorem dL_law_842 : decode cL_law 842 = .ok (.iadd, 1) := by decide +kernel
theorem dL_law_843 : decode cL_law 843 = .ok (.iaload, 1) := by decide +kernel
theorem dL_law_844 : decode cL_law 844 = .ok (.invokevirtual 86, 3) := by decide +kernel
theorem dL_law_847 : decode cL_law 847 = .ok (.aload_n 2, 1) := by decide +kernel
theorem dL_law_848 : decode cL_law 848 = .ok (.aload_n 0, 1) := by decide +kernel
theorem dL_law_849 : decode cL_law 849 = .ok (.iload_n 3, 1) := by decide +kernel
theorem dL_law_850 : decode cL_law 850 = .ok (.iconst 1, 1) := by decide +kernel
theorem dL_law_851 : decode cL_law 851 = .ok (.iadd, 1) := by decide +kernel
theorem dL_law_852 : decode cL_law 852 = .ok (.iaload, 1) := by decide +kernel
theorem dL_law_853 : decode cL_law 853 = .ok (.aload_n 0, 1) := by decide +kernel
theorem dL_law_854 : decode cL_law 854 = .ok (.iload_n 3, 1) := by decide +kernel
theorem dL_law_855 : decode cL_law 855 = .ok (.iconst 2, 1) := by decide +kernel
theorem dL_law_856 : decode cL_law 856 = .ok (.iadd, 1) := by decide +kernel
theorem dL_law_857 : decode cL_law 857 = .ok (.iaload, 1) := by decide +kernel
theorem dL_law_858 : decode cL_law 858 = .ok (.invokevirtual 89, 3) := by decide +kernel
theorem dL_law_861 : decode cL_law 861 = .ok (.if_icmp .eq 967, 3) := by decide +kernel
theorem dL_law_864 : decode cL_law 864 = .ok (.iconst 0, 1) := by decide +kernel
theorem dL_law_865 : decode cL_law 865 = .ok (.ireturn, 1) := by decide +kernel
theorem dL_law_866 : decode cL_law 866 = .ok (.aload_n 1, 1) := by decide +kernel
theorem dL_law_867 : decode cL_law 867 = .ok (.aload_n 0, 1) := by decide +kernel
theorem dL_law_868 : decode cL_law 868 = .ok (.iload_n 3, 1) := by decide +kernel
theorem dL_law_869 : decode cL_law 869 = .ok (.iconst 1, 1) := by decide +kernel
theorem dL_law_870 : decode cL_law 870 = .ok (.iadd, 1) := by decide +kernel
theorem dL_law_871 : decode cL_law 871 = .ok (.iaload, 1) := by decide +kernel
theorem dL_law_872 : decode cL_law 872 = .ok (.invokevirtual 90, 3) := by decide +kernel
theorem dL_law_875 : decode cL_law 875 = .ok (.aload_n 2, 1) := by decide +kernel
theorem dL_law_876 : decode cL_law 876 = .ok (.aload_n 0, 1) := by decide +kernel
theorem dL_law_877 : decode cL_law 877 = .ok (.iload_n 3, 1) := by decide +kernel
theorem dL_law_878 : decode cL_law 878 = .ok (.iconst 1, 1) := by decide +kernel
theorem dL_law_879 : decode cL_law 879 = .ok (.iadd, 1) := by decide +kernel
theorem dL_law_880 : decode cL_law 880 = .ok (.iaload, 1) := by decide +kernel
theorem dL_law_881 : decode cL_law 881 = .ok (.invokevirtual 93, 3) := by decide +kernel
theorem dL_law_884 : decode cL_law 884 = .ok (.if_icmp .eq 944, 3) := by decide +kernel
theorem dL_law_887 : decode cL_law 887 = .ok (.iconst 0, 1) := by decide +kernel
theorem dL_law_888 : decode cL_law 888 = .ok (.ireturn, 1) := by decide +kernel
theorem dL_law_889 : decode cL_law 889 = .ok (.aload_n 1, 1) := by decide +kernel
theorem dL_law_890 : decode cL_law 890 = .ok (.aload_n 0, 1) := by decide +kernel
theorem dL_law_891 : decode cL_law 891 = .ok (.iload_n 3, 1) := by decide +kernel
theorem dL_law_892 : decode cL_law 892 = .ok (.iconst 1, 1) := by decide +kernel
theorem dL_law_893 : decode cL_law 893 = .ok (.iadd, 1) := by decide +kernel
theorem dL_law_894 : decode cL_law 894 = .ok (.iaload, 1) := by decide +kernel
theorem dL_law_895 : decode cL_law 895 = .ok (.invokevirtual 94, 3) := by decide +kernel
theorem dL_law_898 : decode cL_law 898 = .ok (.aload_n 2, 1) := by decide +kernel
theorem dL_law_899 : decode cL_law 899 = .ok (.aload_n 0, 1) := by decide +kernel
theorem dL_law_900 : decode cL_law 900 = .ok (.iload_n 3, 1) := by decide +kernel
theorem dL_law_901 : decode cL_law 901 = .ok (.iconst 1, 1) := by decide +kernel
theorem dL_law_902 : decode cL_law 902 = .ok (.iadd, 1) := by decide +kernel
theorem dL_law_903 : decode cL_law 903 = .ok (.iaload, 1) := by decide +kernel
theorem dL_law_904 : decode cL_law 904 = .ok (.invokevirtual 97, 3) := by decide +kernel
theorem dL_law_907 : decode cL_law 907 = .ok (.if_icmp .eq 921, 3) := by decide +kernel
theorem dL_law_910 : decode cL_law 910 = .ok (.iconst 0, 1) := by decide +kernel
theorem dL_law_911 : decode cL_law 911 = .ok (.ireturn, 1) := by decide +kernel
theorem dL_law_912 : decode cL_law 912 = .ok (.aload_n 1, 1) := by decide +kernel
theorem dL_law_913 : decode cL_law 913 = .ok (.aload_n 0, 1) := by decide +kernel
theorem dL_law_914 : decode cL_law 914 = .ok (.iload_n 3, 1) := by decide +kernel
theorem dL_law_915 : decode cL_law 915 = .ok (.iconst 1, 1) := by decide +kernel
theorem dL_law_916 : decode cL_law 916 = .ok (.iadd, 1) := by decide +kernel
theorem dL_law_917 : decode cL_law 917 = .ok (.iaload, 1) := by decide +kernel
theorem dL_law_918 : decode cL_law 918 = .ok (.aload_n 0, 1) := by decide +kernel
theorem dL_law_919 : decode cL_law 919 = .ok (.iload_n 3, 1) := by decide +kernel
theorem dL_law_920 : decode cL_law 920 = .ok (.iconst 2, 1) := by decide +kernel
theorem dL_law_921 : decode cL_law 921 = .ok (.iadd, 1) := by decide +kernel
theorem dL_law_922 : decode cL_law 922 = .ok (.iaload, 1) := by decide +kernel
theorem dL_law_923 : decode cL_law 923 = .ok (.invokevirtual 98, 3) := by decide +kernel
theorem dL_law_926 : decode cL_law 926 = .ok (.aload_n 2, 1) := by decide +kernel
theorem dL_law_927 : decode cL_law 927 = .ok (.aload_n 0, 1) := by decide +kernel
theorem dL_law_928 : decode cL_law 928 = .ok (.iload_n 3, 1) := by decide +kernel
theorem dL_law_929 : decode cL_law 929 = .ok (.iconst 1, 1) := by decide +kernel
theorem dL_law_930 : decode cL_law 930 = .ok (.iadd, 1) := by decide +kernel
theorem dL_law_931 : decode cL_law 931 = .ok (.iaload, 1) := by decide +kernel
theorem dL_law_932 : decode cL_law 932 = .ok (.aload_n 0, 1) := by decide +kernel
theorem dL_law_933 : decode cL_law 933 = .ok (.iload_n 3, 1) := by decide +kernel
theorem dL_law_934 : decode cL_law 934 = .ok (.iconst 2, 1) := by decide +kernel
theorem dL_law_935 : decode cL_law 935 = .ok (.iadd, 1) := by decide +kernel
theorem dL_law_936 : decode cL_law 936 = .ok (.iaload, 1) := by decide +kernel
theorem dL_law_937 : decode cL_law 937 = .ok (.invokevirtual 101, 3) := by decide +kernel
theorem dL_law_940 : decode cL_law 940 = .ok (.if_icmp .eq 888, 3) := by decide +kernel
theorem dL_law_943 : decode cL_law 943 = .ok (.iconst 0, 1) := by decide +kernel
theorem dL_law_944 : decode cL_law 944 = .ok (.ireturn, 1) := by decide +kernel
theorem dL_law_945 : decode cL_law 945 = .ok (.aload_n 1, 1) := by decide +kernel
theorem dL_law_946 : decode cL_law 946 = .ok (.aload_n 0, 1) := by decide +kernel
theorem dL_law_947 : decode cL_law 947 = .ok (.iload_n 3, 1) := by decide +kernel
theorem dL_law_948 : decode cL_law 948 = .ok (.iconst 1, 1) := by decide +kernel
theorem dL_law_949 : decode cL_law 949 = .ok (.iadd, 1) := by decide +kernel
theorem dL_law_950 : decode cL_law 950 = .ok (.iaload, 1) := by decide +kernel
theorem dL_law_951 : decode cL_law 951 = .ok (.invokevirtual 102, 3) := by decide +kernel
theorem dL_law_954 : decode cL_law 954 = .ok (.aload_n 2, 1) := by decide +kernel
theorem dL_law_955 : decode cL_law 955 = .ok (.aload_n 0, 1) := by decide +kernel
theorem dL_law_956 : decode cL_law 956 = .ok (.iload_n 3, 1) := by decide +kernel
theorem dL_law_957 : decode cL_law 957 = .ok (.iconst 1, 1) := by decide +kernel
theorem dL_law_958 : decode cL_law 958 = .ok (.iadd, 1) := by decide +kernel
theorem dL_law_959 : decode cL_law 959 = .ok (.iaload, 1) := by decide +kernel
theorem dL_law_960 : decode cL_law 960 = .ok (.invokevirtual 105, 3) := by decide +kernel
theorem dL_law_963 : decode cL_law 963 = .ok (.if_icmp .eq 865, 3) := by decide +kernel
theorem dL_law_966 : decode cL_law 966 = .ok (.iconst 0, 1) := by decide +kernel
theorem dL_law_967 : decode cL_law 967 = .ok (.ireturn, 1) := by decide +kernel
theorem dL_law_968 : decode cL_law 968 = .ok (.aload_n 1, 1) := by decide +kernel
theorem dL_law_969 : decode cL_law 969 = .ok (.aload_n 0, 1) := by decide +kernel
theorem dL_law_970 : decode cL_law 970 = .ok (.iload_n 3, 1) := by decide +kernel
theorem dL_law_971 : decode cL_law 971 = .ok (.iconst 1, 1) := by decide +kernel
theorem dL_law_972 : decode cL_law 972 = .ok (.iadd, 1) := by decide +kernel
theorem dL_law_973 : decode cL_law 973 = .ok (.iaload, 1) := by decide +kernel
theorem dL_law_974 : decode cL_law 974 = .ok (.invokevirtual 106, 3) := by decide +kernel
theorem dL_law_977 : decode cL_law 977 = .ok (.aload_n 2, 1) := by decide +kernel
theorem dL_law_978 : decode cL_law 978 = .ok (.aload_n 0, 1) := by decide +kernel
theorem dL_law_979 : decode cL_law 979 = .ok (.iload_n 3, 1) := by decide +kernel
theorem dL_law_980 : decode cL_law 980 = .ok (.iconst 1, 1) := by decide +kernel
theorem dL_law_981 : decode cL_law 981 = .ok (.iadd, 1) := by decide +kernel
theorem dL_law_982 : decode cL_law 982 = .ok (.iaload, 1) := by decide +kernel
theorem dL_law_983 : decode cL_law 983 = .ok (.invokevirtual 109, 3) := by decide +kernel
theorem dL_law_986 : decode cL_law 986 = .ok (.if_icmp .eq 842, 3) := by decide +kernel
theorem dL_law_989 : decode cL_law 989 = .ok (.iconst 0, 1) := by decide +kernel
theorem dL_law_990 : decode cL_law 990 = .ok (.ireturn, 1) := by decide +kernel
theorem dL_law_991 : decode cL_law 991 = .ok (.aload_n 1, 1) := by decide +kernel
theorem dL_law_992 : decode cL_law 992 = .ok (.invokevirtual 110, 3) := by decide +kernel
theorem dL_law_995 : decode cL_law 995 = .ok (.aload_n 2, 1) := by decide +kernel
theorem dL_law_996 : decode cL_law 996 = .ok (.invokevirtual 114, 3) := by decide +kernel
theorem dL_law_999 : decode cL_law 999 = .ok (.if_icmp .eq 829, 3) := by decide +kernel
theorem dL_law_1002 : decode cL_law 1002 = .ok (.iconst 0, 1) := by decide +kernel
theorem dL_law_1003 : decode cL_law 1003 = .ok (.ireturn, 1) := by decide +kernel
theorem dL_law_1004 : decode cL_law 1004 = .ok (.aload_n 1, 1) := by decide +kernel
theorem dL_law_1005 : decode cL_law 1005 = .ok (.aload_n 0, 1) := by decide +kernel
theorem dL_law_1006 : decode cL_law 1006 = .ok (.iload_n 3, 1) := by decide +kernel
theorem dL_law_1007 : decode cL_law 1007 = .ok (.iconst 1, 1) := by decide +kernel
theorem dL_law_1008 : decode cL_law 1008 = .ok (.iadd, 1) := by decide +kernel
theorem dL_law_1009 : decode cL_law 1009 = .ok (.iaload, 1) := by decide +kernel
theorem dL_law_1010 : decode cL_law 1010 = .ok (.invokevirtual 115, 3) := by decide +kernel
theorem dL_law_1013 : decode cL_law 1013 = .ok (.aload_n 2, 1) := by decide +kernel
theorem dL_law_1014 : decode cL_law 1014 = .ok (.aload_n 0, 1) := by decide +kernel
theorem dL_law_1015 : decode cL_law 1015 = .ok (.iload_n 3, 1) := by decide +kernel
theorem dL_law_1016 : decode cL_law 1016 = .ok (.iconst 1, 1) := by decide +kernel
theorem dL_law_1017 : decode cL_law 1017 = .ok (.iadd, 1) := by decide +kernel
theorem dL_law_1018 : decode cL_law 1018 = .ok (.iaload, 1) := by decide +kernel
theorem dL_law_1019 : decode cL_law 1019 = .ok (.invokevirtual 118, 3) := by decide +kernel
theorem dL_law_1022 : decode cL_law 1022 = .ok (.if_icmp .eq 806, 3) := by decide +kernel
theorem dL_law_1025 : decode cL_law 1025 = .ok (.iconst 0, 1) := by decide +kernel
theorem dL_law_1026 : decode cL_law 1026 = .ok (.ireturn, 1) := by decide +kernel
theorem dL_law_1027 : decode cL_law 1027 = .ok (.aload_n 1, 1) := by decide +kernel
theorem dL_law_1028 : decode cL_law 1028 = .ok (.aload_n 0, 1) := by decide +kernel
theorem dL_law_1029 : decode cL_law 1029 = .ok (.iload_n 3, 1) := by decide +kernel
theorem dL_law_1030 : decode cL_law 1030 = .ok (.iconst 1, 1) := by decide +kernel
theorem dL_law_1031 : decode cL_law 1031 = .ok (.iadd, 1) := by decide +kernel
theorem dL_law_1032 : decode cL_law 1032 = .ok (.iaload, 1) := by decide +kernel
theorem dL_law_1033 : decode cL_law 1033 = .ok (.aload_n 0, 1) := by decide +kernel
theorem dL_law_1034 : decode cL_law 1034 = .ok (.iload_n 3, 1) := by decide +kernel
theorem dL_law_1035 : decode cL_law 1035 = .ok (.iconst 2, 1) := by decide +kernel
theorem dL_law_1036 : decode cL_law 1036 = .ok (.iadd, 1) := by decide +kernel
theorem dL_law_1037 : decode cL_law 1037 = .ok (.iaload, 1) := by decide +kernel
theorem dL_law_1038 : decode cL_law 1038 = .ok (.aload_n 0, 1) := by decide +kernel
theorem dL_law_1039 : decode cL_law 1039 = .ok (.iload_n 3, 1) := by decide +kernel
theorem dL_law_1040 : decode cL_law 1040 = .ok (.iconst 3, 1) := by decide +kernel
theorem dL_law_1041 : decode cL_law 1041 = .ok (.iadd, 1) := by decide +kernel
theorem dL_law_1042 : decode cL_law 1042 = .ok (.iaload, 1) := by decide +kernel
theorem dL_law_1043 : decode cL_law 1043 = .ok (.aload_n 0, 1) := by decide +kernel
theorem dL_law_1044 : decode cL_law 1044 = .ok (.iload_n 3, 1) := by decide +kernel
theorem dL_law_1045 : decode cL_law 1045 = .ok (.iconst 4, 1) := by decide +kernel
theorem dL_law_1046 : decode cL_law 1046 = .ok (.iadd, 1) := by decide +kernel
theorem dL_law_1047 : decode cL_law 1047 = .ok (.iaload, 1) := by decide +kernel
theorem dL_law_1048 : decode cL_law 1048 = .ok (.invokevirtual 119, 3) := by decide +kernel
theorem dL_law_1051 : decode cL_law 1051 = .ok (.aload_n 2, 1) := by decide +kernel
theorem dL_law_1052 : decode cL_law 1052 = .ok (.aload_n 0, 1) := by decide +kernel
theorem dL_law_1053 : decode cL_law 1053 = .ok (.iload_n 3, 1) := by decide +kernel
theorem dL_law_1054 : decode cL_law 1054 = .ok (.iconst 1, 1) := by decide +kernel
theorem dL_law_1055 : decode cL_law 1055 = .ok (.iadd, 1) := by decide +kernel
theorem dL_law_1056 : decode cL_law 1056 = .ok (.iaload, 1) := by decide +kernel
theorem dL_law_1057 : decode cL_law 1057 = .ok (.aload_n 0, 1) := by decide +kernel
theorem dL_law_1058 : decode cL_law 1058 = .ok (.iload_n 3, 1) := by decide +kernel
theorem dL_law_1059 : decode cL_law 1059 = .ok (.iconst 2, 1) := by decide +kernel
theorem dL_law_1060 : decode cL_law 1060 = .ok (.iadd, 1) := by decide +kernel
theorem dL_law_1061 : decode cL_law 1061 = .ok (.iaload, 1) := by decide +kernel
theorem dL_law_1062 : decode cL_law 1062 = .ok (.aload_n 0, 1) := by decide +kernel
theorem dL_law_1063 : decode cL_law 1063 = .ok (.iload_n 3, 1) := by decide +kernel
theorem dL_law_1064 : decode cL_law 1064 = .ok (.iconst 3, 1) := by decide +kernel
theorem dL_law_1065 : decode cL_law 1065 = .ok (.iadd, 1) := by decide +kernel
theorem dL_law_1066 : decode cL_law 1066 = .ok (.iaload, 1) := by decide +kernel
theorem dL_law_1067 : decode cL_law 1067 = .ok (.aload_n 0, 1) := by decide +kernel
theorem dL_law_1068 : decode cL_law 1068 = .ok (.iload_n 3, 1) := by decide +kernel
theorem dL_law_1069 : decode cL_law 1069 = .ok (.iconst 4, 1) := by decide +kernel
theorem dL_law_1070 : decode cL_law 1070 = .ok (.iadd, 1) := by decide +kernel
theorem dL_law_1071 : decode cL_law 1071 = .ok (.iaload, 1) := by decide +kernel
theorem dL_law_1072 : decode cL_law 1072 = .ok (.invokevirtual 123, 3) := by decide +kernel
theorem dL_law_1075 : decode cL_law 1075 = .ok (.if_icmp .eq 753, 3) := by decide +kernel
theorem dL_law_1078 : decode cL_law 1078 = .ok (.iconst 0, 1) := by decide +kernel
theorem dL_law_1079 : decode cL_law 1079 = .ok (.ireturn, 1) := by decide +kernel
theorem dL_law_1080 : decode cL_law 1080 = .ok (.aload_n 1, 1) := by decide +kernel
theorem dL_law_1081 : decode cL_law 1081 = .ok (.aload_n 0, 1) := by decide +kernel
theorem dL_law_1082 : decode cL_law 1082 = .ok (.iload_n 3, 1) := by decide +kernel
theorem dL_law_1083 : decode cL_law 1083 = .ok (.iconst 1, 1) := by decide +kernel
theorem dL_law_1084 : decode cL_law 1084 = .ok (.iadd, 1) := by decide +kernel
theorem dL_law_1085 : decode cL_law 1085 = .ok (.iaload, 1) := by decide +kernel
theorem dL_law_1086 : decode cL_law 1086 = .ok (.aload_n 0, 1) := by decide +kernel
theorem dL_law_1087 : decode cL_law 1087 = .ok (.iload_n 3, 1) := by decide +kernel
theorem dL_law_1088 : decode cL_law 1088 = .ok (.iconst 2, 1) := by decide +kernel
theorem dL_law_1089 : decode cL_law 1089 = .ok (.iadd, 1) := by decide +kernel
theorem dL_law_1090 : decode cL_law 1090 = .ok (.iaload, 1) := by decide +kernel
theorem dL_law_1091 : decode cL_law 1091 = .ok (.aload_n 0, 1) := by decide +kernel
theorem dL_law_1092 : decode cL_law 1092 = .ok (.iload_n 3, 1) := by decide +kernel
theorem dL_law_1093 : decode cL_law 1093 = .ok (.iconst 3, 1) := by decide +kernel
theorem dL_law_1094 : decode cL_law 1094 = .ok (.iadd, 1) := by decide +kernel
theorem dL_law_1095 : decode cL_law 1095 = .ok (.iaload, 1) := by decide +kernel
theorem dL_law_1096 : decode cL_law 1096 = .ok (.aload_n 0, 1) := by decide +kernel
theorem dL_law_1097 : decode cL_law 1097 = .ok (.iload_n 3, 1) := by decide +kernel
theorem dL_law_1098 : decode cL_law 1098 = .ok (.iconst 4, 1) := by decide +kernel
theorem dL_law_1099 : decode cL_law 1099 = .ok (.iadd, 1) := by decide +kernel
theorem dL_law_1100 : decode cL_law 1100 = .ok (.iaload, 1) := by decide +kernel
theorem dL_law_1101 : decode cL_law 1101 = .ok (.invokevirtual 124, 3) := by decide +kernel
theorem dL_law_1104 : decode cL_law 1104 = .ok (.aload_n 2, 1) := by decide +kernel
theorem dL_law_1105 : decode cL_law 1105 = .ok (.aload_n 0, 1) := by decide +kernel
theorem dL_law_1106 : decode cL_law 1106 = .ok (.iload_n 3, 1) := by decide +kernel
theorem dL_law_1107 : decode cL_law 1107 = .ok (.iconst 1, 1) := by decide +kernel
theorem dL_law_1108 : decode cL_law 1108 = .ok (.iadd, 1) := by decide +kernel
theorem dL_law_1109 : decode cL_law 1109 = .ok (.iaload, 1) := by decide +kernel
theorem dL_law_1110 : decode cL_law 1110 = .ok (.aload_n 0, 1) := by decide +kernel
theorem dL_law_1111 : decode cL_law 1111 = .ok (.iload_n 3, 1) := by decide +kernel
theorem dL_law_1112 : decode cL_law 1112 = .ok (.iconst 2, 1) := by decide +kernel
theorem dL_law_1113 : decode cL_law 1113 = .ok (.iadd, 1) := by decide +kernel
theorem dL_law_1114 : decode cL_law 1114 = .ok (.iaload, 1) := by decide +kernel
theorem dL_law_1115 : decode cL_law 1115 = .ok (.aload_n 0, 1) := by decide +kernel
theorem dL_law_1116 : decode cL_law 1116 = .ok (.iload_n 3, 1) := by decide +kernel
theorem dL_law_1117 : decode cL_law 1117 = .ok (.iconst 3, 1) := by decide +kernel
theorem dL_law_1118 : decode cL_law 1118 = .ok (.iadd, 1) := by decide +kernel
theorem dL_law_1119 : decode cL_law 1119 = .ok (.iaload, 1) := by decide +kernel
theorem dL_law_1120 : decode cL_law 1120 = .ok (.aload_n 0, 1) := by decide +kernel
theorem dL_law_1121 : decode cL_law 1121 = .ok (.iload_n 3, 1) := by decide +kernel
theorem dL_law_1122 : decode cL_law 1122 = .ok (.iconst 4, 1) := by decide +kernel
theorem dL_law_1123 : decode cL_law 1123 = .ok (.iadd, 1) := by decide +kernel
theorem dL_law_1124 : decode cL_law 1124 = .ok (.iaload, 1) := by decide +kernel
theorem dL_law_1125 : decode cL_law 1125 = .ok (.invokevirtual 127, 3) := by decide +kernel
theorem dL_law_1128 : decode cL_law 1128 = .ok (.if_icmp .eq 700, 3) := by decide +kernel
theorem dL_law_1131 : decode cL_law 1131 = .ok (.iconst 0, 1) := by decide +kernel
theorem dL_law_1132 : decode cL_law 1132 = .ok (.ireturn, 1) := by decide +kernel
theorem dL_law_1133 : decode cL_law 1133 = .ok (.aload_n 1, 1) := by decide +kernel
theorem dL_law_1134 : decode cL_law 1134 = .ok (.aload_n 0, 1) := by decide +kernel
theorem dL_law_1135 : decode cL_law 1135 = .ok (.iload_n 3, 1) := by decide +kernel
theorem dL_law_1136 : decode cL_law 1136 = .ok (.iconst 1, 1) := by decide +kernel
theorem dL_law_1137 : decode cL_law 1137 = .ok (.iadd, 1) := by decide +kernel
theorem dL_law_1138 : decode cL_law 1138 = .ok (.iaload, 1) := by decide +kernel
theorem dL_law_1139 : decode cL_law 1139 = .ok (.aload_n 0, 1) := by decide +kernel
theorem dL_law_1140 : decode cL_law 1140 = .ok (.iload_n 3, 1) := by decide +kernel
theorem dL_law_1141 : decode cL_law 1141 = .ok (.iconst 2, 1) := by decide +kernel
theorem dL_law_1142 : decode cL_law 1142 = .ok (.iadd, 1) := by decide +kernel
theorem dL_law_1143 : decode cL_law 1143 = .ok (.iaload, 1) := by decide +kernel
theorem dL_law_1144 : decode cL_law 1144 = .ok (.aload_n 0, 1) := by decide +kernel
theorem dL_law_1145 : decode cL_law 1145 = .ok (.iload_n 3, 1) := by decide +kernel
theorem dL_law_1146 : decode cL_law 1146 = .ok (.iconst 3, 1) := by decide +kernel
theorem dL_law_1147 : decode cL_law 1147 = .ok (.iadd, 1) := by decide +kernel
theorem dL_law_1148 : decode cL_law 1148 = .ok (.iaload, 1) := by decide +kernel
theorem dL_law_1149 : decode cL_law 1149 = .ok (.invokevirtual 128, 3) := by decide +kernel
theorem dL_law_1152 : decode cL_law 1152 = .ok (.aload_n 2, 1) := by decide +kernel
theorem dL_law_1153 : decode cL_law 1153 = .ok (.aload_n 0, 1) := by decide +kernel
theorem dL_law_1154 : decode cL_law 1154 = .ok (.iload_n 3, 1) := by decide +kernel
theorem dL_law_1155 : decode cL_law 1155 = .ok (.iconst 1, 1) := by decide +kernel
theorem dL_law_1156 : decode cL_law 1156 = .ok (.iadd, 1) := by decide +kernel
theorem dL_law_1157 : decode cL_law 1157 = .ok (.iaload, 1) := by decide +kernel
theorem dL_law_1158 : decode cL_law 1158 = .ok (.aload_n 0, 1) := by decide +kernel
theorem dL_law_1159 : decode cL_law 1159 = .ok (.iload_n 3, 1) := by decide +kernel
theorem dL_law_1160 : decode cL_law 1160 = .ok (.iconst 2, 1) := by decide +kernel
theorem dL_law_1161 : decode cL_law 1161 = .ok (.iadd, 1) := by decide +kernel
theorem dL_law_1162 : decode cL_law 1162 = .ok (.iaload, 1) := by decide +kernel
theorem dL_law_1163 : decode cL_law 1163 = .ok (.aload_n 0, 1) := by decide +kernel
theorem dL_law_1164 : decode cL_law 1164 = .ok (.iload_n 3, 1) := by decide +kernel
theorem dL_law_1165 : decode cL_law 1165 = .ok (.iconst 3, 1) := by decide +kernel
theorem dL_law_1166 : decode cL_law 1166 = .ok (.iadd, 1) := by decide +kernel
theorem dL_law_1167 : decode cL_law 1167 = .ok (.iaload, 1) := by decide +kernel
theorem dL_law_1168 : decode cL_law 1168 = .ok (.invokevirtual 131, 3) := by decide +kernel
theorem dL_law_1171 : decode cL_law 1171 = .ok (.if_icmp .eq 657, 3) := by decide +kernel
theorem dL_law_1174 : decode cL_law 1174 = .ok (.iconst 0, 1) := by decide +kernel
theorem dL_law_1175 : decode cL_law 1175 = .ok (.ireturn, 1) := by decide +kernel
theorem dL_law_1176 : decode cL_law 1176 = .ok (.aload_n 1, 1) := by decide +kernel
theorem dL_law_1177 : decode cL_law 1177 = .ok (.aload_n 0, 1) := by decide +kernel
theorem dL_law_1178 : decode cL_law 1178 = .ok (.iload_n 3, 1) := by decide +kernel
theorem dL_law_1179 : decode cL_law 1179 = .ok (.iconst 1, 1) := by decide +kernel
theorem dL_law_1180 : decode cL_law 1180 = .ok (.iadd, 1) := by decide +kernel
theorem dL_law_1181 : decode cL_law 1181 = .ok (.iaload, 1) := by decide +kernel
theorem dL_law_1182 : decode cL_law 1182 = .ok (.aload_n 0, 1) := by decide +kernel
theorem dL_law_1183 : decode cL_law 1183 = .ok (.iload_n 3, 1) := by decide +kernel
theorem dL_law_1184 : decode cL_law 1184 = .ok (.iconst 2, 1) := by decide +kernel
theorem dL_law_1185 : decode cL_law 1185 = .ok (.iadd, 1) := by decide +kernel
theorem dL_law_1186 : decode cL_law 1186 = .ok (.iaload, 1) := by decide +kernel
theorem dL_law_1187 : decode cL_law 1187 = .ok (.aload_n 0, 1) := by decide +kernel
theorem dL_law_1188 : decode cL_law 1188 = .ok (.iload_n 3, 1) := by decide +kernel
theorem dL_law_1189 : decode cL_law 1189 = .ok (.iconst 3, 1) := by decide +kernel
theorem dL_law_1190 : decode cL_law 1190 = .ok (.iadd, 1) := by decide +kernel
theorem dL_law_1191 : decode cL_law 1191 = .ok (.iaload, 1) := by decide +kernel
theorem dL_law_1192 : decode cL_law 1192 = .ok (.aload_n 0, 1) := by decide +kernel
theorem dL_law_1193 : decode cL_law 1193 = .ok (.iload_n 3, 1) := by decide +kernel
theorem dL_law_1194 : decode cL_law 1194 = .ok (.iconst 4, 1) := by decide +kernel
theorem dL_law_1195 : decode cL_law 1195 = .ok (.iadd, 1) := by decide +kernel
theorem dL_law_1196 : decode cL_law 1196 = .ok (.iaload, 1) := by decide +kernel
theorem dL_law_1197 : decode cL_law 1197 = .ok (.invokevirtual 132, 3) := by decide +kernel
theorem dL_law_1200 : decode cL_law 1200 = .ok (.aload_n 2, 1) := by decide +kernel
theorem dL_law_1201 : decode cL_law 1201 = .ok (.aload_n 0, 1) := by decide +kernel
theorem dL_law_1202 : decode cL_law 1202 = .ok (.iload_n 3, 1) := by decide +kernel
theorem dL_law_1203 : decode cL_law 1203 = .ok (.iconst 1, 1) := by decide +kernel
theorem dL_law_1204 : decode cL_law 1204 = .ok (.iadd, 1) := by decide +kernel
theorem dL_law_1205 : decode cL_law 1205 = .ok (.iaload, 1) := by decide +kernel
theorem dL_law_1206 : decode cL_law 1206 = .ok (.aload_n 0, 1) := by decide +kernel
theorem dL_law_1207 : decode cL_law 1207 = .ok (.iload_n 3, 1) := by decide +kernel
theorem dL_law_1208 : decode cL_law 1208 = .ok (.iconst 2, 1) := by decide +kernel
theorem dL_law_1209 : decode cL_law 1209 = .ok (.iadd, 1) := by decide +kernel
theorem dL_law_1210 : decode cL_law 1210 = .ok (.iaload, 1) := by decide +kernel
theorem dL_law_1211 : decode cL_law 1211 = .ok (.aload_n 0, 1) := by decide +kernel
theorem dL_law_1212 : decode cL_law 1212 = .ok (.iload_n 3, 1) := by decide +kernel
theorem dL_law_1213 : decode cL_law 1213 = .ok (.iconst 3, 1) := by decide +kernel
theorem dL_law_1214 : decode cL_law 1214 = .ok (.iadd, 1) := by decide +kernel
theorem dL_law_1215 : decode cL_law 1215 = .ok (.iaload, 1) := by decide +kernel
theorem dL_law_1216 : decode cL_law 1216 = .ok (.aload_n 0, 1) := by decide +kernel
theorem dL_law_1217 : decode cL_law 1217 = .ok (.iload_n 3, 1) := by decide +kernel
theorem dL_law_1218 : decode cL_law 1218 = .ok (.iconst 4, 1) := by decide +kernel
theorem dL_law_1219 : decode cL_law 1219 = .ok (.iadd, 1) := by decide +kernel
theorem dL_law_1220 : decode cL_law 1220 = .ok (.iaload, 1) := by decide +kernel
theorem dL_law_1221 : decode cL_law 1221 = .ok (.invokevirtual 135, 3) := by decide +kernel
theorem dL_law_1224 : decode cL_law 1224 = .ok (.if_icmp .eq 604, 3) := by decide +kernel
theorem dL_law_1227 : decode cL_law 1227 = .ok (.iconst 0, 1) := by decide +kernel
theorem dL_law_1228 : decode cL_law 1228 = .ok (.ireturn, 1) := by decide +kernel
theorem dL_law_1229 : decode cL_law 1229 = .ok (.aload_n 1, 1) := by decide +kernel
theorem dL_law_1230 : decode cL_law 1230 = .ok (.aload_n 0, 1) := by decide +kernel
theorem dL_law_1231 : decode cL_law 1231 = .ok (.iload_n 3, 1) := by decide +kernel
theorem dL_law_1232 : decode cL_law 1232 = .ok (.iconst 1, 1) := by decide +kernel
theorem dL_law_1233 : decode cL_law 1233 = .ok (.iadd, 1) := by decide +kernel
theorem dL_law_1234 : decode cL_law 1234 = .ok (.iaload, 1) := by decide +kernel
theorem dL_law_1235 : decode cL_law 1235 = .ok (.aload_n 0, 1) := by decide +kernel
theorem dL_law_1236 : decode cL_law 1236 = .ok (.iload_n 3, 1) := by decide +kernel
theorem dL_law_1237 : decode cL_law 1237 = .ok (.iconst 2, 1) := by decide +kernel
theorem dL_law_1238 : decode cL_law 1238 = .ok (.iadd, 1) := by decide +kernel
theorem dL_law_1239 : decode cL_law 1239 = .ok (.iaload, 1) := by decide +kernel
theorem dL_law_1240 : decode cL_law 1240 = .ok (.aload_n 0, 1) := by decide +kernel
theorem dL_law_1241 : decode cL_law 1241 = .ok (.iload_n 3, 1) := by decide +kernel
theorem dL_law_1242 : decode cL_law 1242 = .ok (.iconst 3, 1) := by decide +kernel
theorem dL_law_1243 : decode cL_law 1243 = .ok (.iadd, 1) := by decide +kernel
theorem dL_law_1244 : decode cL_law 1244 = .ok (.iaload, 1) := by decide +kernel
theorem dL_law_1245 : decode cL_law 1245 = .ok (.aload_n 0, 1) := by decide +kernel
theorem dL_law_1246 : decode cL_law 1246 = .ok (.iload_n 3, 1) := by decide +kernel
theorem dL_law_1247 : decode cL_law 1247 = .ok (.iconst 4, 1) := by decide +kernel
theorem dL_law_1248 : decode cL_law 1248 = .ok (.iadd, 1) := by decide +kernel
theorem dL_law_1249 : decode cL_law 1249 = .ok (.iaload, 1) := by decide +kernel
theorem dL_law_1250 : decode cL_law 1250 = .ok (.invokevirtual 136, 3) := by decide +kernel
theorem dL_law_1253 : decode cL_law 1253 = .ok (.aload_n 2, 1) := by decide +kernel
theorem dL_law_1254 : decode cL_law 1254 = .ok (.aload_n 0, 1) := by decide +kernel
theorem dL_law_1255 : decode cL_law 1255 = .ok (.iload_n 3, 1) := by decide +kernel
theorem dL_law_1256 : decode cL_law 1256 = .ok (.iconst 1, 1) := by decide +kernel
theorem dL_law_1257 : decode cL_law 1257 = .ok (.iadd, 1) := by decide +kernel
theorem dL_law_1258 : decode cL_law 1258 = .ok (.iaload, 1) := by decide +kernel
theorem dL_law_1259 : decode cL_law 1259 = .ok (.aload_n 0, 1) := by decide +kernel
theorem dL_law_1260 : decode cL_law 1260 = .ok (.iload_n 3, 1) := by decide +kernel
theorem dL_law_1261 : decode cL_law 1261 = .ok (.iconst 2, 1) := by decide +kernel
theorem dL_law_1262 : decode cL_law 1262 = .ok (.iadd, 1) := by decide +kernel
theorem dL_law_1263 : decode cL_law 1263 = .ok (.iaload, 1) := by decide +kernel
theorem dL_law_1264 : decode cL_law 1264 = .ok (.aload_n 0, 1) := by decide +kernel
theorem dL_law_1265 : decode cL_law 1265 = .ok (.iload_n 3, 1) := by decide +kernel
theorem dL_law_1266 : decode cL_law 1266 = .ok (.iconst 3, 1) := by decide +kernel
theorem dL_law_1267 : decode cL_law 1267 = .ok (.iadd, 1) := by decide +kernel
theorem dL_law_1268 : decode cL_law 1268 = .ok (.iaload, 1) := by decide +kernel
theorem dL_law_1269 : decode cL_law 1269 = .ok (.aload_n 0, 1) := by decide +kernel
theorem dL_law_1270 : decode cL_law 1270 = .ok (.iload_n 3, 1) := by decide +kernel
theorem dL_law_1271 : decode cL_law 1271 = .ok (.iconst 4, 1) := by decide +kernel
theorem dL_law_1272 : decode cL_law 1272 = .ok (.iadd, 1) := by decide +kernel
theorem dL_law_1273 : decode cL_law 1273 = .ok (.iaload, 1) := by decide +kernel
theorem dL_law_1274 : decode cL_law 1274 = .ok (.invokevirtual 139, 3) := by decide +kernel
theorem dL_law_1277 : decode cL_law 1277 = .ok (.if_icmp .eq 551, 3) := by decide +kernel
theorem dL_law_1280 : decode cL_law 1280 = .ok (.iconst 0, 1) := by decide +kernel
theorem dL_law_1281 : decode cL_law 1281 = .ok (.ireturn, 1) := by decide +kernel
theorem dL_law_1282 : decode cL_law 1282 = .ok (.aload_n 1, 1) := by decide +kernel
theorem dL_law_1283 : decode cL_law 1283 = .ok (.aload_n 0, 1) := by decide +kernel
theorem dL_law_1284 : decode cL_law 1284 = .ok (.iload_n 3, 1) := by decide +kernel
theorem dL_law_1285 : decode cL_law 1285 = .ok (.iconst 1, 1) := by decide +kernel
theorem dL_law_1286 : decode cL_law 1286 = .ok (.iadd, 1) := by decide +kernel
theorem dL_law_1287 : decode cL_law 1287 = .ok (.iaload, 1) := by decide +kernel
theorem dL_law_1288 : decode cL_law 1288 = .ok (.aload_n 0, 1) := by decide +kernel
theorem dL_law_1289 : decode cL_law 1289 = .ok (.iload_n 3, 1) := by decide +kernel
theorem dL_law_1290 : decode cL_law 1290 = .ok (.iconst 2, 1) := by decide +kernel
theorem dL_law_1291 : decode cL_law 1291 = .ok (.iadd, 1) := by decide +kernel
theorem dL_law_1292 : decode cL_law 1292 = .ok (.iaload, 1) := by decide +kernel
theorem dL_law_1293 : decode cL_law 1293 = .ok (.invokevirtual 140, 3) := by decide +kernel
theorem dL_law_1296 : decode cL_law 1296 = .ok (.aload_n 2, 1) := by decide +kernel
theorem dL_law_1297 : decode cL_law 1297 = .ok (.aload_n 0, 1) := by decide +kernel
theorem dL_law_1298 : decode cL_law 1298 = .ok (.iload_n 3, 1) := by decide +kernel
theorem dL_law_1299 : decode cL_law 1299 = .ok (.iconst 1, 1) := by decide +kernel
theorem dL_law_1300 : decode cL_law 1300 = .ok (.iadd, 1) := by decide +kernel
theorem dL_law_1301 : decode cL_law 1301 = .ok (.iaload, 1) := by decide +kernel
theorem dL_law_1302 : decode cL_law 1302 = .ok (.aload_n 0, 1) := by decide +kernel
theorem dL_law_1303 : decode cL_law 1303 = .ok (.iload_n 3, 1) := by decide +kernel
theorem dL_law_1304 : decode cL_law 1304 = .ok (.iconst 2, 1) := by decide +kernel
theorem dL_law_1305 : decode cL_law 1305 = .ok (.iadd, 1) := by decide +kernel
theorem dL_law_1306 : decode cL_law 1306 = .ok (.iaload, 1) := by decide +kernel
theorem dL_law_1307 : decode cL_law 1307 = .ok (.invokevirtual 143, 3) := by decide +kernel
theorem dL_law_1310 : decode cL_law 1310 = .ok (.if_icmp .eq 518, 3) := by decide +kernel
theorem dL_law_1313 : decode cL_law 1313 = .ok (.iconst 0, 1) := by decide +kernel
theorem dL_law_1314 : decode cL_law 1314 = .ok (.ireturn, 1) := by decide +kernel
theorem dL_law_1315 : decode cL_law 1315 = .ok (.aload_n 1, 1) := by decide +kernel
theorem dL_law_1316 : decode cL_law 1316 = .ok (.aload_n 0, 1) := by decide +kernel
theorem dL_law_1317 : decode cL_law 1317 = .ok (.iload_n 3, 1) := by decide +kernel
theorem dL_law_1318 : decode cL_law 1318 = .ok (.iconst 1, 1) := by decide +kernel
theorem dL_law_1319 : decode cL_law 1319 = .ok (.iadd, 1) := by decide +kernel
theorem dL_law_1320 : decode cL_law 1320 = .ok (.iaload, 1) := by decide +kernel
theorem dL_law_1321 : decode cL_law 1321 = .ok (.aload_n 0, 1) := by decide +kernel
theorem dL_law_1322 : decode cL_law 1322 = .ok (.iload_n 3, 1) := by decide +kernel
theorem dL_law_1323 : decode cL_law 1323 = .ok (.iconst 2, 1) := by decide +kernel
theorem dL_law_1324 : decode cL_law 1324 = .ok (.iadd, 1) := by decide +kernel
theorem dL_law_1325 : decode cL_law 1325 = .ok (.iaload, 1) := by decide +kernel
theorem dL_law_1326 : decode cL_law 1326 = .ok (.invokevirtual 144, 3) := by decide +kernel
theorem dL_law_1329 : decode cL_law 1329 = .ok (.aload_n 2, 1) := by decide +kernel
theorem dL_law_1330 : decode cL_law 1330 = .ok (.aload_n 0, 1) := by decide +kernel
theorem dL_law_1331 : decode cL_law 1331 = .ok (.iload_n 3, 1) := by decide +kernel
theorem dL_law_1332 : decode cL_law 1332 = .ok (.iconst 1, 1) := by decide +kernel
theorem dL_law_1333 : decode cL_law 1333 = .ok (.iadd, 1) := by decide +kernel
theorem dL_law_1334 : decode cL_law 1334 = .ok (.iaload, 1) := by decide +kernel
theorem dL_law_1335 : decode cL_law 1335 = .ok (.aload_n 0, 1) := by decide +kernel
theorem dL_law_1336 : decode cL_law 1336 = .ok (.iload_n 3, 1) := by decide +kernel
theorem dL_law_1337 : decode cL_law 1337 = .ok (.iconst 2, 1) := by decide +kernel
theorem dL_law_1338 : decode cL_law 1338 = .ok (.iadd, 1) := by decide +kernel
theorem dL_law_1339 : decode cL_law 1339 = .ok (.iaload, 1) := by decide +kernel
theorem dL_law_1340 : decode cL_law 1340 = .ok (.invokevirtual 147, 3) := by decide +kernel
theorem dL_law_1343 : decode cL_law 1343 = .ok (.if_icmp .eq 485, 3) := by decide +kernel
theorem dL_law_1346 : decode cL_law 1346 = .ok (.iconst 0, 1) := by decide +kernel
theorem dL_law_1347 : decode cL_law 1347 = .ok (.ireturn, 1) := by decide +kernel
theorem dL_law_1348 : decode cL_law 1348 = .ok (.aload_n 1, 1) := by decide +kernel
theorem dL_law_1349 : decode cL_law 1349 = .ok (.aload_n 0, 1) := by decide +kernel
theorem dL_law_1350 : decode cL_law 1350 = .ok (.iload_n 3, 1) := by decide +kernel
theorem dL_law_1351 : decode cL_law 1351 = .ok (.iconst 1, 1) := by decide +kernel
theorem dL_law_1352 : decode cL_law 1352 = .ok (.iadd, 1) := by decide +kernel
theorem dL_law_1353 : decode cL_law 1353 = .ok (.iaload, 1) := by decide +kernel
theorem dL_law_1354 : decode cL_law 1354 = .ok (.aload_n 0, 1) := by decide +kernel
theorem dL_law_1355 : decode cL_law 1355 = .ok (.iload_n 3, 1) := by decide +kernel
theorem dL_law_1356 : decode cL_law 1356 = .ok (.iconst 2, 1) := by decide +kernel
theorem dL_law_1357 : decode cL_law 1357 = .ok (.iadd, 1) := by decide +kernel
theorem dL_law_1358 : decode cL_law 1358 = .ok (.iaload, 1) := by decide +kernel
theorem dL_law_1359 : decode cL_law 1359 = .ok (.aload_n 0, 1) := by decide +kernel
theorem dL_law_1360 : decode cL_law 1360 = .ok (.iload_n 3, 1) := by decide +kernel
theorem dL_law_1361 : decode cL_law 1361 = .ok (.iconst 3, 1) := by decide +kernel
theorem dL_law_1362 : decode cL_law 1362 = .ok (.iadd, 1) := by decide +kernel
theorem dL_law_1363 : decode cL_law 1363 = .ok (.iaload, 1) := by decide +kernel
theorem dL_law_1364 : decode cL_law 1364 = .ok (.aload_n 0, 1) := by decide +kernel
theorem dL_law_1365 : decode cL_law 1365 = .ok (.iload_n 3, 1) := by decide +kernel
theorem dL_law_1366 : decode cL_law 1366 = .ok (.iconst 4, 1) := by decide +kernel
theorem dL_law_1367 : decode cL_law 1367 = .ok (.iadd, 1) := by decide +kernel
theorem dL_law_1368 : decode cL_law 1368 = .ok (.iaload, 1) := by decide +kernel
theorem dL_law_1369 : decode cL_law 1369 = .ok (.invokevirtual 148, 3) := by decide +kernel
theorem dL_law_1372 : decode cL_law 1372 = .ok (.aload_n 2, 1) := by decide +kernel
theorem dL_law_1373 : decode cL_law 1373 = .ok (.aload_n 0, 1) := by decide +kernel
theorem dL_law_1374 : decode cL_law 1374 = .ok (.iload_n 3, 1) := by decide +kernel
theorem dL_law_1375 : decode cL_law 1375 = .ok (.iconst 1, 1) := by decide +kernel
theorem dL_law_1376 : decode cL_law 1376 = .ok (.iadd, 1) := by decide +kernel
theorem dL_law_1377 : decode cL_law 1377 = .ok (.iaload, 1) := by decide +kernel
theorem dL_law_1378 : decode cL_law 1378 = .ok (.aload_n 0, 1) := by decide +kernel
theorem dL_law_1379 : decode cL_law 1379 = .ok (.iload_n 3, 1) := by decide +kernel
theorem dL_law_1380 : decode cL_law 1380 = .ok (.iconst 2, 1) := by decide +kernel
theorem dL_law_1381 : decode cL_law 1381 = .ok (.iadd, 1) := by decide +kernel
theorem dL_law_1382 : decode cL_law 1382 = .ok (.iaload, 1) := by decide +kernel
theorem dL_law_1383 : decode cL_law 1383 = .ok (.aload_n 0, 1) := by decide +kernel
theorem dL_law_1384 : decode cL_law 1384 = .ok (.iload_n 3, 1) := by decide +kernel
theorem dL_law_1385 : decode cL_law 1385 = .ok (.iconst 3, 1) := by decide +kernel
theorem dL_law_1386 : decode cL_law 1386 = .ok (.iadd, 1) := by decide +kernel
theorem dL_law_1387 : decode cL_law 1387 = .ok (.iaload, 1) := by decide +kernel
theorem dL_law_1388 : decode cL_law 1388 = .ok (.aload_n 0, 1) := by decide +kernel
theorem dL_law_1389 : decode cL_law 1389 = .ok (.iload_n 3, 1) := by decide +kernel
theorem dL_law_1390 : decode cL_law 1390 = .ok (.iconst 4, 1) := by decide +kernel
theorem dL_law_1391 : decode cL_law 1391 = .ok (.iadd, 1) := by decide +kernel
theorem dL_law_1392 : decode cL_law 1392 = .ok (.iaload, 1) := by decide +kernel
theorem dL_law_1393 : decode cL_law 1393 = .ok (.invokevirtual 151, 3) := by decide +kernel
theorem dL_law_1396 : decode cL_law 1396 = .ok (.if_icmp .eq 432, 3) := by decide +kernel
theorem dL_law_1399 : decode cL_law 1399 = .ok (.iconst 0, 1) := by decide +kernel
theorem dL_law_1400 : decode cL_law 1400 = .ok (.ireturn, 1) := by decide +kernel
theorem dL_law_1401 : decode cL_law 1401 = .ok (.aload_n 1, 1) := by decide +kernel
theorem dL_law_1402 : decode cL_law 1402 = .ok (.aload_n 0, 1) := by decide +kernel
theorem dL_law_1403 : decode cL_law 1403 = .ok (.iload_n 3, 1) := by decide +kernel
theorem dL_law_1404 : decode cL_law 1404 = .ok (.iconst 1, 1) := by decide +kernel
theorem dL_law_1405 : decode cL_law 1405 = .ok (.iadd, 1) := by decide +kernel
theorem dL_law_1406 : decode cL_law 1406 = .ok (.iaload, 1) := by decide +kernel
theorem dL_law_1407 : decode cL_law 1407 = .ok (.aload_n 0, 1) := by decide +kernel
theorem dL_law_1408 : decode cL_law 1408 = .ok (.iload_n 3, 1) := by decide +kernel
theorem dL_law_1409 : decode cL_law 1409 = .ok (.iconst 2, 1) := by decide +kernel
theorem dL_law_1410 : decode cL_law 1410 = .ok (.iadd, 1) := by decide +kernel
theorem dL_law_1411 : decode cL_law 1411 = .ok (.iaload, 1) := by decide +kernel
theorem dL_law_1412 : decode cL_law 1412 = .ok (.aload_n 0, 1) := by decide +kernel
theorem dL_law_1413 : decode cL_law 1413 = .ok (.iload_n 3, 1) := by decide +kernel
theorem dL_law_1414 : decode cL_law 1414 = .ok (.iconst 3, 1) := by decide +kernel
theorem dL_law_1415 : decode cL_law 1415 = .ok (.iadd, 1) := by decide +kernel
theorem dL_law_1416 : decode cL_law 1416 = .ok (.iaload, 1) := by decide +kernel
theorem dL_law_1417 : decode cL_law 1417 = .ok (.aload_n 0, 1) := by decide +kernel
theorem dL_law_1418 : decode cL_law 1418 = .ok (.iload_n 3, 1) := by decide +kernel
theorem dL_law_1419 : decode cL_law 1419 = .ok (.iconst 4, 1) := by decide +kernel
theorem dL_law_1420 : decode cL_law 1420 = .ok (.iadd, 1) := by decide +kernel
theorem dL_law_1421 : decode cL_law 1421 = .ok (.iaload, 1) := by decide +kernel
theorem dL_law_1422 : decode cL_law 1422 = .ok (.aload_n 0, 1) := by decide +kernel
theorem dL_law_1423 : decode cL_law 1423 = .ok (.iload_n 3, 1) := by decide +kernel
theorem dL_law_1424 : decode cL_law 1424 = .ok (.iconst 5, 1) := by decide +kernel
theorem dL_law_1425 : decode cL_law 1425 = .ok (.iadd, 1) := by decide +kernel
theorem dL_law_1426 : decode cL_law 1426 = .ok (.iaload, 1) := by decide +kernel
theorem dL_law_1427 : decode cL_law 1427 = .ok (.aload_n 0, 1) := by decide +kernel
theorem dL_law_1428 : decode cL_law 1428 = .ok (.iload_n 3, 1) := by decide +kernel
theorem dL_law_1429 : decode cL_law 1429 = .ok (.bipush 6, 2) := by decide +kernel
theorem dL_law_1431 : decode cL_law 1431 = .ok (.iadd, 1) := by decide +kernel
theorem dL_law_1432 : decode cL_law 1432 = .ok (.iaload, 1) := by decide +kernel
theorem dL_law_1433 : decode cL_law 1433 = .ok (.invokevirtual 152, 3) := by decide +kernel
theorem dL_law_1436 : decode cL_law 1436 = .ok (.aload_n 2, 1) := by decide +kernel
theorem dL_law_1437 : decode cL_law 1437 = .ok (.aload_n 0, 1) := by decide +kernel
theorem dL_law_1438 : decode cL_law 1438 = .ok (.iload_n 3, 1) := by decide +kernel
theorem dL_law_1439 : decode cL_law 1439 = .ok (.iconst 1, 1) := by decide +kernel
theorem dL_law_1440 : decode cL_law 1440 = .ok (.iadd, 1) := by decide +kernel
theorem dL_law_1441 : decode cL_law 1441 = .ok (.iaload, 1) := by decide +kernel
theorem dL_law_1442 : decode cL_law 1442 = .ok (.aload_n 0, 1) := by decide +kernel
theorem dL_law_1443 : decode cL_law 1443 = .ok (.iload_n 3, 1) := by decide +kernel
theorem dL_law_1444 : decode cL_law 1444 = .ok (.iconst 2, 1) := by decide +kernel
theorem dL_law_1445 : decode cL_law 1445 = .ok (.iadd, 1) := by decide +kernel
theorem dL_law_1446 : decode cL_law 1446 = .ok (.iaload, 1) := by decide +kernel
theorem dL_law_1447 : decode cL_law 1447 = .ok (.aload_n 0, 1) := by decide +kernel
theorem dL_law_1448 : decode cL_law 1448 = .ok (.iload_n 3, 1) := by decide +kernel
theorem dL_law_1449 : decode cL_law 1449 = .ok (.iconst 3, 1) := by decide +kernel
theorem dL_law_1450 : decode cL_law 1450 = .ok (.iadd, 1) := by decide +kernel
theorem dL_law_1451 : decode cL_law 1451 = .ok (.iaload, 1) := by decide +kernel
theorem dL_law_1452 : decode cL_law 1452 = .ok (.aload_n 0, 1) := by decide +kernel
theorem dL_law_1453 : decode cL_law 1453 = .ok (.iload_n 3, 1) := by decide +kernel
theorem dL_law_1454 : decode cL_law 1454 = .ok (.iconst 4, 1) := by decide +kernel
theorem dL_law_1455 : decode cL_law 1455 = .ok (.iadd, 1) := by decide +kernel
theorem dL_law_1456 : decode cL_law 1456 = .ok (.iaload, 1) := by decide +kernel
theorem dL_law_1457 : decode cL_law 1457 = .ok (.aload_n 0, 1) := by decide +kernel
theorem dL_law_1458 : decode cL_law 1458 = .ok (.iload_n 3, 1) := by decide +kernel
theorem dL_law_1459 : decode cL_law 1459 = .ok (.iconst 5, 1) := by decide +kernel
theorem dL_law_1460 : decode cL_law 1460 = .ok (.iadd, 1) := by decide +kernel
theorem dL_law_1461 : decode cL_law 1461 = .ok (.iaload, 1) := by decide +kernel
theorem dL_law_1462 : decode cL_law 1462 = .ok (.aload_n 0, 1) := by decide +kernel
theorem dL_law_1463 : decode cL_law 1463 = .ok (.iload_n 3, 1) := by decide +kernel
theorem dL_law_1464 : decode cL_law 1464 = .ok (.bipush 6, 2) := by decide +kernel
theorem dL_law_1466 : decode cL_law 1466 = .ok (.iadd, 1) := by decide +kernel
theorem dL_law_1467 : decode cL_law 1467 = .ok (.iaload, 1) := by decide +kernel
theorem dL_law_1468 : decode cL_law 1468 = .ok (.invokevirtual 156, 3) := by decide +kernel
theorem dL_law_1471 : decode cL_law 1471 = .ok (.if_icmp .eq 357, 3) := by decide +kernel
theorem dL_law_1474 : decode cL_law 1474 = .ok (.iconst 0, 1) := by decide +kernel
theorem dL_law_1475 : decode cL_law 1475 = .ok (.ireturn, 1) := by decide +kernel
theorem dL_law_1476 : decode cL_law 1476 = .ok (.aload_n 1, 1) := by decide +kernel
theorem dL_law_1477 : decode cL_law 1477 = .ok (.aload_n 0, 1) := by decide +kernel
theorem dL_law_1478 : decode cL_law 1478 = .ok (.iload_n 3, 1) := by decide +kernel
theorem dL_law_1479 : decode cL_law 1479 = .ok (.iconst 1, 1) := by decide +kernel
theorem dL_law_1480 : decode cL_law 1480 = .ok (.iadd, 1) := by decide +kernel
theorem dL_law_1481 : decode cL_law 1481 = .ok (.iaload, 1) := by decide +kernel
theorem dL_law_1482 : decode cL_law 1482 = .ok (.aload_n 0, 1) := by decide +kernel
theorem dL_law_1483 : decode cL_law 1483 = .ok (.iload_n 3, 1) := by decide +kernel
theorem dL_law_1484 : decode cL_law 1484 = .ok (.iconst 2, 1) := by decide +kernel
theorem dL_law_1485 : decode cL_law 1485 = .ok (.iadd, 1) := by decide +kernel
theorem dL_law_1486 : decode cL_law 1486 = .ok (.iaload, 1) := by decide +kernel
theorem dL_law_1487 : decode cL_law 1487 = .ok (.invokevirtual 157, 3) := by decide +kernel
theorem dL_law_1490 : decode cL_law 1490 = .ok (.aload_n 2, 1) := by decide +kernel
theorem dL_law_1491 : decode cL_law 1491 = .ok (.aload_n 0, 1) := by decide +kernel
theorem dL_law_1492 : decode cL_law 1492 = .ok (.iload_n 3, 1) := by decide +kernel
theorem dL_law_1493 : decode cL_law 1493 = .ok (.iconst 1, 1) := by decide +kernel
theorem dL_law_1494 : decode cL_law 1494 = .ok (.iadd, 1) := by decide +kernel
theorem dL_law_1495 : decode cL_law 1495 = .ok (.iaload, 1) := by decide +kernel
theorem dL_law_1496 : decode cL_law 1496 = .ok (.aload_n 0, 1) := by decide +kernel
theorem dL_law_1497 : decode cL_law 1497 = .ok (.iload_n 3, 1) := by decide +kernel
theorem dL_law_1498 : decode cL_law 1498 = .ok (.iconst 2, 1) := by decide +kernel
theorem dL_law_1499 : decode cL_law 1499 = .ok (.iadd, 1) := by decide +kernel
theorem dL_law_1500 : decode cL_law 1500 = .ok (.iaload, 1) := by decide +kernel
theorem dL_law_1501 : decode cL_law 1501 = .ok (.invokevirtual 160, 3) := by decide +kernel
theorem dL_law_1504 : decode cL_law 1504 = .ok (.if_icmp .eq 324, 3) := by decide +kernel
theorem dL_law_1507 : decode cL_law 1507 = .ok (.iconst 0, 1) := by decide +kernel
theorem dL_law_1508 : decode cL_law 1508 = .ok (.ireturn, 1) := by decide +kernel
theorem dL_law_1509 : decode cL_law 1509 = .ok (.aload_n 1, 1) := by decide +kernel
theorem dL_law_1510 : decode cL_law 1510 = .ok (.aload_n 0, 1) := by decide +kernel
theorem dL_law_1511 : decode cL_law 1511 = .ok (.iload_n 3, 1) := by decide +kernel
theorem dL_law_1512 : decode cL_law 1512 = .ok (.iconst 1, 1) := by decide +kernel
theorem dL_law_1513 : decode cL_law 1513 = .ok (.iadd, 1) := by decide +kernel
theorem dL_law_1514 : decode cL_law 1514 = .ok (.iaload, 1) := by decide +kernel
theorem dL_law_1515 : decode cL_law 1515 = .ok (.aload_n 0, 1) := by decide +kernel
theorem dL_law_1516 : decode cL_law 1516 = .ok (.iload_n 3, 1) := by decide +kernel
theorem dL_law_1517 : decode cL_law 1517 = .ok (.iconst 2, 1) := by decide +kernel
theorem dL_law_1518 : decode cL_law 1518 = .ok (.iadd, 1) := by decide +kernel
theorem dL_law_1519 : decode cL_law 1519 = .ok (.iaload, 1) := by decide +kernel
theorem dL_law_1520 : decode cL_law 1520 = .ok (.aload_n 0, 1) := by decide +kernel
theorem dL_law_1521 : decode cL_law 1521 = .ok (.iload_n 3, 1) := by decide +kernel
theorem dL_law_1522 : decode cL_law 1522 = .ok (.iconst 3, 1) := by decide +kernel
theorem dL_law_1523 : decode cL_law 1523 = .ok (.iadd, 1) := by decide +kernel
theorem dL_law_1524 : decode cL_law 1524 = .ok (.iaload, 1) := by decide +kernel
theorem dL_law_1525 : decode cL_law 1525 = .ok (.aload_n 0, 1) := by decide +kernel
theorem dL_law_1526 : decode cL_law 1526 = .ok (.iload_n 3, 1) := by decide +kernel
theorem dL_law_1527 : decode cL_law 1527 = .ok (.iconst 4, 1) := by decide +kernel
theorem dL_law_1528 : decode cL_law 1528 = .ok (.iadd, 1) := by decide +kernel
theorem dL_law_1529 : decode cL_law 1529 = .ok (.iaload, 1) := by decide +kernel
theorem dL_law_1530 : decode cL_law 1530 = .ok (.aload_n 0, 1) := by decide +kernel
theorem dL_law_1531 : decode cL_law 1531 = .ok (.iload_n 3, 1) := by decide +kernel
theorem dL_law_1532 : decode cL_law 1532 = .ok (.iconst 5, 1) := by decide +kernel
theorem dL_law_1533 : decode cL_law 1533 = .ok (.iadd, 1) := by decide +kernel
theorem dL_law_1534 : decode cL_law 1534 = .ok (.iaload, 1) := by decide +kernel
theorem dL_law_1535 : decode cL_law 1535 = .ok (.invokevirtual 161, 3) := by decide +kernel
theorem dL_law_1538 : decode cL_law 1538 = .ok (.aload_n 2, 1) := by decide +kernel
theorem dL_law_1539 : decode cL_law 1539 = .ok (.aload_n 0, 1) := by decide +kernel
theorem dL_law_1540 : decode cL_law 1540 = .ok (.iload_n 3, 1) := by decide +kernel
theorem dL_law_1541 : decode cL_law 1541 = .ok (.iconst 1, 1) := by decide +kernel
theorem dL_law_1542 : decode cL_law 1542 = .ok (.iadd, 1) := by decide +kernel
theorem dL_law_1543 : decode cL_law 1543 = .ok (.iaload, 1) := by decide +kernel
theorem dL_law_1544 : decode cL_law 1544 = .ok (.aload_n 0, 1) := by decide +kernel
theorem dL_law_1545 : decode cL_law 1545 = .ok (.iload_n 3, 1) := by decide +kernel
theorem dL_law_1546 : decode cL_law 1546 = .ok (.iconst 2, 1) := by decide +kernel
theorem dL_law_1547 : decode cL_law 1547 = .ok (.iadd, 1) := by decide +kernel
theorem dL_law_1548 : decode cL_law 1548 = .ok (.iaload, 1) := by decide +kernel
theorem dL_law_1549 : decode cL_law 1549 = .ok (.aload_n 0, 1) := by decide +kernel
theorem dL_law_1550 : decode cL_law 1550 = .ok (.iload_n 3, 1) := by decide +kernel
theorem dL_law_1551 : decode cL_law 1551 = .ok (.iconst 3, 1) := by decide +kernel
theorem dL_law_1552 : decode cL_law 1552 = .ok (.iadd, 1) := by decide +kernel
theorem dL_law_1553 : decode cL_law 1553 = .ok (.iaload, 1) := by decide +kernel
theorem dL_law_1554 : decode cL_law 1554 = .ok (.aload_n 0, 1) := by decide +kernel
theorem dL_law_1555 : decode cL_law 1555 = .ok (.iload_n 3, 1) := by decide +kernel
theorem dL_law_1556 : decode cL_law 1556 = .ok (.iconst 4, 1) := by decide +kernel
theorem dL_law_1557 : decode cL_law 1557 = .ok (.iadd, 1) := by decide +kernel
theorem dL_law_1558 : decode cL_law 1558 = .ok (.iaload, 1) := by decide +kernel
theorem dL_law_1559 : decode cL_law 1559 = .ok (.aload_n 0, 1) := by decide +kernel
theorem dL_law_1560 : decode cL_law 1560 = .ok (.iload_n 3, 1) := by decide +kernel
theorem dL_law_1561 : decode cL_law 1561 = .ok (.iconst 5, 1) := by decide +kernel
theorem dL_law_1562 : decode cL_law 1562 = .ok (.iadd, 1) := by decide +kernel
theorem dL_law_1563 : decode cL_law 1563 = .ok (.iaload, 1) := by decide +kernel
theorem dL_law_1564 : decode cL_law 1564 = .ok (.invokevirtual 164, 3) := by decide +kernel
theorem dL_law_1567 : decode cL_law 1567 = .ok (.if_icmp .eq 261, 3) := by decide +kernel
theorem dL_law_1570 : decode cL_law 1570 = .ok (.iconst 0, 1) := by decide +kernel
theorem dL_law_1571 : decode cL_law 1571 = .ok (.ireturn, 1) := by decide +kernel
theorem dL_law_1572 : decode cL_law 1572 = .ok (.aload_n 1, 1) := by decide +kernel
theorem dL_law_1573 : decode cL_law 1573 = .ok (.aload_n 0, 1) := by decide +kernel
theorem dL_law_1574 : decode cL_law 1574 = .ok (.iload_n 3, 1) := by decide +kernel
theorem dL_law_1575 : decode cL_law 1575 = .ok (.iconst 1, 1) := by decide +kernel
theorem dL_law_1576 : decode cL_law 1576 = .ok (.iadd, 1) := by decide +kernel
theorem dL_law_1577 : decode cL_law 1577 = .ok (.iaload, 1) := by decide +kernel
theorem dL_law_1578 : decode cL_law 1578 = .ok (.aload_n 0, 1) := by decide +kernel
theorem dL_law_1579 : decode cL_law 1579 = .ok (.iload_n 3, 1) := by decide +kernel
theorem dL_law_1580 : decode cL_law 1580 = .ok (.iconst 2, 1) := by decide +kernel
theorem dL_law_1581 : decode cL_law 1581 = .ok (.iadd, 1) := by decide +kernel
theorem dL_law_1582 : decode cL_law 1582 = .ok (.iaload, 1) := by decide +kernel
theorem dL_law_1583 : decode cL_law 1583 = .ok (.invokevirtual 165, 3) := by decide +kernel
theorem dL_law_1586 : decode cL_law 1586 = .ok (.aload_n 2, 1) := by decide +kernel
theorem dL_law_1587 : decode cL_law 1587 = .ok (.aload_n 0, 1) := by decide +kernel
theorem dL_law_1588 : decode cL_law 1588 = .ok (.iload_n 3, 1) := by decide +kernel
theorem dL_law_1589 : decode cL_law 1589 = .ok (.iconst 1, 1) := by decide +kernel
theorem dL_law_1590 : decode cL_law 1590 = .ok (.iadd, 1) := by decide +kernel
theorem dL_law_1591 : decode cL_law 1591 = .ok (.iaload, 1) := by decide +kernel
theorem dL_law_1592 : decode cL_law 1592 = .ok (.aload_n 0, 1) := by decide +kernel
theorem dL_law_1593 : decode cL_law 1593 = .ok (.iload_n 3, 1) := by decide +kernel
theorem dL_law_1594 : decode cL_law 1594 = .ok (.iconst 2, 1) := by decide +kernel
theorem dL_law_1595 : decode cL_law 1595 = .ok (.iadd, 1) := by decide +kernel
theorem dL_law_1596 : decode cL_law 1596 = .ok (.iaload, 1) := by decide +kernel
theorem dL_law_1597 : decode cL_law 1597 = .ok (.invokevirtual 168, 3) := by decide +kernel
theorem dL_law_1600 : decode cL_law 1600 = .ok (.if_icmp .eq 228, 3) := by decide +kernel
theorem dL_law_1603 : decode cL_law 1603 = .ok (.iconst 0, 1) := by decide +kernel
theorem dL_law_1604 : decode cL_law 1604 = .ok (.ireturn, 1) := by decide +kernel
theorem dL_law_1605 : decode cL_law 1605 = .ok (.aload_n 1, 1) := by decide +kernel
theorem dL_law_1606 : decode cL_law 1606 = .ok (.aload_n 0, 1) := by decide +kernel
theorem dL_law_1607 : decode cL_law 1607 = .ok (.iload_n 3, 1) := by decide +kernel
theorem dL_law_1608 : decode cL_law 1608 = .ok (.iconst 1, 1) := by decide +kernel
theorem dL_law_1609 : decode cL_law 1609 = .ok (.iadd, 1) := by decide +kernel
theorem dL_law_1610 : decode cL_law 1610 = .ok (.iaload, 1) := by decide +kernel
theorem dL_law_1611 : decode cL_law 1611 = .ok (.invokevirtual 169, 3) := by decide +kernel
theorem dL_law_1614 : decode cL_law 1614 = .ok (.aload_n 2, 1) := by decide +kernel
theorem dL_law_1615 : decode cL_law 1615 = .ok (.aload_n 0, 1) := by decide +kernel
theorem dL_law_1616 : decode cL_law 1616 = .ok (.iload_n 3, 1) := by decide +kernel
theorem dL_law_1617 : decode cL_law 1617 = .ok (.iconst 1, 1) := by decide +kernel
theorem dL_law_1618 : decode cL_law 1618 = .ok (.iadd, 1) := by decide +kernel
theorem dL_law_1619 : decode cL_law 1619 = .ok (.iaload, 1) := by decide +kernel
theorem dL_law_1620 : decode cL_law 1620 = .ok (.invokevirtual 172, 3) := by decide +kernel
theorem dL_law_1623 : decode cL_law 1623 = .ok (.if_icmp .eq 205, 3) := by decide +kernel
theorem dL_law_1626 : decode cL_law 1626 = .ok (.iconst 0, 1) := by decide +kernel
theorem dL_law_1627 : decode cL_law 1627 = .ok (.ireturn, 1) := by decide +kernel
theorem dL_law_1628 : decode cL_law 1628 = .ok (.aload_n 1, 1) := by decide +kernel
theorem dL_law_1629 : decode cL_law 1629 = .ok (.aload_n 0, 1) := by decide +kernel
theorem dL_law_1630 : decode cL_law 1630 = .ok (.iload_n 3, 1) := by decide +kernel
theorem dL_law_1631 : decode cL_law 1631 = .ok (.iconst 1, 1) := by decide +kernel
theorem dL_law_1632 : decode cL_law 1632 = .ok (.iadd, 1) := by decide +kernel
theorem dL_law_1633 : decode cL_law 1633 = .ok (.iaload, 1) := by decide +kernel
theorem dL_law_1634 : decode cL_law 1634 = .ok (.aload_n 0, 1) := by decide +kernel
theorem dL_law_1635 : decode cL_law 1635 = .ok (.iload_n 3, 1) := by decide +kernel
theorem dL_law_1636 : decode cL_law 1636 = .ok (.iconst 2, 1) := by decide +kernel
theorem dL_law_1637 : decode cL_law 1637 = .ok (.iadd, 1) := by decide +kernel
theorem dL_law_1638 : decode cL_law 1638 = .ok (.iaload, 1) := by decide +kernel
theorem dL_law_1639 : decode cL_law 1639 = .ok (.invokevirtual 173, 3) := by decide +kernel
theorem dL_law_1642 : decode cL_law 1642 = .ok (.aload_n 2, 1) := by decide +kernel
theorem dL_law_1643 : decode cL_law 1643 = .ok (.aload_n 0, 1) := by decide +kernel
theorem dL_law_1644 : decode cL_law 1644 = .ok (.iload_n 3, 1) := by decide +kernel
theorem dL_law_1645 : decode cL_law 1645 = .ok (.iconst 1, 1) := by decide +kernel
theorem dL_law_1646 : decode cL_law 1646 = .ok (.iadd, 1) := by decide +kernel
theorem dL_law_1647 : decode cL_law 1647 = .ok (.iaload, 1) := by decide +kernel
theorem dL_law_1648 : decode cL_law 1648 = .ok (.aload_n 0, 1) := by decide +kernel
theorem dL_law_1649 : decode cL_law 1649 = .ok (.iload_n 3, 1) := by decide +kernel
theorem dL_law_1650 : decode cL_law 1650 = .ok (.iconst 2, 1) := by decide +kernel
theorem dL_law_1651 : decode cL_law 1651 = .ok (.iadd, 1) := by decide +kernel
theorem dL_law_1652 : decode cL_law 1652 = .ok (.iaload, 1) := by decide +kernel
theorem dL_law_1653 : decode cL_law 1653 = .ok (.invokevirtual 176, 3) := by decide +kernel
theorem dL_law_1656 : decode cL_law 1656 = .ok (.if_icmp .eq 172, 3) := by decide +kernel
theorem dL_law_1659 : decode cL_law 1659 = .ok (.iconst 0, 1) := by decide +kernel
theorem dL_law_1660 : decode cL_law 1660 = .ok (.ireturn, 1) := by decide +kernel
theorem dL_law_1661 : decode cL_law 1661 = .ok (.aload_n 1, 1) := by decide +kernel
theorem dL_law_1662 : decode cL_law 1662 = .ok (.aload_n 0, 1) := by decide +kernel
theorem dL_law_1663 : decode cL_law 1663 = .ok (.iload_n 3, 1) := by decide +kernel
theorem dL_law_1664 : decode cL_law 1664 = .ok (.iconst 1, 1) := by decide +kernel
theorem dL_law_1665 : decode cL_law 1665 = .ok (.iadd, 1) := by decide +kernel
theorem dL_law_1666 : decode cL_law 1666 = .ok (.iaload, 1) := by decide +kernel
theorem dL_law_1667 : decode cL_law 1667 = .ok (.aload_n 0, 1) := by decide +kernel
theorem dL_law_1668 : decode cL_law 1668 = .ok (.iload_n 3, 1) := by decide +kernel
theorem dL_law_1669 : decode cL_law 1669 = .ok (.iconst 2, 1) := by decide +kernel
theorem dL_law_1670 : decode cL_law 1670 = .ok (.iadd, 1) := by decide +kernel
theorem dL_law_1671 : decode cL_law 1671 = .ok (.iaload, 1) := by decide +kernel
theorem dL_law_1672 : decode cL_law 1672 = .ok (.aload_n 0, 1) := by decide +kernel
theorem dL_law_1673 : decode cL_law 1673 = .ok (.iload_n 3, 1) := by decide +kernel
theorem dL_law_1674 : decode cL_law 1674 = .ok (.iconst 3, 1) := by decide +kernel
theorem dL_law_1675 : decode cL_law 1675 = .ok (.iadd, 1) := by decide +kernel
theorem dL_law_1676 : decode cL_law 1676 = .ok (.iaload, 1) := by decide +kernel
theorem dL_law_1677 : decode cL_law 1677 = .ok (.aload_n 0, 1) := by decide +kernel
theorem dL_law_1678 : decode cL_law 1678 = .ok (.iload_n 3, 1) := by decide +kernel
theorem dL_law_1679 : decode cL_law 1679 = .ok (.iconst 4, 1) := by decide +kernel
theorem dL_law_1680 : decode cL_law 1680 = .ok (.iadd, 1) := by decide +kernel
theorem dL_law_1681 : decode cL_law 1681 = .ok (.iaload, 1) := by decide +kernel
theorem dL_law_1682 : decode cL_law 1682 = .ok (.invokevirtual 177, 3) := by decide +kernel
theorem dL_law_1685 : decode cL_law 1685 = .ok (.aload_n 2, 1) := by decide +kernel
theorem dL_law_1686 : decode cL_law 1686 = .ok (.aload_n 0, 1) := by decide +kernel
theorem dL_law_1687 : decode cL_law 1687 = .ok (.iload_n 3, 1) := by decide +kernel
theorem dL_law_1688 : decode cL_law 1688 = .ok (.iconst 1, 1) := by decide +kernel
theorem dL_law_1689 : decode cL_law 1689 = .ok (.iadd, 1) := by decide +kernel
theorem dL_law_1690 : decode cL_law 1690 = .ok (.iaload, 1) := by decide +kernel
theorem dL_law_1691 : decode cL_law 1691 = .ok (.aload_n 0, 1) := by decide +kernel
theorem dL_law_1692 : decode cL_law 1692 = .ok (.iload_n 3, 1) := by decide +kernel
theorem dL_law_1693 : decode cL_law 1693 = .ok (.iconst 2, 1) := by decide +kernel
theorem dL_law_1694 : decode cL_law 1694 = .ok (.iadd, 1) := by decide +kernel
theorem dL_law_1695 : decode cL_law 1695 = .ok (.iaload, 1) := by decide +kernel
theorem dL_law_1696 : decode cL_law 1696 = .ok (.aload_n 0, 1) := by decide +kernel
theorem dL_law_1697 : decode cL_law 1697 = .ok (.iload_n 3, 1) := by decide +kernel
theorem dL_law_1698 : decode cL_law 1698 = .ok (.iconst 3, 1) := by decide +kernel
theorem dL_law_1699 : decode cL_law 1699 = .ok (.iadd, 1) := by decide +kernel
theorem dL_law_1700 : decode cL_law 1700 = .ok (.iaload, 1) := by decide +kernel
theorem dL_law_1701 : decode cL_law 1701 = .ok (.aload_n 0, 1) := by decide +kernel
theorem dL_law_1702 : decode cL_law 1702 = .ok (.iload_n 3, 1) := by decide +kernel
theorem dL_law_1703 : decode cL_law 1703 = .ok (.iconst 4, 1) := by decide +kernel
theorem dL_law_1704 : decode cL_law 1704 = .ok (.iadd, 1) := by decide +kernel
theorem dL_law_1705 : decode cL_law 1705 = .ok (.iaload, 1) := by decide +kernel
theorem dL_law_1706 : decode cL_law 1706 = .ok (.invokevirtual 180, 3) := by decide +kernel
theorem dL_law_1709 : decode cL_law 1709 = .ok (.if_icmp .eq 119, 3) := by decide +kernel
theorem dL_law_1712 : decode cL_law 1712 = .ok (.iconst 0, 1) := by decide +kernel
theorem dL_law_1713 : decode cL_law 1713 = .ok (.ireturn, 1) := by decide +kernel
theorem dL_law_1714 : decode cL_law 1714 = .ok (.aload_n 1, 1) := by decide +kernel
theorem dL_law_1715 : decode cL_law 1715 = .ok (.invokevirtual 181, 3) := by decide +kernel
theorem dL_law_1718 : decode cL_law 1718 = .ok (.aload_n 2, 1) := by decide +kernel
theorem dL_law_1719 : decode cL_law 1719 = .ok (.invokevirtual 184, 3) := by decide +kernel
theorem dL_law_1722 : decode cL_law 1722 = .ok (.if_icmp .eq 106, 3) := by decide +kernel
theorem dL_law_1725 : decode cL_law 1725 = .ok (.iconst 0, 1) := by decide +kernel
theorem dL_law_1726 : decode cL_law 1726 = .ok (.ireturn, 1) := by decide +kernel
theorem dL_law_1727 : decode cL_law 1727 = .ok (.aload_n 1, 1) := by decide +kernel
theorem dL_law_1728 : decode cL_law 1728 = .ok (.invokevirtual 185, 3) := by decide +kernel
theorem dL_law_1731 : decode cL_law 1731 = .ok (.aload_n 2, 1) := by decide +kernel
theorem dL_law_1732 : decode cL_law 1732 = .ok (.invokevirtual 189, 3) := by decide +kernel
theorem dL_law_1735 : decode cL_law 1735 = .ok (.lcmp, 1) := by decide +kernel
theorem dL_law_1736 : decode cL_law 1736 = .ok (.ifCond .eq 92, 3) := by decide +kernel
theorem dL_law_1739 : decode cL_law 1739 = .ok (.iconst 0, 1) := by decide +kernel
theorem dL_law_1740 : decode cL_law 1740 = .ok (.ireturn, 1) := by decide +kernel
theorem dL_law_1741 : decode cL_law 1741 = .ok (.aload_n 1, 1) := by decide +kernel
theorem dL_law_1742 : decode cL_law 1742 = .ok (.invokevirtual 190, 3) := by decide +kernel
theorem dL_law_1745 : decode cL_law 1745 = .ok (.aload_n 2, 1) := by decide +kernel
theorem dL_law_1746 : decode cL_law 1746 = .ok (.invokevirtual 193, 3) := by decide +kernel
theorem dL_law_1749 : decode cL_law 1749 = .ok (.lcmp, 1) := by decide +kernel
theorem dL_law_1750 : decode cL_law 1750 = .ok (.ifCond .eq 78, 3) := by decide +kernel
theorem dL_law_1753 : decode cL_law 1753 = .ok (.iconst 0, 1) := by decide +kernel
theorem dL_law_1754 : decode cL_law 1754 = .ok (.ireturn, 1) := by decide +kernel
theorem dL_law_1755 : decode cL_law 1755 = .ok (.aload_n 1, 1) := by decide +kernel
theorem dL_law_1756 : decode cL_law 1756 = .ok (.aload_n 0, 1) := by decide +kernel
theorem dL_law_1757 : decode cL_law 1757 = .ok (.iload_n 3, 1) := by decide +kernel
theorem dL_law_1758 : decode cL_law 1758 = .ok (.iconst 1, 1) := by decide +kernel
theorem dL_law_1759 : decode cL_law 1759 = .ok (.iadd, 1) := by decide +kernel
theorem dL_law_1760 : decode cL_law 1760 = .ok (.iaload, 1) := by decide +kernel
theorem dL_law_1761 : decode cL_law 1761 = .ok (.invokevirtual 194, 3) := by decide +kernel
theorem dL_law_1764 : decode cL_law 1764 = .ok (.aload_n 2, 1) := by decide +kernel
theorem dL_law_1765 : decode cL_law 1765 = .ok (.aload_n 0, 1) := by decide +kernel
theorem dL_law_1766 : decode cL_law 1766 = .ok (.iload_n 3, 1) := by decide +kernel
theorem dL_law_1767 : decode cL_law 1767 = .ok (.iconst 1, 1) := by decide +kernel
theorem dL_law_1768 : decode cL_law 1768 = .ok (.iadd, 1) := by decide +kernel
theorem dL_law_1769 : decode cL_law 1769 = .ok (.iaload, 1) := by decide +kernel
theorem dL_law_1770 : decode cL_law 1770 = .ok (.invokevirtual 197, 3) := by decide +kernel
theorem dL_law_1773 : decode cL_law 1773 = .ok (.if_icmp .eq 55, 3) := by decide +kernel
theorem dL_law_1776 : decode cL_law 1776 = .ok (.iconst 0, 1) := by decide +kernel
theorem dL_law_1777 : decode cL_law 1777 = .ok (.ireturn, 1) := by decide +kernel
theorem dL_law_1778 : decode cL_law 1778 = .ok (.aload_n 1, 1) := by decide +kernel
theorem dL_law_1779 : decode cL_law 1779 = .ok (.invokevirtual 198, 3) := by decide +kernel
theorem dL_law_1782 : decode cL_law 1782 = .ok (.aload_n 2, 1) := by decide +kernel
theorem dL_law_1783 : decode cL_law 1783 = .ok (.invokevirtual 201, 3) := by decide +kernel
theorem dL_law_1786 : decode cL_law 1786 = .ok (.if_icmp .eq 42, 3) := by decide +kernel
theorem dL_law_1789 : decode cL_law 1789 = .ok (.iconst 0, 1) := by decide +kernel
theorem dL_law_1790 : decode cL_law 1790 = .ok (.ireturn, 1) := by decide +kernel
theorem dL_law_1791 : decode cL_law 1791 = .ok (.aload_n 1, 1) := by decide +kernel
theorem dL_law_1792 : decode cL_law 1792 = .ok (.aload_n 0, 1) := by decide +kernel
theorem dL_law_1793 : decode cL_law 1793 = .ok (.iload_n 3, 1) := by decide +kernel
theorem dL_law_1794 : decode cL_law 1794 = .ok (.iconst 1, 1) := by decide +kernel
theorem dL_law_1795 : decode cL_law 1795 = .ok (.iadd, 1) := by decide +kernel
theorem dL_law_1796 : decode cL_law 1796 = .ok (.iaload, 1) := by decide +kernel
theorem dL_law_1797 : decode cL_law 1797 = .ok (.invokevirtual 202, 3) := by decide +kernel
theorem dL_law_1800 : decode cL_law 1800 = .ok (.aload_n 2, 1) := by decide +kernel
theorem dL_law_1801 : decode cL_law 1801 = .ok (.aload_n 0, 1) := by decide +kernel
theorem dL_law_1802 : decode cL_law 1802 = .ok (.iload_n 3, 1) := by decide +kernel
theorem dL_law_1803 : decode cL_law 1803 = .ok (.iconst 1, 1) := by decide +kernel
theorem dL_law_1804 : decode cL_law 1804 = .ok (.iadd, 1) := by decide +kernel
theorem dL_law_1805 : decode cL_law 1805 = .ok (.iaload, 1) := by decide +kernel
theorem dL_law_1806 : decode cL_law 1806 = .ok (.invokevirtual 205, 3) := by decide +kernel
theorem dL_law_1809 : decode cL_law 1809 = .ok (.if_icmp .eq 19, 3) := by decide +kernel
theorem dL_law_1812 : decode cL_law 1812 = .ok (.iconst 0, 1) := by decide +kernel
theorem dL_law_1813 : decode cL_law 1813 = .ok (.ireturn, 1) := by decide +kernel
theorem dL_law_1814 : decode cL_law 1814 = .ok (.aload_n 1, 1) := by decide +kernel
theorem dL_law_1815 : decode cL_law 1815 = .ok (.invokevirtual 206, 3) := by decide +kernel
theorem dL_law_1818 : decode cL_law 1818 = .ok (.aload_n 2, 1) := by decide +kernel
theorem dL_law_1819 : decode cL_law 1819 = .ok (.invokevirtual 209, 3) := by decide +kernel
theorem dL_law_1822 : decode cL_law 1822 = .ok (.lcmp, 1) := by decide +kernel
theorem dL_law_1823 : decode cL_law 1823 = .ok (.ifCond .eq 5, 3) := by decide +kernel
theorem dL_law_1826 : decode cL_law 1826 = .ok (.iconst 0, 1) := by decide +kernel
theorem dL_law_1827 : decode cL_law 1827 = .ok (.ireturn, 1) := by decide +kernel
theorem dL_law_1828 : decode cL_law 1828 = .ok (.iinc 3 7, 3) := by decide +kernel
theorem dL_law_1831 : decode cL_law 1831 = .ok (.goto (-1813), 3) := by decide +kernel
theorem dL_law_1834 : decode cL_law 1834 = .ok (.iconst 1, 1) := by decide +kernel
theorem dL_law_1835 : decode cL_law 1835 = .ok (.ireturn, 1) := by decide +kernel
def f_L_law (L : Nat) (xs : Nat → Int32) : Nat → Int32 → G_ → Option Int32
  | 0, _, _ => none
  | n + 1, v3, G =>
    if (Int32.ofNat L) - 7 < v3 then (
      some 1)
    else (
      chk (inb v3 L) <|
      if (xs (ix v3)) &&& 63 = 0 then (
        chk (inb (v3 + 1) L) <|
        chk (inb (v3 + 2) L) <|
        bj2 (f_X7_row (xs (ix (v3 + 1))) (xs (ix (v3 + 2))) G) fun x472 G471 =>
        chk (inb (v3 + 1) L) <|
        chk (inb (v3 + 2) L) <|
        bj2 (f_X8_row (xs (ix (v3 + 1))) (xs (ix (v3 + 2))) G471) fun x477 G476 =>
        if x472 = x477 then (
          f_L_law L xs n (v3 + 7) G476)
        else (
          some 0))
      else if (xs (ix v3)) &&& 63 = 1 then (
        chk (inb (v3 + 1) L) <|
        chk (inb (v3 + 2) L) <|
        chk (inb (v3 + 3) L) <|
        bj2 (f_X7_lay (xs (ix (v3 + 1))) (xs (ix (v3 + 2))) (xs (ix (v3 + 3))) G) fun x483 G482 =>
        chk (inb (v3 + 1) L) <|
        chk (inb (v3 + 2) L) <|
        chk (inb (v3 + 3) L) <|
        bj2 (f_X8_lay (xs (ix (v3 + 1))) (xs (ix (v3 + 2))) (xs (ix (v3 + 3))) G482) fun x489 G488 =>
        if x483 = x489 then (
          f_L_law L xs n (v3 + 7) G488)
        else (
          some 0))
      else if (xs (ix v3)) &&& 63 = 2 then (
        chk (inb (v3 + 1) L) <|
        chk (inb (v3 + 2) L) <|
        bj2 (f_X7_at (xs (ix (v3 + 1))) (xs (ix (v3 + 2))) G) fun x494 G493 =>
        chk (inb (v3 + 1) L) <|
        chk (inb (v3 + 2) L) <|
        bj2 (f_X8_at (xs (ix (v3 + 1))) (xs (ix (v3 + 2))) G493) fun x499 G498 =>
        if x494 = x499 then (
          f_L_law L xs n (v3 + 7) G498)
        else (
          some 0))
      else if (xs (ix v3)) &&& 63 = 3 then (
        chk (inb (v3 + 1) L) <|
        bj2 (f_X7_tear (xs (ix (v3 + 1))) G) fun x503 G502 =>
        chk (inb (v3 + 1) L) <|
        bj2 (f_X8_tear (xs (ix (v3 + 1))) G502) fun x507 G506 =>
        if x503 = x507 then (
          f_L_law L xs n (v3 + 7) G506)
        else (
          some 0))
      else if (xs (ix v3)) &&& 63 = 4 then (
        chk (inb (v3 + 1) L) <|
        chk (inb (v3 + 2) L) <|
        chk (inb (v3 + 3) L) <|
        chk (inb (v3 + 4) L) <|
        chk (inb (v3 + 5) L) <|
        bj2 (f_X7_copy (xs (ix (v3 + 1))) (xs (ix (v3 + 2))) (xs (ix (v3 + 3))) (xs (ix (v3 + 4))) (xs (ix (v3 + 5))) G) fun x515 G514 =>
        chk (inb (v3 + 1) L) <|
        chk (inb (v3 + 2) L) <|
        chk (inb (v3 + 3) L) <|
        chk (inb (v3 + 4) L) <|
        chk (inb (v3 + 5) L) <|
        bj2 (f_X8_copy (xs (ix (v3 + 1))) (xs (ix (v3 + 2))) (xs (ix (v3 + 3))) (xs (ix (v3 + 4))) (xs (ix (v3 + 5))) G514) fun x523 G522 =>
        if x515 = x523 then (
          f_L_law L xs n (v3 + 7) G522)
        else (
          some 0))
      else if (xs (ix v3)) &&& 63 = 5 then (
        chk (inb (v3 + 1) L) <|
        bj2 (f_X7_mean (xs (ix (v3 + 1))) G) fun x527 G526 =>
        chk (inb (v3 + 1) L) <|
        bj2 (f_X8_mean (xs (ix (v3 + 1))) G526) fun x531 G530 =>
        if x527 = x531 then (
          f_L_law L xs n (v3 + 7) G530)
        else (
          some 0))
      else if (xs (ix v3)) &&& 63 = 6 then (
        chk (inb (v3 + 1) L) <|
        chk (inb (v3 + 2) L) <|
        bj2 (f_X7_text (xs (ix (v3 + 1))) (xs (ix (v3 + 2))) G) fun x536 G535 =>
        chk (inb (v3 + 1) L) <|
        chk (inb (v3 + 2) L) <|
        bj2 (f_X8_text (xs (ix (v3 + 1))) (xs (ix (v3 + 2))) G535) fun x541 G540 =>
        if x536 = x541 then (
          f_L_law L xs n (v3 + 7) G540)
        else (
          some 0))
      else if (xs (ix v3)) &&& 63 = 7 then (
        chk (inb (v3 + 1) L) <|
        chk (inb (v3 + 2) L) <|
        chk (inb (v3 + 3) L) <|
        bj2 (f_X7_put (xs (ix (v3 + 1))) (xs (ix (v3 + 2))) (xs (ix (v3 + 3))) G) fun x547 G546 =>
        chk (inb (v3 + 1) L) <|
        chk (inb (v3 + 2) L) <|
        chk (inb (v3 + 3) L) <|
        bj2 (f_X8_put (xs (ix (v3 + 1))) (xs (ix (v3 + 2))) (xs (ix (v3 + 3))) G546) fun x553 G552 =>
        if x547 = x553 then (
          f_L_law L xs n (v3 + 7) G552)
        else (
          some 0))
      else if (xs (ix v3)) &&& 63 = 8 then (
        chk (inb (v3 + 1) L) <|
        chk (inb (v3 + 2) L) <|
        bj1 (
          if xs (ix (v3 + 2)) = 0 then (
            some (0))
          else (
            some (1))) fun (x558 : Int32) =>
        bj2 (f_X7_fault (xs (ix (v3 + 1))) x558 G) fun x560 G559 =>
        chk (inb (v3 + 1) L) <|
        chk (inb (v3 + 2) L) <|
        bj1 (
          if xs (ix (v3 + 2)) = 0 then (
            some (0))
          else (
            some (1))) fun (x565 : Int32) =>
        bj2 (f_X8_fault (xs (ix (v3 + 1))) x565 G559) fun x567 G566 =>
        if x560 = x567 then (
          f_L_law L xs n (v3 + 7) G566)
        else (
          some 0))
      else if (xs (ix v3)) &&& 63 = 9 then (
        chk (inb (v3 + 1) L) <|
        chk (inb (v3 + 2) L) <|
        bj2 (f_X7_slab (xs (ix (v3 + 1))) (xs (ix (v3 + 2))) G) fun x572 G571 =>
        chk (inb (v3 + 1) L) <|
        chk (inb (v3 + 2) L) <|
        bj2 (f_X8_slab (xs (ix (v3 + 1))) (xs (ix (v3 + 2))) G571) fun x577 G576 =>
        if x572 = x577 then (
          f_L_law L xs n (v3 + 7) G576)
        else (
          some 0))
      else if (xs (ix v3)) &&& 63 = 10 then (
        chk (inb (v3 + 1) L) <|
        chk (inb (v3 + 2) L) <|
        bj2 (f_X7_plan (xs (ix (v3 + 1))) (xs (ix (v3 + 2))) G) fun x582 G581 =>
        chk (inb (v3 + 1) L) <|
        chk (inb (v3 + 2) L) <|
        bj2 (f_X8_plan (xs (ix (v3 + 1))) (xs (ix (v3 + 2))) G581) fun x587 G586 =>
        if x582 = x587 then (
          f_L_law L xs n (v3 + 7) G586)
        else (
          some 0))
      else if (xs (ix v3)) &&& 63 = 11 then (
        chk (inb (v3 + 1) L) <|
        chk (inb (v3 + 2) L) <|
        bj2 (f_X7_about (xs (ix (v3 + 1))) (xs (ix (v3 + 2))) G) fun x592 G591 =>
        chk (inb (v3 + 1) L) <|
        chk (inb (v3 + 2) L) <|
        bj2 (f_X8_about (xs (ix (v3 + 1))) (xs (ix (v3 + 2))) G591) fun x597 G596 =>
        if x592 = x597 then (
          f_L_law L xs n (v3 + 7) G596)
        else (
          some 0))
      else if (xs (ix v3)) &&& 63 = 12 then (
        chk (inb (v3 + 1) L) <|
        chk (inb (v3 + 2) L) <|
        bj2 (f_X7_step (xs (ix (v3 + 1))) (xs (ix (v3 + 2))) G) fun x602 G601 =>
        chk (inb (v3 + 1) L) <|
        chk (inb (v3 + 2) L) <|
        bj2 (f_X8_step (xs (ix (v3 + 1))) (xs (ix (v3 + 2))) G601) fun x607 G606 =>
        if x602 = x607 then (
          f_L_law L xs n (v3 + 7) G606)
        else (
          some 0))
      else if (xs (ix v3)) &&& 63 = 13 then (
        chk (inb (v3 + 1) L) <|
        chk (inb (v3 + 2) L) <|
        bj2 (f_X7_dish (xs (ix (v3 + 1))) (xs (ix (v3 + 2))) G) fun x612 G611 =>
        chk (inb (v3 + 1) L) <|
        chk (inb (v3 + 2) L) <|
        bj2 (f_X8_dish (xs (ix (v3 + 1))) (xs (ix (v3 + 2))) G611) fun x617 G616 =>
        if x612 = x617 then (
          f_L_law L xs n (v3 + 7) G616)
        else (
          some 0))
      else if (xs (ix v3)) &&& 63 = 14 then (
        chk (inb (v3 + 1) L) <|
        bj2 (f_X7_go (xs (ix (v3 + 1))) G) fun x621 G620 =>
        chk (inb (v3 + 1) L) <|
        bj2 (f_X8_go (xs (ix (v3 + 1))) G620) fun x625 G624 =>
        if x621 = x625 then (
          f_L_law L xs n (v3 + 7) G624)
        else (
          some 0))
      else if (xs (ix v3)) &&& 63 = 15 then (
        chk (inb (v3 + 1) L) <|
        chk (inb (v3 + 2) L) <|
        bj2 (f_X7_depth (xs (ix (v3 + 1))) (xs (ix (v3 + 2))) G) fun x630 G629 =>
        chk (inb (v3 + 1) L) <|
        chk (inb (v3 + 2) L) <|
        bj2 (f_X8_depth (xs (ix (v3 + 1))) (xs (ix (v3 + 2))) G629) fun x635 G634 =>
        if x630 = x635 then (
          f_L_law L xs n (v3 + 7) G634)
        else (
          some 0))
      else if (xs (ix v3)) &&& 63 = 16 then (
        chk (inb (v3 + 1) L) <|
        chk (inb (v3 + 2) L) <|
        bj2 (f_X7_skin (xs (ix (v3 + 1))) (xs (ix (v3 + 2))) G) fun x640 G639 =>
        chk (inb (v3 + 1) L) <|
        chk (inb (v3 + 2) L) <|
        bj2 (f_X8_skin (xs (ix (v3 + 1))) (xs (ix (v3 + 2))) G639) fun x645 G644 =>
        if x640 = x645 then (
          f_L_law L xs n (v3 + 7) G644)
        else (
          some 0))
      else if (xs (ix v3)) &&& 63 = 17 then (
        chk (inb (v3 + 1) L) <|
        chk (inb (v3 + 2) L) <|
        bj2 (f_X7_mark (xs (ix (v3 + 1))) (xs (ix (v3 + 2))) G) fun x650 G649 =>
        chk (inb (v3 + 1) L) <|
        chk (inb (v3 + 2) L) <|
        bj2 (f_X8_mark (xs (ix (v3 + 1))) (xs (ix (v3 + 2))) G649) fun x655 G654 =>
        if x650 = x655 then (
          f_L_law L xs n (v3 + 7) G654)
        else (
          some 0))
      else if (xs (ix v3)) &&& 63 = 18 then (
        chk (inb (v3 + 1) L) <|
        bj2 (f_X7_keep (xs (ix (v3 + 1))) G) fun x659 G658 =>
        chk (inb (v3 + 1) L) <|
        bj2 (f_X8_keep (xs (ix (v3 + 1))) G658) fun x663 G662 =>
        if x659 = x663 then (
          f_L_law L xs n (v3 + 7) G662)
        else (
          some 0))
      else if (xs (ix v3)) &&& 63 = 19 then (
        chk (inb (v3 + 1) L) <|
        bj2 (f_X7_on (xs (ix (v3 + 1))) G) fun x667 G666 =>
        chk (inb (v3 + 1) L) <|
        bj2 (f_X8_on (xs (ix (v3 + 1))) G666) fun x671 G670 =>
        if x667 = x671 then (
          f_L_law L xs n (v3 + 7) G670)
        else (
          some 0))
      else if (xs (ix v3)) &&& 63 = 20 then (
        chk (inb (v3 + 1) L) <|
        chk (inb (v3 + 2) L) <|
        bj2 (f_X7_just (xs (ix (v3 + 1))) (xs (ix (v3 + 2))) G) fun x676 G675 =>
        chk (inb (v3 + 1) L) <|
        chk (inb (v3 + 2) L) <|
        bj2 (f_X8_just (xs (ix (v3 + 1))) (xs (ix (v3 + 2))) G675) fun x681 G680 =>
        if x676 = x681 then (
          f_L_law L xs n (v3 + 7) G680)
        else (
          some 0))
      else if (xs (ix v3)) &&& 63 = 21 then (
        chk (inb (v3 + 1) L) <|
        bj2 (f_X7_slice (xs (ix (v3 + 1))) G) fun x685 G684 =>
        chk (inb (v3 + 1) L) <|
        bj2 (f_X8_slice (xs (ix (v3 + 1))) G684) fun x689 G688 =>
        if x685 = x689 then (
          f_L_law L xs n (v3 + 7) G688)
        else (
          some 0))
      else if (xs (ix v3)) &&& 63 = 22 then (
        chk (inb (v3 + 1) L) <|
        bj2 (f_X7_cut (xs (ix (v3 + 1))) G) fun x693 G692 =>
        chk (inb (v3 + 1) L) <|
        bj2 (f_X8_cut (xs (ix (v3 + 1))) G692) fun x697 G696 =>
        if x693 = x697 then (
          f_L_law L xs n (v3 + 7) G696)
        else (
          some 0))
      else if (xs (ix v3)) &&& 63 = 23 then (
        bj2 (f_X7_rise G) fun x700 G699 =>
        bj2 (f_X8_rise G699) fun x703 G702 =>
        if x700 = x703 then (
          f_L_law L xs n (v3 + 7) G702)
        else (
          some 0))
      else if (xs (ix v3)) &&& 63 = 24 then (
        chk (inb (v3 + 1) L) <|
        bj2 (f_X7_wire (xs (ix (v3 + 1))) G) fun x707 G706 =>
        chk (inb (v3 + 1) L) <|
        bj2 (f_X8_wire (xs (ix (v3 + 1))) G706) fun x711 G710 =>
        if x707 = x711 then (
          f_L_law L xs n (v3 + 7) G710)
        else (
          some 0))
      else if (xs (ix v3)) &&& 63 = 25 then (
        chk (inb (v3 + 1) L) <|
        chk (inb (v3 + 2) L) <|
        chk (inb (v3 + 3) L) <|
        chk (inb (v3 + 4) L) <|
        bj2 (f_X7_way (xs (ix (v3 + 1))) (xs (ix (v3 + 2))) (xs (ix (v3 + 3))) (xs (ix (v3 + 4))) G) fun x718 G717 =>
        chk (inb (v3 + 1) L) <|
        chk (inb (v3 + 2) L) <|
        chk (inb (v3 + 3) L) <|
        chk (inb (v3 + 4) L) <|
        bj2 (f_X8_way (xs (ix (v3 + 1))) (xs (ix (v3 + 2))) (xs (ix (v3 + 3))) (xs (ix (v3 + 4))) G717) fun x725 G724 =>
        if x718 = x725 then (
          f_L_law L xs n (v3 + 7) G724)
        else (
          some 0))
      else if (xs (ix v3)) &&& 63 = 26 then (
        chk (inb (v3 + 1) L) <|
        chk (inb (v3 + 2) L) <|
        chk (inb (v3 + 3) L) <|
        chk (inb (v3 + 4) L) <|
        bj2 (f_X7_often (xs (ix (v3 + 1))) (xs (ix (v3 + 2))) (xs (ix (v3 + 3))) (xs (ix (v3 + 4))) G) fun x732 G731 =>
        chk (inb (v3 + 1) L) <|
        chk (inb (v3 + 2) L) <|
        chk (inb (v3 + 3) L) <|
        chk (inb (v3 + 4) L) <|
        bj2 (f_X8_often (xs (ix (v3 + 1))) (xs (ix (v3 + 2))) (xs (ix (v3 + 3))) (xs (ix (v3 + 4))) G731) fun x739 G738 =>
        if x732 = x739 then (
          f_L_law L xs n (v3 + 7) G738)
        else (
          some 0))
      else if (xs (ix v3)) &&& 63 = 27 then (
        chk (inb (v3 + 1) L) <|
        chk (inb (v3 + 2) L) <|
        chk (inb (v3 + 3) L) <|
        bj2 (f_X7_turns (xs (ix (v3 + 1))) (xs (ix (v3 + 2))) (xs (ix (v3 + 3))) G) fun x745 G744 =>
        chk (inb (v3 + 1) L) <|
        chk (inb (v3 + 2) L) <|
        chk (inb (v3 + 3) L) <|
        bj2 (f_X8_turns (xs (ix (v3 + 1))) (xs (ix (v3 + 2))) (xs (ix (v3 + 3))) G744) fun x751 G750 =>
        if x745 = x751 then (
          f_L_law L xs n (v3 + 7) G750)
        else (
          some 0))
      else if (xs (ix v3)) &&& 63 = 28 then (
        chk (inb (v3 + 1) L) <|
        chk (inb (v3 + 2) L) <|
        chk (inb (v3 + 3) L) <|
        chk (inb (v3 + 4) L) <|
        bj2 (f_X7_most (xs (ix (v3 + 1))) (xs (ix (v3 + 2))) (xs (ix (v3 + 3))) (xs (ix (v3 + 4))) G) fun x758 G757 =>
        chk (inb (v3 + 1) L) <|
        chk (inb (v3 + 2) L) <|
        chk (inb (v3 + 3) L) <|
        chk (inb (v3 + 4) L) <|
        bj2 (f_X8_most (xs (ix (v3 + 1))) (xs (ix (v3 + 2))) (xs (ix (v3 + 3))) (xs (ix (v3 + 4))) G757) fun x765 G764 =>
        if x758 = x765 then (
          f_L_law L xs n (v3 + 7) G764)
        else (
          some 0))
      else if (xs (ix v3)) &&& 63 = 29 then (
        chk (inb (v3 + 1) L) <|
        chk (inb (v3 + 2) L) <|
        chk (inb (v3 + 3) L) <|
        chk (inb (v3 + 4) L) <|
        bj2 (f_X7_off (xs (ix (v3 + 1))) (xs (ix (v3 + 2))) (xs (ix (v3 + 3))) (xs (ix (v3 + 4))) G) fun x772 G771 =>
        chk (inb (v3 + 1) L) <|
        chk (inb (v3 + 2) L) <|
        chk (inb (v3 + 3) L) <|
        chk (inb (v3 + 4) L) <|
        bj2 (f_X8_off (xs (ix (v3 + 1))) (xs (ix (v3 + 2))) (xs (ix (v3 + 3))) (xs (ix (v3 + 4))) G771) fun x779 G778 =>
        if x772 = x779 then (
          f_L_law L xs n (v3 + 7) G778)
        else (
          some 0))
      else if (xs (ix v3)) &&& 63 = 30 then (
        chk (inb (v3 + 1) L) <|
        chk (inb (v3 + 2) L) <|
        bj2 (f_X7_rest (xs (ix (v3 + 1))) (xs (ix (v3 + 2))) G) fun x784 G783 =>
        chk (inb (v3 + 1) L) <|
        chk (inb (v3 + 2) L) <|
        bj2 (f_X8_rest (xs (ix (v3 + 1))) (xs (ix (v3 + 2))) G783) fun x789 G788 =>
        if x784 = x789 then (
          f_L_law L xs n (v3 + 7) G788)
        else (
          some 0))
      else if (xs (ix v3)) &&& 63 = 31 then (
        chk (inb (v3 + 1) L) <|
        chk (inb (v3 + 2) L) <|
        bj2 (f_X7_salt (xs (ix (v3 + 1))) (xs (ix (v3 + 2))) G) fun x794 G793 =>
        chk (inb (v3 + 1) L) <|
        chk (inb (v3 + 2) L) <|
        bj2 (f_X8_salt (xs (ix (v3 + 1))) (xs (ix (v3 + 2))) G793) fun x799 G798 =>
        if x794 = x799 then (
          f_L_law L xs n (v3 + 7) G798)
        else (
          some 0))
      else if (xs (ix v3)) &&& 63 = 32 then (
        chk (inb (v3 + 1) L) <|
        chk (inb (v3 + 2) L) <|
        chk (inb (v3 + 3) L) <|
        chk (inb (v3 + 4) L) <|
        bj2 (f_X7_thick (xs (ix (v3 + 1))) (xs (ix (v3 + 2))) (xs (ix (v3 + 3))) (xs (ix (v3 + 4))) G) fun x806 G805 =>
        chk (inb (v3 + 1) L) <|
        chk (inb (v3 + 2) L) <|
        chk (inb (v3 + 3) L) <|
        chk (inb (v3 + 4) L) <|
        bj2 (f_X8_thick (xs (ix (v3 + 1))) (xs (ix (v3 + 2))) (xs (ix (v3 + 3))) (xs (ix (v3 + 4))) G805) fun x813 G812 =>
        if x806 = x813 then (
          f_L_law L xs n (v3 + 7) G812)
        else (
          some 0))
      else if (xs (ix v3)) &&& 63 = 33 then (
        chk (inb (v3 + 1) L) <|
        chk (inb (v3 + 2) L) <|
        chk (inb (v3 + 3) L) <|
        chk (inb (v3 + 4) L) <|
        chk (inb (v3 + 5) L) <|
        chk (inb (v3 + 6) L) <|
        bj2 (f_X7_same (xs (ix (v3 + 1))) (xs (ix (v3 + 2))) (xs (ix (v3 + 3))) (xs (ix (v3 + 4))) (xs (ix (v3 + 5))) (xs (ix (v3 + 6))) G) fun x822 G821 =>
        chk (inb (v3 + 1) L) <|
        chk (inb (v3 + 2) L) <|
        chk (inb (v3 + 3) L) <|
        chk (inb (v3 + 4) L) <|
        chk (inb (v3 + 5) L) <|
        chk (inb (v3 + 6) L) <|
        bj2 (f_X8_same (xs (ix (v3 + 1))) (xs (ix (v3 + 2))) (xs (ix (v3 + 3))) (xs (ix (v3 + 4))) (xs (ix (v3 + 5))) (xs (ix (v3 + 6))) G821) fun x831 G830 =>
        if x822 = x831 then (
          f_L_law L xs n (v3 + 7) G830)
        else (
          some 0))
      else if (xs (ix v3)) &&& 63 = 34 then (
        chk (inb (v3 + 1) L) <|
        chk (inb (v3 + 2) L) <|
        bj2 (f_X7_order (xs (ix (v3 + 1))) (xs (ix (v3 + 2))) G) fun x836 G835 =>
        chk (inb (v3 + 1) L) <|
        chk (inb (v3 + 2) L) <|
        bj2 (f_X8_order (xs (ix (v3 + 1))) (xs (ix (v3 + 2))) G835) fun x841 G840 =>
        if x836 = x841 then (
          f_L_law L xs n (v3 + 7) G840)
        else (
          some 0))
      else if (xs (ix v3)) &&& 63 = 35 then (
        chk (inb (v3 + 1) L) <|
        chk (inb (v3 + 2) L) <|
        chk (inb (v3 + 3) L) <|
        chk (inb (v3 + 4) L) <|
        chk (inb (v3 + 5) L) <|
        bj2 (f_X7_both (xs (ix (v3 + 1))) (xs (ix (v3 + 2))) (xs (ix (v3 + 3))) (xs (ix (v3 + 4))) (xs (ix (v3 + 5))) G) fun x849 G848 =>
        chk (inb (v3 + 1) L) <|
        chk (inb (v3 + 2) L) <|
        chk (inb (v3 + 3) L) <|
        chk (inb (v3 + 4) L) <|
        chk (inb (v3 + 5) L) <|
        bj2 (f_X8_both (xs (ix (v3 + 1))) (xs (ix (v3 + 2))) (xs (ix (v3 + 3))) (xs (ix (v3 + 4))) (xs (ix (v3 + 5))) G848) fun x857 G856 =>
        if x849 = x857 then (
          f_L_law L xs n (v3 + 7) G856)
        else (
          some 0))
      else if (xs (ix v3)) &&& 63 = 36 then (
        chk (inb (v3 + 1) L) <|
        chk (inb (v3 + 2) L) <|
        bj2 (f_X7_safe (xs (ix (v3 + 1))) (xs (ix (v3 + 2))) G) fun x862 G861 =>
        chk (inb (v3 + 1) L) <|
        chk (inb (v3 + 2) L) <|
        bj2 (f_X8_safe (xs (ix (v3 + 1))) (xs (ix (v3 + 2))) G861) fun x867 G866 =>
        if x862 = x867 then (
          f_L_law L xs n (v3 + 7) G866)
        else (
          some 0))
      else if (xs (ix v3)) &&& 63 = 37 then (
        chk (inb (v3 + 1) L) <|
        bj2 (f_X7_which (xs (ix (v3 + 1))) G) fun x871 G870 =>
        chk (inb (v3 + 1) L) <|
        bj2 (f_X8_which (xs (ix (v3 + 1))) G870) fun x875 G874 =>
        if x871 = x875 then (
          f_L_law L xs n (v3 + 7) G874)
        else (
          some 0))
      else if (xs (ix v3)) &&& 63 = 38 then (
        chk (inb (v3 + 1) L) <|
        chk (inb (v3 + 2) L) <|
        bj2 (f_X7_odds (xs (ix (v3 + 1))) (xs (ix (v3 + 2))) G) fun x880 G879 =>
        chk (inb (v3 + 1) L) <|
        chk (inb (v3 + 2) L) <|
        bj2 (f_X8_odds (xs (ix (v3 + 1))) (xs (ix (v3 + 2))) G879) fun x885 G884 =>
        if x880 = x885 then (
          f_L_law L xs n (v3 + 7) G884)
        else (
          some 0))
      else if (xs (ix v3)) &&& 63 = 39 then (
        chk (inb (v3 + 1) L) <|
        chk (inb (v3 + 2) L) <|
        chk (inb (v3 + 3) L) <|
        chk (inb (v3 + 4) L) <|
        bj2 (f_X7_rule (xs (ix (v3 + 1))) (xs (ix (v3 + 2))) (xs (ix (v3 + 3))) (xs (ix (v3 + 4))) G) fun x892 G891 =>
        chk (inb (v3 + 1) L) <|
        chk (inb (v3 + 2) L) <|
        chk (inb (v3 + 3) L) <|
        chk (inb (v3 + 4) L) <|
        bj2 (f_X8_rule (xs (ix (v3 + 1))) (xs (ix (v3 + 2))) (xs (ix (v3 + 3))) (xs (ix (v3 + 4))) G891) fun x899 G898 =>
        if x892 = x899 then (
          f_L_law L xs n (v3 + 7) G898)
        else (
          some 0))
      else if (xs (ix v3)) &&& 63 = 40 then (
        bj1 (f_X7_asked G) fun x901 =>
        bj1 (f_X8_asked G) fun x903 =>
        if x901 = x903 then (
          f_L_law L xs n (v3 + 7) G)
        else (
          some 0))
      else if (xs (ix v3)) &&& 63 = 41 then (
        bj1 (f_X7_upper G) fun w905 =>
        bj1 (f_X8_upper G) fun w907 =>
        if lg_cmp w905 w907 = 0 then (
          f_L_law L xs n (v3 + 7) G)
        else (
          some 0))
      else if (xs (ix v3)) &&& 63 = 42 then (
        bj1 (f_X7_lower G) fun w909 =>
        bj1 (f_X8_lower G) fun w911 =>
        if lg_cmp w909 w911 = 0 then (
          f_L_law L xs n (v3 + 7) G)
        else (
          some 0))
      else if (xs (ix v3)) &&& 63 = 43 then (
        chk (inb (v3 + 1) L) <|
        bj1 (f_X7_count (xs (ix (v3 + 1))) G) fun x914 =>
        chk (inb (v3 + 1) L) <|
        bj2 (f_X8_count (xs (ix (v3 + 1))) G) fun x918 G917 =>
        if x914 = x918 then (
          f_L_law L xs n (v3 + 7) G917)
        else (
          some 0))
      else if (xs (ix v3)) &&& 63 = 44 then (
        bj1 (f_X7_finding G) fun x920 =>
        bj1 (f_X8_finding G) fun x922 =>
        if x920 = x922 then (
          f_L_law L xs n (v3 + 7) G)
        else (
          some 0))
      else if (xs (ix v3)) &&& 63 = 45 then (
        chk (inb (v3 + 1) L) <|
        bj1 (f_X7_findings (xs (ix (v3 + 1))) G) fun x925 =>
        chk (inb (v3 + 1) L) <|
        bj1 (f_X8_findings (xs (ix (v3 + 1))) G) fun x928 =>
        if x925 = x928 then (
          f_L_law L xs n (v3 + 7) G)
        else (
          some 0))
      else if (xs (ix v3)) &&& 63 = 46 then (
        bj1 (f_X7_digest G) fun w930 =>
        bj2 (f_X8_digest G) fun w933 G932 =>
        if lg_cmp w930 w933 = 0 then (
          f_L_law L xs n (v3 + 7) G932)
        else (
          some 0))
      else (
        f_L_law L xs n (v3 + 7) G))
set_option maxHeartbeats 40000000 in
set_option maxRecDepth 100000 in
theorem c_L_law {K : CT} {Ts : List Cond} {b L : Nat} {xs : Nat → Int32} (hc : Ok K cL_law RL Ts ret 11 428 4) (hs : Scr K b L xs) (hend : ∀ (L' : List (Nat × Value)) (G : G_), X K 1835 L' [.int 1] G) : ∀ (n : Nat) (v3 : Int32) (G : G_), f_L_law L xs n v3 G = some 1 → X K 18 [(0, .ref b), (1, .ref (kad K 0)), (2, .ref (kad K 124)), (3, .int v3)] [] G := by
  intro n
  induction n with
  | zero =>
    intro v3 G hf
    cases hf
  | succ n ih =>
    intro v3 G hf
    unfold f_L_law at hf
    refine x_iload_n hc 3 dL_law_18 rfl rfl ?_
    refine x_aload_n hc 0 dL_law_19 rfl rfl ?_
    refine x_slen hc hs dL_law_20 ?_
    refine x_bipush (v := 7) hc rfl dL_law_21 ?_
    refine x_isub hc dL_law_23 ?_
    refine x_icmp_gt (tgt := 1834) hc dL_law_24 rfl (fun c_24 => ?_) (fun c_24 => ?_)
    · replace hf := if_p hf c_24
      refine x_iconst (v := 1) hc rfl dL_law_1834 ?_
      exact hend _ _
    · replace hf := if_n hf c_24
      refine x_aload_n hc 0 dL_law_27 rfl rfl ?_
      refine x_iload_n hc 3 dL_law_28 rfl rfl ?_
      obtain ⟨h1, hf⟩ := chk_ok hf
      refine x_sld hc hs h1 dL_law_29 ?_
      refine x_bipush (v := 63) hc rfl dL_law_30 ?_
      refine x_iand hc dL_law_32 ?_
      by_cases s_33_0 : (xs (ix v3)) &&& 63 = 0
      · replace hf := if_p hf s_33_0
        refine x_tsIn (tgt := 236) hc dL_law_33 0 s_33_0 (by decide) (by decide) rfl rfl ?_
        refine x_aload_n hc 1 dL_law_236 rfl rfl ?_
        refine x_aload_n hc 0 dL_law_237 rfl rfl ?_
        refine x_iload_n hc 3 dL_law_238 rfl rfl ?_
        refine x_iconst (v := 1) hc rfl dL_law_239 ?_
        refine x_iadd hc dL_law_240 ?_
        obtain ⟨h469, hf⟩ := chk_ok hf
        refine x_sld hc hs h469 dL_law_241 ?_
        refine x_aload_n hc 0 dL_law_242 rfl rfl ?_
        refine x_iload_n hc 3 dL_law_243 rfl rfl ?_
        refine x_iconst (v := 2) hc rfl dL_law_244 ?_
        refine x_iadd hc dL_law_245 ?_
        obtain ⟨h470, hf⟩ := chk_ok hf
        refine x_sld hc hs h470 dL_law_246 ?_
        obtain ⟨x472, G471, r473, hf⟩ := bj2_ok hf
        refine x_callVr (As := [.int (xs (ix (v3 + 1))), .int (xs (ix (v3 + 2)))]) (p0 := 0) (v := (.int x472)) (T := TX7) hc (c_X7_row (kl K) (kV K) (xs (ix (v3 + 1))) (xs (ix (v3 + 2))) G x472 G471 r473) mw_X7_row tw_357 (rfl : kd 0 = 7) (by decide) rfl rfl (Nat.le_of_ble_eq_true rfl) ⟨Nat.le_of_ble_eq_true rfl, Nat.le_of_ble_eq_true rfl⟩ dL_law_247 rfl ?_
        refine x_aload_n hc 2 dL_law_250 rfl rfl ?_
        refine x_aload_n hc 0 dL_law_251 rfl rfl ?_
        refine x_iload_n hc 3 dL_law_252 rfl rfl ?_
        refine x_iconst (v := 1) hc rfl dL_law_253 ?_
        refine x_iadd hc dL_law_254 ?_
        obtain ⟨h474, hf⟩ := chk_ok hf
        refine x_sld hc hs h474 dL_law_255 ?_
        refine x_aload_n hc 0 dL_law_256 rfl rfl ?_
        refine x_iload_n hc 3 dL_law_257 rfl rfl ?_
        refine x_iconst (v := 2) hc rfl dL_law_258 ?_
        refine x_iadd hc dL_law_259 ?_
        obtain ⟨h475, hf⟩ := chk_ok hf
        refine x_sld hc hs h475 dL_law_260 ?_
        obtain ⟨x477, G476, r478, hf⟩ := bj2_ok hf
        refine x_callVr (As := [.int (xs (ix (v3 + 1))), .int (xs (ix (v3 + 2)))]) (p0 := 124) (v := (.int x477)) (T := TX8) hc (c_X8_row (kl K) (kV K) (xs (ix (v3 + 1))) (xs (ix (v3 + 2))) G471 x477 G476 r478) mw_X8_row tw_1135 (rfl : kd 124 = 8) (by decide) rfl rfl (Nat.le_of_ble_eq_true rfl) ⟨Nat.le_of_ble_eq_true rfl, Nat.le_of_ble_eq_true rfl⟩ dL_law_261 rfl ?_
        refine x_icmp_eq (tgt := 1828) hc dL_law_264 rfl (fun c_264 => ?_) (fun c_264 => ?_)
        · replace hf := if_p hf c_264
          refine x_iinc (v := v3 + 7) (L' := [(0, .ref b), (1, .ref (kad K 0)), (2, .ref (kad K 124)), (3, .int (v3 + 7))]) hc 3 [1, 2, 3, 0] dL_law_1828 rfl rfl (by decide) rfl ?_
          refine x_goto (tgt := 18) hc dL_law_1831 rfl ?_
          exact x_sub [0, 1, 2, 3] (ih _ _ hf) rfl
        · replace hf := if_n hf c_264
          refine x_iconst (v := 0) hc rfl dL_law_267 ?_
          exact absurd hf (by decide)
      replace hf := if_n hf s_33_0
      by_cases s_33_1 : (xs (ix v3)) &&& 63 = 1
      · replace hf := if_p hf s_33_1
        refine x_tsIn (tgt := 269) hc dL_law_33 1 s_33_1 (by decide) (by decide) rfl rfl ?_
        refine x_aload_n hc 1 dL_law_269 rfl rfl ?_
        refine x_aload_n hc 0 dL_law_270 rfl rfl ?_
        refine x_iload_n hc 3 dL_law_271 rfl rfl ?_
        refine x_iconst (v := 1) hc rfl dL_law_272 ?_
        refine x_iadd hc dL_law_273 ?_
        obtain ⟨h479, hf⟩ := chk_ok hf
        refine x_sld hc hs h479 dL_law_274 ?_
        refine x_aload_n hc 0 dL_law_275 rfl rfl ?_
        refine x_iload_n hc 3 dL_law_276 rfl rfl ?_
        refine x_iconst (v := 2) hc rfl dL_law_277 ?_
        refine x_iadd hc dL_law_278 ?_
        obtain ⟨h480, hf⟩ := chk_ok hf
        refine x_sld hc hs h480 dL_law_279 ?_
        refine x_aload_n hc 0 dL_law_280 rfl rfl ?_
        refine x_iload_n hc 3 dL_law_281 rfl rfl ?_
        refine x_iconst (v := 3) hc rfl dL_law_282 ?_
        refine x_iadd hc dL_law_283 ?_
        obtain ⟨h481, hf⟩ := chk_ok hf
        refine x_sld hc hs h481 dL_law_284 ?_
        obtain ⟨x483, G482, r484, hf⟩ := bj2_ok hf
        refine x_callVr (As := [.int (xs (ix (v3 + 1))), .int (xs (ix (v3 + 2))), .int (xs (ix (v3 + 3)))]) (p0 := 0) (v := (.int x483)) (T := TX7) hc (c_X7_lay (kl K) (kV K) (xs (ix (v3 + 1))) (xs (ix (v3 + 2))) (xs (ix (v3 + 3))) G x483 G482 r484) mw_X7_lay tw_379 (rfl : kd 0 = 7) (by decide) rfl rfl (Nat.le_of_ble_eq_true rfl) ⟨Nat.le_of_ble_eq_true rfl, Nat.le_of_ble_eq_true rfl⟩ dL_law_285 rfl ?_
        refine x_aload_n hc 2 dL_law_288 rfl rfl ?_
        refine x_aload_n hc 0 dL_law_289 rfl rfl ?_
        refine x_iload_n hc 3 dL_law_290 rfl rfl ?_
        refine x_iconst (v := 1) hc rfl dL_law_291 ?_
        refine x_iadd hc dL_law_292 ?_
        obtain ⟨h485, hf⟩ := chk_ok hf
        refine x_sld hc hs h485 dL_law_293 ?_
        refine x_aload_n hc 0 dL_law_294 rfl rfl ?_
        refine x_iload_n hc 3 dL_law_295 rfl rfl ?_
        refine x_iconst (v := 2) hc rfl dL_law_296 ?_
        refine x_iadd hc dL_law_297 ?_
        obtain ⟨h486, hf⟩ := chk_ok hf
        refine x_sld hc hs h486 dL_law_298 ?_
        refine x_aload_n hc 0 dL_law_299 rfl rfl ?_
        refine x_iload_n hc 3 dL_law_300 rfl rfl ?_
        refine x_iconst (v := 3) hc rfl dL_law_301 ?_
        refine x_iadd hc dL_law_302 ?_
        obtain ⟨h487, hf⟩ := chk_ok hf
        refine x_sld hc hs h487 dL_law_303 ?_
        obtain ⟨x489, G488, r490, hf⟩ := bj2_ok hf
        refine x_callVr (As := [.int (xs (ix (v3 + 1))), .int (xs (ix (v3 + 2))), .int (xs (ix (v3 + 3)))]) (p0 := 124) (v := (.int x489)) (T := TX8) hc (c_X8_lay (kl K) (kV K) (xs (ix (v3 + 1))) (xs (ix (v3 + 2))) (xs (ix (v3 + 3))) G482 x489 G488 r490) mw_X8_lay tw_1146 (rfl : kd 124 = 8) (by decide) rfl rfl (Nat.le_of_ble_eq_true rfl) ⟨Nat.le_of_ble_eq_true rfl, Nat.le_of_ble_eq_true rfl⟩ dL_law_304 rfl ?_
        refine x_icmp_eq (tgt := 1828) hc dL_law_307 rfl (fun c_307 => ?_) (fun c_307 => ?_)
        · replace hf := if_p hf c_307
          refine x_iinc (v := v3 + 7) (L' := [(0, .ref b), (1, .ref (kad K 0)), (2, .ref (kad K 124)), (3, .int (v3 + 7))]) hc 3 [1, 2, 3, 0] dL_law_1828 rfl rfl (by decide) rfl ?_
          refine x_goto (tgt := 18) hc dL_law_1831 rfl ?_
          exact x_sub [0, 1, 2, 3] (ih _ _ hf) rfl
        · replace hf := if_n hf c_307
          refine x_iconst (v := 0) hc rfl dL_law_310 ?_
          exact absurd hf (by decide)
      replace hf := if_n hf s_33_1
      by_cases s_33_2 : (xs (ix v3)) &&& 63 = 2
      · replace hf := if_p hf s_33_2
        refine x_tsIn (tgt := 312) hc dL_law_33 2 s_33_2 (by decide) (by decide) rfl rfl ?_
        refine x_aload_n hc 1 dL_law_312 rfl rfl ?_
        refine x_aload_n hc 0 dL_law_313 rfl rfl ?_
        refine x_iload_n hc 3 dL_law_314 rfl rfl ?_
        refine x_iconst (v := 1) hc rfl dL_law_315 ?_
        refine x_iadd hc dL_law_316 ?_
        obtain ⟨h491, hf⟩ := chk_ok hf
        refine x_sld hc hs h491 dL_law_317 ?_
        refine x_aload_n hc 0 dL_law_318 rfl rfl ?_
        refine x_iload_n hc 3 dL_law_319 rfl rfl ?_
        refine x_iconst (v := 2) hc rfl dL_law_320 ?_
        refine x_iadd hc dL_law_321 ?_
        obtain ⟨h492, hf⟩ := chk_ok hf
        refine x_sld hc hs h492 dL_law_322 ?_
        obtain ⟨x494, G493, r495, hf⟩ := bj2_ok hf
        refine x_callVr (As := [.int (xs (ix (v3 + 1))), .int (xs (ix (v3 + 2)))]) (p0 := 0) (v := (.int x494)) (T := TX7) hc (c_X7_at (kl K) (kV K) (xs (ix (v3 + 1))) (xs (ix (v3 + 2))) G x494 G493 r495) mw_X7_at tw_404 (rfl : kd 0 = 7) (by decide) rfl rfl (Nat.le_of_ble_eq_true rfl) ⟨Nat.le_of_ble_eq_true rfl, Nat.le_of_ble_eq_true rfl⟩ dL_law_323 rfl ?_
        refine x_aload_n hc 2 dL_law_326 rfl rfl ?_
        refine x_aload_n hc 0 dL_law_327 rfl rfl ?_
        refine x_iload_n hc 3 dL_law_328 rfl rfl ?_
        refine x_iconst (v := 1) hc rfl dL_law_329 ?_
        refine x_iadd hc dL_law_330 ?_
        obtain ⟨h496, hf⟩ := chk_ok hf
        refine x_sld hc hs h496 dL_law_331 ?_
        refine x_aload_n hc 0 dL_law_332 rfl rfl ?_
        refine x_iload_n hc 3 dL_law_333 rfl rfl ?_
        refine x_iconst (v := 2) hc rfl dL_law_334 ?_
        refine x_iadd hc dL_law_335 ?_
        obtain ⟨h497, hf⟩ := chk_ok hf
        refine x_sld hc hs h497 dL_law_336 ?_
        obtain ⟨x499, G498, r500, hf⟩ := bj2_ok hf
        refine x_callVr (As := [.int (xs (ix (v3 + 1))), .int (xs (ix (v3 + 2)))]) (p0 := 124) (v := (.int x499)) (T := TX8) hc (c_X8_at (kl K) (kV K) (xs (ix (v3 + 1))) (xs (ix (v3 + 2))) G493 x499 G498 r500) mw_X8_at tw_1158 (rfl : kd 124 = 8) (by decide) rfl rfl (Nat.le_of_ble_eq_true rfl) ⟨Nat.le_of_ble_eq_true rfl, Nat.le_of_ble_eq_true rfl⟩ dL_law_337 rfl ?_
        refine x_icmp_eq (tgt := 1828) hc dL_law_340 rfl (fun c_340 => ?_) (fun c_340 => ?_)
        · replace hf := if_p hf c_340
          refine x_iinc (v := v3 + 7) (L' := [(0, .ref b), (1, .ref (kad K 0)), (2, .ref (kad K 124)), (3, .int (v3 + 7))]) hc 3 [1, 2, 3, 0] dL_law_1828 rfl rfl (by decide) rfl ?_
          refine x_goto (tgt := 18) hc dL_law_1831 rfl ?_
          exact x_sub [0, 1, 2, 3] (ih _ _ hf) rfl
        · replace hf := if_n hf c_340
          refine x_iconst (v := 0) hc rfl dL_law_343 ?_
          exact absurd hf (by decide)
      replace hf := if_n hf s_33_2
      by_cases s_33_3 : (xs (ix v3)) &&& 63 = 3
      · replace hf := if_p hf s_33_3
        refine x_tsIn (tgt := 345) hc dL_law_33 3 s_33_3 (by decide) (by decide) rfl rfl ?_
        refine x_aload_n hc 1 dL_law_345 rfl rfl ?_
        refine x_aload_n hc 0 dL_law_346 rfl rfl ?_
        refine x_iload_n hc 3 dL_law_347 rfl rfl ?_
        refine x_iconst (v := 1) hc rfl dL_law_348 ?_
        refine x_iadd hc dL_law_349 ?_
        obtain ⟨h501, hf⟩ := chk_ok hf
        refine x_sld hc hs h501 dL_law_350 ?_
        obtain ⟨x503, G502, r504, hf⟩ := bj2_ok hf
        refine x_callVr (As := [.int (xs (ix (v3 + 1)))]) (p0 := 0) (v := (.int x503)) (T := TX7) hc (c_X7_tear (kl K) (kV K) (xs (ix (v3 + 1))) G x503 G502 r504) mw_X7_tear tw_408 (rfl : kd 0 = 7) (by decide) rfl rfl (Nat.le_of_ble_eq_true rfl) ⟨Nat.le_of_ble_eq_true rfl, Nat.le_of_ble_eq_true rfl⟩ dL_law_351 rfl ?_
        refine x_aload_n hc 2 dL_law_354 rfl rfl ?_
        refine x_aload_n hc 0 dL_law_355 rfl rfl ?_
        refine x_iload_n hc 3 dL_law_356 rfl rfl ?_
        refine x_iconst (v := 1) hc rfl dL_law_357 ?_
        refine x_iadd hc dL_law_358 ?_
        obtain ⟨h505, hf⟩ := chk_ok hf
        refine x_sld hc hs h505 dL_law_359 ?_
        obtain ⟨x507, G506, r508, hf⟩ := bj2_ok hf
        refine x_callVr (As := [.int (xs (ix (v3 + 1)))]) (p0 := 124) (v := (.int x507)) (T := TX8) hc (c_X8_tear (kl K) (kV K) (xs (ix (v3 + 1))) G502 x507 G506 r508) mw_X8_tear tw_1162 (rfl : kd 124 = 8) (by decide) rfl rfl (Nat.le_of_ble_eq_true rfl) ⟨Nat.le_of_ble_eq_true rfl, Nat.le_of_ble_eq_true rfl⟩ dL_law_360 rfl ?_
        refine x_icmp_eq (tgt := 1828) hc dL_law_363 rfl (fun c_363 => ?_) (fun c_363 => ?_)
        · replace hf := if_p hf c_363
          refine x_iinc (v := v3 + 7) (L' := [(0, .ref b), (1, .ref (kad K 0)), (2, .ref (kad K 124)), (3, .int (v3 + 7))]) hc 3 [1, 2, 3, 0] dL_law_1828 rfl rfl (by decide) rfl ?_
          refine x_goto (tgt := 18) hc dL_law_1831 rfl ?_
          exact x_sub [0, 1, 2, 3] (ih _ _ hf) rfl
        · replace hf := if_n hf c_363
          refine x_iconst (v := 0) hc rfl dL_law_366 ?_
          exact absurd hf (by decide)
      replace hf := if_n hf s_33_3
      by_cases s_33_4 : (xs (ix v3)) &&& 63 = 4
      · replace hf := if_p hf s_33_4
        refine x_tsIn (tgt := 368) hc dL_law_33 4 s_33_4 (by decide) (by decide) rfl rfl ?_
        refine x_aload_n hc 1 dL_law_368 rfl rfl ?_
        refine x_aload_n hc 0 dL_law_369 rfl rfl ?_
        refine x_iload_n hc 3 dL_law_370 rfl rfl ?_
        refine x_iconst (v := 1) hc rfl dL_law_371 ?_
        refine x_iadd hc dL_law_372 ?_
        obtain ⟨h509, hf⟩ := chk_ok hf
        refine x_sld hc hs h509 dL_law_373 ?_
        refine x_aload_n hc 0 dL_law_374 rfl rfl ?_
        refine x_iload_n hc 3 dL_law_375 rfl rfl ?_
        refine x_iconst (v := 2) hc rfl dL_law_376 ?_
        refine x_iadd hc dL_law_377 ?_
        obtain ⟨h510, hf⟩ := chk_ok hf
        refine x_sld hc hs h510 dL_law_378 ?_
        refine x_aload_n hc 0 dL_law_379 rfl rfl ?_
        refine x_iload_n hc 3 dL_law_380 rfl rfl ?_
        refine x_iconst (v := 3) hc rfl dL_law_381 ?_
        refine x_iadd hc dL_law_382 ?_
        obtain ⟨h511, hf⟩ := chk_ok hf
        refine x_sld hc hs h511 dL_law_383 ?_
        refine x_aload_n hc 0 dL_law_384 rfl rfl ?_
        refine x_iload_n hc 3 dL_law_385 rfl rfl ?_
        refine x_iconst (v := 4) hc rfl dL_law_386 ?_
        refine x_iadd hc dL_law_387 ?_
        obtain ⟨h512, hf⟩ := chk_ok hf
        refine x_sld hc hs h512 dL_law_388 ?_
        refine x_aload_n hc 0 dL_law_389 rfl rfl ?_
        refine x_iload_n hc 3 dL_law_390 rfl rfl ?_
        refine x_iconst (v := 5) hc rfl dL_law_391 ?_
        refine x_iadd hc dL_law_392 ?_
        obtain ⟨h513, hf⟩ := chk_ok hf
        refine x_sld hc hs h513 dL_law_393 ?_
        obtain ⟨x515, G514, r516, hf⟩ := bj2_ok hf
        refine x_callVr (As := [.int (xs (ix (v3 + 1))), .int (xs (ix (v3 + 2))), .int (xs (ix (v3 + 3))), .int (xs (ix (v3 + 4))), .int (xs (ix (v3 + 5)))]) (p0 := 0) (v := (.int x515)) (T := TX7) hc (c_X7_copy (kl K) (kV K) (xs (ix (v3 + 1))) (xs (ix (v3 + 2))) (xs (ix (v3 + 3))) (xs (ix (v3 + 4))) (xs (ix (v3 + 5))) G x515 G514 r516) mw_X7_copy tw_412 (rfl : kd 0 = 7) (by decide) rfl rfl (Nat.le_of_ble_eq_true rfl) ⟨Nat.le_of_ble_eq_true rfl, Nat.le_of_ble_eq_true rfl⟩ dL_law_394 rfl ?_
        refine x_aload_n hc 2 dL_law_397 rfl rfl ?_
        refine x_aload_n hc 0 dL_law_398 rfl rfl ?_
        refine x_iload_n hc 3 dL_law_399 rfl rfl ?_
        refine x_iconst (v := 1) hc rfl dL_law_400 ?_
        refine x_iadd hc dL_law_401 ?_
        obtain ⟨h517, hf⟩ := chk_ok hf
        refine x_sld hc hs h517 dL_law_402 ?_
        refine x_aload_n hc 0 dL_law_403 rfl rfl ?_
        refine x_iload_n hc 3 dL_law_404 rfl rfl ?_
        refine x_iconst (v := 2) hc rfl dL_law_405 ?_
        refine x_iadd hc dL_law_406 ?_
        obtain ⟨h518, hf⟩ := chk_ok hf
        refine x_sld hc hs h518 dL_law_407 ?_
        refine x_aload_n hc 0 dL_law_408 rfl rfl ?_
        refine x_iload_n hc 3 dL_law_409 rfl rfl ?_
        refine x_iconst (v := 3) hc rfl dL_law_410 ?_
        refine x_iadd hc dL_law_411 ?_
        obtain ⟨h519, hf⟩ := chk_ok hf
        refine x_sld hc hs h519 dL_law_412 ?_
        refine x_aload_n hc 0 dL_law_413 rfl rfl ?_
        refine x_iload_n hc 3 dL_law_414 rfl rfl ?_
        refine x_iconst (v := 4) hc rfl dL_law_415 ?_
        refine x_iadd hc dL_law_416 ?_
        obtain ⟨h520, hf⟩ := chk_ok hf
        refine x_sld hc hs h520 dL_law_417 ?_
        refine x_aload_n hc 0 dL_law_418 rfl rfl ?_
        refine x_iload_n hc 3 dL_law_419 rfl rfl ?_
        refine x_iconst (v := 5) hc rfl dL_law_420 ?_
        refine x_iadd hc dL_law_421 ?_
        obtain ⟨h521, hf⟩ := chk_ok hf
        refine x_sld hc hs h521 dL_law_422 ?_
        obtain ⟨x523, G522, r524, hf⟩ := bj2_ok hf
        refine x_callVr (As := [.int (xs (ix (v3 + 1))), .int (xs (ix (v3 + 2))), .int (xs (ix (v3 + 3))), .int (xs (ix (v3 + 4))), .int (xs (ix (v3 + 5)))]) (p0 := 124) (v := (.int x523)) (T := TX8) hc (c_X8_copy (kl K) (kV K) (xs (ix (v3 + 1))) (xs (ix (v3 + 2))) (xs (ix (v3 + 3))) (xs (ix (v3 + 4))) (xs (ix (v3 + 5))) G514 x523 G522 r524) mw_X8_copy tw_1166 (rfl : kd 124 = 8) (by decide) rfl rfl (Nat.le_of_ble_eq_true rfl) ⟨Nat.le_of_ble_eq_true rfl, Nat.le_of_ble_eq_true rfl⟩ dL_law_423 rfl ?_
        refine x_icmp_eq (tgt := 1828) hc dL_law_426 rfl (fun c_426 => ?_) (fun c_426 => ?_)
        · replace hf := if_p hf c_426
          refine x_iinc (v := v3 + 7) (L' := [(0, .ref b), (1, .ref (kad K 0)), (2, .ref (kad K 124)), (3, .int (v3 + 7))]) hc 3 [1, 2, 3, 0] dL_law_1828 rfl rfl (by decide) rfl ?_
          refine x_goto (tgt := 18) hc dL_law_1831 rfl ?_
          exact x_sub [0, 1, 2, 3] (ih _ _ hf) rfl
        · replace hf := if_n hf c_426
          refine x_iconst (v := 0) hc rfl dL_law_429 ?_
          exact absurd hf (by decide)
      replace hf := if_n hf s_33_4
      by_cases s_33_5 : (xs (ix v3)) &&& 63 = 5
      · replace hf := if_p hf s_33_5
        refine x_tsIn (tgt := 431) hc dL_law_33 5 s_33_5 (by decide) (by decide) rfl rfl ?_
        refine x_aload_n hc 1 dL_law_431 rfl rfl ?_
        refine x_aload_n hc 0 dL_law_432 rfl rfl ?_
        refine x_iload_n hc 3 dL_law_433 rfl rfl ?_
        refine x_iconst (v := 1) hc rfl dL_law_434 ?_
        refine x_iadd hc dL_law_435 ?_
        obtain ⟨h525, hf⟩ := chk_ok hf
        refine x_sld hc hs h525 dL_law_436 ?_
        obtain ⟨x527, G526, r528, hf⟩ := bj2_ok hf
        refine x_callVr (As := [.int (xs (ix (v3 + 1)))]) (p0 := 0) (v := (.int x527)) (T := TX7) hc (c_X7_mean (kl K) (kV K) (xs (ix (v3 + 1))) G x527 G526 r528) mw_X7_mean tw_423 (rfl : kd 0 = 7) (by decide) rfl rfl (Nat.le_of_ble_eq_true rfl) ⟨Nat.le_of_ble_eq_true rfl, Nat.le_of_ble_eq_true rfl⟩ dL_law_437 rfl ?_
        refine x_aload_n hc 2 dL_law_440 rfl rfl ?_
        refine x_aload_n hc 0 dL_law_441 rfl rfl ?_
        refine x_iload_n hc 3 dL_law_442 rfl rfl ?_
        refine x_iconst (v := 1) hc rfl dL_law_443 ?_
        refine x_iadd hc dL_law_444 ?_
        obtain ⟨h529, hf⟩ := chk_ok hf
        refine x_sld hc hs h529 dL_law_445 ?_
        obtain ⟨x531, G530, r532, hf⟩ := bj2_ok hf
        refine x_callVr (As := [.int (xs (ix (v3 + 1)))]) (p0 := 124) (v := (.int x531)) (T := TX8) hc (c_X8_mean (kl K) (kV K) (xs (ix (v3 + 1))) G526 x531 G530 r532) mw_X8_mean tw_1170 (rfl : kd 124 = 8) (by decide) rfl rfl (Nat.le_of_ble_eq_true rfl) ⟨Nat.le_of_ble_eq_true rfl, Nat.le_of_ble_eq_true rfl⟩ dL_law_446 rfl ?_
        refine x_icmp_eq (tgt := 1828) hc dL_law_449 rfl (fun c_449 => ?_) (fun c_449 => ?_)
        · replace hf := if_p hf c_449
          refine x_iinc (v := v3 + 7) (L' := [(0, .ref b), (1, .ref (kad K 0)), (2, .ref (kad K 124)), (3, .int (v3 + 7))]) hc 3 [1, 2, 3, 0] dL_law_1828 rfl rfl (by decide) rfl ?_
          refine x_goto (tgt := 18) hc dL_law_1831 rfl ?_
          exact x_sub [0, 1, 2, 3] (ih _ _ hf) rfl
        · replace hf := if_n hf c_449
          refine x_iconst (v := 0) hc rfl dL_law_452 ?_
          exact absurd hf (by decide)
      replace hf := if_n hf s_33_5
      by_cases s_33_6 : (xs (ix v3)) &&& 63 = 6
      · replace hf := if_p hf s_33_6
        refine x_tsIn (tgt := 454) hc dL_law_33 6 s_33_6 (by decide) (by decide) rfl rfl ?_
        refine x_aload_n hc 1 dL_law_454 rfl rfl ?_
        refine x_aload_n hc 0 dL_law_455 rfl rfl ?_
        refine x_iload_n hc 3 dL_law_456 rfl rfl ?_
        refine x_iconst (v := 1) hc rfl dL_law_457 ?_
        refine x_iadd hc dL_law_458 ?_
        obtain ⟨h533, hf⟩ := chk_ok hf
        refine x_sld hc hs h533 dL_law_459 ?_
        refine x_aload_n hc 0 dL_law_460 rfl rfl ?_
        refine x_iload_n hc 3 dL_law_461 rfl rfl ?_
        refine x_iconst (v := 2) hc rfl dL_law_462 ?_
        refine x_iadd hc dL_law_463 ?_
        obtain ⟨h534, hf⟩ := chk_ok hf
        refine x_sld hc hs h534 dL_law_464 ?_
        obtain ⟨x536, G535, r537, hf⟩ := bj2_ok hf
        refine x_callVr (As := [.int (xs (ix (v3 + 1))), .int (xs (ix (v3 + 2)))]) (p0 := 0) (v := (.int x536)) (T := TX7) hc (c_X7_text (kl K) (kV K) (xs (ix (v3 + 1))) (xs (ix (v3 + 2))) G x536 G535 r537) mw_X7_text tw_432 (rfl : kd 0 = 7) (by decide) rfl rfl (Nat.le_of_ble_eq_true rfl) ⟨Nat.le_of_ble_eq_true rfl, Nat.le_of_ble_eq_true rfl⟩ dL_law_465 rfl ?_
        refine x_aload_n hc 2 dL_law_468 rfl rfl ?_
        refine x_aload_n hc 0 dL_law_469 rfl rfl ?_
        refine x_iload_n hc 3 dL_law_470 rfl rfl ?_
        refine x_iconst (v := 1) hc rfl dL_law_471 ?_
        refine x_iadd hc dL_law_472 ?_
        obtain ⟨h538, hf⟩ := chk_ok hf
        refine x_sld hc hs h538 dL_law_473 ?_
        refine x_aload_n hc 0 dL_law_474 rfl rfl ?_
        refine x_iload_n hc 3 dL_law_475 rfl rfl ?_
        refine x_iconst (v := 2) hc rfl dL_law_476 ?_
        refine x_iadd hc dL_law_477 ?_
        obtain ⟨h539, hf⟩ := chk_ok hf
        refine x_sld hc hs h539 dL_law_478 ?_
        obtain ⟨x541, G540, r542, hf⟩ := bj2_ok hf
        refine x_callVr (As := [.int (xs (ix (v3 + 1))), .int (xs (ix (v3 + 2)))]) (p0 := 124) (v := (.int x541)) (T := TX8) hc (c_X8_text (kl K) (kV K) (xs (ix (v3 + 1))) (xs (ix (v3 + 2))) G535 x541 G540 r542) mw_X8_text tw_1174 (rfl : kd 124 = 8) (by decide) rfl rfl (Nat.le_of_ble_eq_true rfl) ⟨Nat.le_of_ble_eq_true rfl, Nat.le_of_ble_eq_true rfl⟩ dL_law_479 rfl ?_
        refine x_icmp_eq (tgt := 1828) hc dL_law_482 rfl (fun c_482 => ?_) (fun c_482 => ?_)
        · replace hf := if_p hf c_482
          refine x_iinc (v := v3 + 7) (L' := [(0, .ref b), (1, .ref (kad K 0)), (2, .ref (kad K 124)), (3, .int (v3 + 7))]) hc 3 [1, 2, 3, 0] dL_law_1828 rfl rfl (by decide) rfl ?_
          refine x_goto (tgt := 18) hc dL_law_1831 rfl ?_
          exact x_sub [0, 1, 2, 3] (ih _ _ hf) rfl
        · replace hf := if_n hf c_482
          refine x_iconst (v := 0) hc rfl dL_law_485 ?_
          exact absurd hf (by decide)
      replace hf := if_n hf s_33_6
      by_cases s_33_7 : (xs (ix v3)) &&& 63 = 7
      · replace hf := if_p hf s_33_7
        refine x_tsIn (tgt := 487) hc dL_law_33 7 s_33_7 (by decide) (by decide) rfl rfl ?_
        refine x_aload_n hc 1 dL_law_487 rfl rfl ?_
        refine x_aload_n hc 0 dL_law_488 rfl rfl ?_
        refine x_iload_n hc 3 dL_law_489 rfl rfl ?_
        refine x_iconst (v := 1) hc rfl dL_law_490 ?_
        refine x_iadd hc dL_law_491 ?_
        obtain ⟨h543, hf⟩ := chk_ok hf
        refine x_sld hc hs h543 dL_law_492 ?_
        refine x_aload_n hc 0 dL_law_493 rfl rfl ?_
        refine x_iload_n hc 3 dL_law_494 rfl rfl ?_
        refine x_iconst (v := 2) hc rfl dL_law_495 ?_
        refine x_iadd hc dL_law_496 ?_
        obtain ⟨h544, hf⟩ := chk_ok hf
        refine x_sld hc hs h544 dL_law_497 ?_
        refine x_aload_n hc 0 dL_law_498 rfl rfl ?_
        refine x_iload_n hc 3 dL_law_499 rfl rfl ?_
        refine x_iconst (v := 3) hc rfl dL_law_500 ?_
        refine x_iadd hc dL_law_501 ?_
        obtain ⟨h545, hf⟩ := chk_ok hf
        refine x_sld hc hs h545 dL_law_502 ?_
        obtain ⟨x547, G546, r548, hf⟩ := bj2_ok hf
        refine x_callVr (As := [.int (xs (ix (v3 + 1))), .int (xs (ix (v3 + 2))), .int (xs (ix (v3 + 3)))]) (p0 := 0) (v := (.int x547)) (T := TX7) hc (c_X7_put (kl K) (kV K) (xs (ix (v3 + 1))) (xs (ix (v3 + 2))) (xs (ix (v3 + 3))) G x547 G546 r548) mw_X7_put tw_446 (rfl : kd 0 = 7) (by decide) rfl rfl (Nat.le_of_ble_eq_true rfl) ⟨Nat.le_of_ble_eq_true rfl, Nat.le_of_ble_eq_true rfl⟩ dL_law_503 rfl ?_
        refine x_aload_n hc 2 dL_law_506 rfl rfl ?_
        refine x_aload_n hc 0 dL_law_507 rfl rfl ?_
        refine x_iload_n hc 3 dL_law_508 rfl rfl ?_
        refine x_iconst (v := 1) hc rfl dL_law_509 ?_
        refine x_iadd hc dL_law_510 ?_
        obtain ⟨h549, hf⟩ := chk_ok hf
        refine x_sld hc hs h549 dL_law_511 ?_
        refine x_aload_n hc 0 dL_law_512 rfl rfl ?_
        refine x_iload_n hc 3 dL_law_513 rfl rfl ?_
        refine x_iconst (v := 2) hc rfl dL_law_514 ?_
        refine x_iadd hc dL_law_515 ?_
        obtain ⟨h550, hf⟩ := chk_ok hf
        refine x_sld hc hs h550 dL_law_516 ?_
        refine x_aload_n hc 0 dL_law_517 rfl rfl ?_
        refine x_iload_n hc 3 dL_law_518 rfl rfl ?_
        refine x_iconst (v := 3) hc rfl dL_law_519 ?_
        refine x_iadd hc dL_law_520 ?_
        obtain ⟨h551, hf⟩ := chk_ok hf
        refine x_sld hc hs h551 dL_law_521 ?_
        obtain ⟨x553, G552, r554, hf⟩ := bj2_ok hf
        refine x_callVr (As := [.int (xs (ix (v3 + 1))), .int (xs (ix (v3 + 2))), .int (xs (ix (v3 + 3)))]) (p0 := 124) (v := (.int x553)) (T := TX8) hc (c_X8_put (kl K) (kV K) (xs (ix (v3 + 1))) (xs (ix (v3 + 2))) (xs (ix (v3 + 3))) G546 x553 G552 r554) mw_X8_put tw_1181 (rfl : kd 124 = 8) (by decide) rfl rfl (Nat.le_of_ble_eq_true rfl) ⟨Nat.le_of_ble_eq_true rfl, Nat.le_of_ble_eq_true rfl⟩ dL_law_522 rfl ?_
        refine x_icmp_eq (tgt := 1828) hc dL_law_525 rfl (fun c_525 => ?_) (fun c_525 => ?_)
        · replace hf := if_p hf c_525
          refine x_iinc (v := v3 + 7) (L' := [(0, .ref b), (1, .ref (kad K 0)), (2, .ref (kad K 124)), (3, .int (v3 + 7))]) hc 3 [1, 2, 3, 0] dL_law_1828 rfl rfl (by decide) rfl ?_
          refine x_goto (tgt := 18) hc dL_law_1831 rfl ?_
          exact x_sub [0, 1, 2, 3] (ih _ _ hf) rfl
        · replace hf := if_n hf c_525
          refine x_iconst (v := 0) hc rfl dL_law_528 ?_
          exact absurd hf (by decide)
      replace hf := if_n hf s_33_7
      by_cases s_33_8 : (xs (ix v3)) &&& 63 = 8
      · replace hf := if_p hf s_33_8
        refine x_tsIn (tgt := 530) hc dL_law_33 8 s_33_8 (by decide) (by decide) rfl rfl ?_
        refine x_aload_n hc 1 dL_law_530 rfl rfl ?_
        refine x_aload_n hc 0 dL_law_531 rfl rfl ?_
        refine x_iload_n hc 3 dL_law_532 rfl rfl ?_
        refine x_iconst (v := 1) hc rfl dL_law_533 ?_
        refine x_iadd hc dL_law_534 ?_
        obtain ⟨h555, hf⟩ := chk_ok hf
        refine x_sld hc hs h555 dL_law_535 ?_
        refine x_aload_n hc 0 dL_law_536 rfl rfl ?_
        refine x_iload_n hc 3 dL_law_537 rfl rfl ?_
        refine x_iconst (v := 2) hc rfl dL_law_538 ?_
        refine x_iadd hc dL_law_539 ?_
        obtain ⟨h556, hf⟩ := chk_ok hf
        refine x_sld hc hs h556 dL_law_540 ?_
        obtain ⟨x558, hr, hf⟩ := bj1_ok hf
        have hj_549_557 : X K 549 [(0, .ref b), (1, .ref (kad K 0)), (2, .ref (kad K 124)), (3, .int v3)] [.int x558, .int (xs (ix (v3 + 1))), .ref (kad K 0)] G := by
          clear hr
          obtain ⟨x560, G559, r561, hf⟩ := bj2_ok hf
          refine x_callVr (As := [.int (xs (ix (v3 + 1))), .int x558]) (p0 := 0) (v := (.int x560)) (T := TX7) hc (c_X7_fault (kl K) (kV K) (xs (ix (v3 + 1))) x558 G x560 G559 r561) mw_X7_fault tw_467 (rfl : kd 0 = 7) (by decide) rfl rfl (Nat.le_of_ble_eq_true rfl) ⟨Nat.le_of_ble_eq_true rfl, Nat.le_of_ble_eq_true rfl⟩ dL_law_549 rfl ?_
          refine x_aload_n hc 2 dL_law_552 rfl rfl ?_
          refine x_aload_n hc 0 dL_law_553 rfl rfl ?_
          refine x_iload_n hc 3 dL_law_554 rfl rfl ?_
          refine x_iconst (v := 1) hc rfl dL_law_555 ?_
          refine x_iadd hc dL_law_556 ?_
          obtain ⟨h562, hf⟩ := chk_ok hf
          refine x_sld hc hs h562 dL_law_557 ?_
          refine x_aload_n hc 0 dL_law_558 rfl rfl ?_
          refine x_iload_n hc 3 dL_law_559 rfl rfl ?_
          refine x_iconst (v := 2) hc rfl dL_law_560 ?_
          refine x_iadd hc dL_law_561 ?_
          obtain ⟨h563, hf⟩ := chk_ok hf
          refine x_sld hc hs h563 dL_law_562 ?_
          obtain ⟨x565, hr, hf⟩ := bj1_ok hf
          have hj_571_564 : X K 571 [(0, .ref b), (1, .ref (kad K 0)), (2, .ref (kad K 124)), (3, .int v3)] [.int x565, .int (xs (ix (v3 + 1))), .ref (kad K 124), .int x560] G559 := by
            clear hr
            obtain ⟨x567, G566, r568, hf⟩ := bj2_ok hf
            refine x_callVr (As := [.int (xs (ix (v3 + 1))), .int x565]) (p0 := 124) (v := (.int x567)) (T := TX8) hc (c_X8_fault (kl K) (kV K) (xs (ix (v3 + 1))) x565 G559 x567 G566 r568) mw_X8_fault tw_1185 (rfl : kd 124 = 8) (by decide) rfl rfl (Nat.le_of_ble_eq_true rfl) ⟨Nat.le_of_ble_eq_true rfl, Nat.le_of_ble_eq_true rfl⟩ dL_law_571 rfl ?_
            refine x_icmp_eq (tgt := 1828) hc dL_law_574 rfl (fun c_574 => ?_) (fun c_574 => ?_)
            · replace hf := if_p hf c_574
              refine x_iinc (v := v3 + 7) (L' := [(0, .ref b), (1, .ref (kad K 0)), (2, .ref (kad K 124)), (3, .int (v3 + 7))]) hc 3 [1, 2, 3, 0] dL_law_1828 rfl rfl (by decide) rfl ?_
              refine x_goto (tgt := 18) hc dL_law_1831 rfl ?_
              exact x_sub [0, 1, 2, 3] (ih _ _ hf) rfl
            · replace hf := if_n hf c_574
              refine x_iconst (v := 0) hc rfl dL_law_577 ?_
              exact absurd hf (by decide)
          replace hf := hr
          clear hr
          refine x_if_eq (tgt := 570) hc dL_law_563 rfl (fun c_563 => ?_) (fun c_563 => ?_)
          · replace hf := if_p hf c_563
            refine x_iconst (v := 0) hc rfl dL_law_570 ?_
            cases hf
            exact x_sub [0, 1, 2, 3] hj_571_564 rfl
          · replace hf := if_n hf c_563
            refine x_iconst (v := 1) hc rfl dL_law_566 ?_
            refine x_goto (tgt := 571) hc dL_law_567 rfl ?_
            cases hf
            exact x_sub [0, 1, 2, 3] hj_571_564 rfl
        replace hf := hr
        clear hr
        refine x_if_eq (tgt := 548) hc dL_law_541 rfl (fun c_541 => ?_) (fun c_541 => ?_)
        · replace hf := if_p hf c_541
          refine x_iconst (v := 0) hc rfl dL_law_548 ?_
          cases hf
          exact x_sub [0, 1, 2, 3] hj_549_557 rfl
        · replace hf := if_n hf c_541
          refine x_iconst (v := 1) hc rfl dL_law_544 ?_
          refine x_goto (tgt := 549) hc dL_law_545 rfl ?_
          cases hf
          exact x_sub [0, 1, 2, 3] hj_549_557 rfl
      replace hf := if_n hf s_33_8
      by_cases s_33_9 : (xs (ix v3)) &&& 63 = 9
      · replace hf := if_p hf s_33_9
        refine x_tsIn (tgt := 579) hc dL_law_33 9 s_33_9 (by decide) (by decide) rfl rfl ?_
        refine x_aload_n hc 1 dL_law_579 rfl rfl ?_
        refine x_aload_n hc 0 dL_law_580 rfl rfl ?_
        refine x_iload_n hc 3 dL_law_581 rfl rfl ?_
        refine x_iconst (v := 1) hc rfl dL_law_582 ?_
        refine x_iadd hc dL_law_583 ?_
        obtain ⟨h569, hf⟩ := chk_ok hf
        refine x_sld hc hs h569 dL_law_584 ?_
        refine x_aload_n hc 0 dL_law_585 rfl rfl ?_
        refine x_iload_n hc 3 dL_law_586 rfl rfl ?_
        refine x_iconst (v := 2) hc rfl dL_law_587 ?_
        refine x_iadd hc dL_law_588 ?_
        obtain ⟨h570, hf⟩ := chk_ok hf
        refine x_sld hc hs h570 dL_law_589 ?_
        obtain ⟨x572, G571, r573, hf⟩ := bj2_ok hf
        refine x_callVr (As := [.int (xs (ix (v3 + 1))), .int (xs (ix (v3 + 2)))]) (p0 := 0) (v := (.int x572)) (T := TX7) hc (c_X7_slab (kl K) (kV K) (xs (ix (v3 + 1))) (xs (ix (v3 + 2))) G x572 G571 r573) mw_X7_slab tw_514 (rfl : kd 0 = 7) (by decide) rfl rfl (Nat.le_of_ble_eq_true rfl) ⟨Nat.le_of_ble_eq_true rfl, Nat.le_of_ble_eq_true rfl⟩ dL_law_590 rfl ?_
        refine x_aload_n hc 2 dL_law_593 rfl rfl ?_
        refine x_aload_n hc 0 dL_law_594 rfl rfl ?_
        refine x_iload_n hc 3 dL_law_595 rfl rfl ?_
        refine x_iconst (v := 1) hc rfl dL_law_596 ?_
        refine x_iadd hc dL_law_597 ?_
        obtain ⟨h574, hf⟩ := chk_ok hf
        refine x_sld hc hs h574 dL_law_598 ?_
        refine x_aload_n hc 0 dL_law_599 rfl rfl ?_
        refine x_iload_n hc 3 dL_law_600 rfl rfl ?_
        refine x_iconst (v := 2) hc rfl dL_law_601 ?_
        refine x_iadd hc dL_law_602 ?_
        obtain ⟨h575, hf⟩ := chk_ok hf
        refine x_sld hc hs h575 dL_law_603 ?_
        obtain ⟨x577, G576, r578, hf⟩ := bj2_ok hf
        refine x_callVr (As := [.int (xs (ix (v3 + 1))), .int (xs (ix (v3 + 2)))]) (p0 := 124) (v := (.int x577)) (T := TX8) hc (c_X8_slab (kl K) (kV K) (xs (ix (v3 + 1))) (xs (ix (v3 + 2))) G571 x577 G576 r578) mw_X8_slab tw_1219 (rfl : kd 124 = 8) (by decide) rfl rfl (Nat.le_of_ble_eq_true rfl) ⟨Nat.le_of_ble_eq_true rfl, Nat.le_of_ble_eq_true rfl⟩ dL_law_604 rfl ?_
        refine x_icmp_eq (tgt := 1828) hc dL_law_607 rfl (fun c_607 => ?_) (fun c_607 => ?_)
        · replace hf := if_p hf c_607
          refine x_iinc (v := v3 + 7) (L' := [(0, .ref b), (1, .ref (kad K 0)), (2, .ref (kad K 124)), (3, .int (v3 + 7))]) hc 3 [1, 2, 3, 0] dL_law_1828 rfl rfl (by decide) rfl ?_
          refine x_goto (tgt := 18) hc dL_law_1831 rfl ?_
          exact x_sub [0, 1, 2, 3] (ih _ _ hf) rfl
        · replace hf := if_n hf c_607
          refine x_iconst (v := 0) hc rfl dL_law_610 ?_
          exact absurd hf (by decide)
      replace hf := if_n hf s_33_9
      by_cases s_33_10 : (xs (ix v3)) &&& 63 = 10
      · replace hf := if_p hf s_33_10
        refine x_tsIn (tgt := 612) hc dL_law_33 10 s_33_10 (by decide) (by decide) rfl rfl ?_
        refine x_aload_n hc 1 dL_law_612 rfl rfl ?_
        refine x_aload_n hc 0 dL_law_613 rfl rfl ?_
        refine x_iload_n hc 3 dL_law_614 rfl rfl ?_
        refine x_iconst (v := 1) hc rfl dL_law_615 ?_
        refine x_iadd hc dL_law_616 ?_
        obtain ⟨h579, hf⟩ := chk_ok hf
        refine x_sld hc hs h579 dL_law_617 ?_
        refine x_aload_n hc 0 dL_law_618 rfl rfl ?_
        refine x_iload_n hc 3 dL_law_619 rfl rfl ?_
        refine x_iconst (v := 2) hc rfl dL_law_620 ?_
        refine x_iadd hc dL_law_621 ?_
        obtain ⟨h580, hf⟩ := chk_ok hf
        refine x_sld hc hs h580 dL_law_622 ?_
        obtain ⟨x582, G581, r583, hf⟩ := bj2_ok hf
        refine x_callVr (As := [.int (xs (ix (v3 + 1))), .int (xs (ix (v3 + 2)))]) (p0 := 0) (v := (.int x582)) (T := TX7) hc (c_X7_plan (kl K) (kV K) (xs (ix (v3 + 1))) (xs (ix (v3 + 2))) G x582 G581 r583) mw_X7_plan tw_526 (rfl : kd 0 = 7) (by decide) rfl rfl (Nat.le_of_ble_eq_true rfl) ⟨Nat.le_of_ble_eq_true rfl, Nat.le_of_ble_eq_true rfl⟩ dL_law_623 rfl ?_
        refine x_aload_n hc 2 dL_law_626 rfl rfl ?_
        refine x_aload_n hc 0 dL_law_627 rfl rfl ?_
        refine x_iload_n hc 3 dL_law_628 rfl rfl ?_
        refine x_iconst (v := 1) hc rfl dL_law_629 ?_
        refine x_iadd hc dL_law_630 ?_
        obtain ⟨h584, hf⟩ := chk_ok hf
        refine x_sld hc hs h584 dL_law_631 ?_
        refine x_aload_n hc 0 dL_law_632 rfl rfl ?_
        refine x_iload_n hc 3 dL_law_633 rfl rfl ?_
        refine x_iconst (v := 2) hc rfl dL_law_634 ?_
        refine x_iadd hc dL_law_635 ?_
        obtain ⟨h585, hf⟩ := chk_ok hf
        refine x_sld hc hs h585 dL_law_636 ?_
        obtain ⟨x587, G586, r588, hf⟩ := bj2_ok hf
        refine x_callVr (As := [.int (xs (ix (v3 + 1))), .int (xs (ix (v3 + 2)))]) (p0 := 124) (v := (.int x587)) (T := TX8) hc (c_X8_plan (kl K) (kV K) (xs (ix (v3 + 1))) (xs (ix (v3 + 2))) G581 x587 G586 r588) mw_X8_plan tw_1226 (rfl : kd 124 = 8) (by decide) rfl rfl (Nat.le_of_ble_eq_true rfl) ⟨Nat.le_of_ble_eq_true rfl, Nat.le_of_ble_eq_true rfl⟩ dL_law_637 rfl ?_
        refine x_icmp_eq (tgt := 1828) hc dL_law_640 rfl (fun c_640 => ?_) (fun c_640 => ?_)
        · replace hf := if_p hf c_640
          refine x_iinc (v := v3 + 7) (L' := [(0, .ref b), (1, .ref (kad K 0)), (2, .ref (kad K 124)), (3, .int (v3 + 7))]) hc 3 [1, 2, 3, 0] dL_law_1828 rfl rfl (by decide) rfl ?_
          refine x_goto (tgt := 18) hc dL_law_1831 rfl ?_
          exact x_sub [0, 1, 2, 3] (ih _ _ hf) rfl
        · replace hf := if_n hf c_640
          refine x_iconst (v := 0) hc rfl dL_law_643 ?_
          exact absurd hf (by decide)
      replace hf := if_n hf s_33_10
      by_cases s_33_11 : (xs (ix v3)) &&& 63 = 11
      · replace hf := if_p hf s_33_11
        refine x_tsIn (tgt := 645) hc dL_law_33 11 s_33_11 (by decide) (by decide) rfl rfl ?_
        refine x_aload_n hc 1 dL_law_645 rfl rfl ?_
        refine x_aload_n hc 0 dL_law_646 rfl rfl ?_
        refine x_iload_n hc 3 dL_law_647 rfl rfl ?_
        refine x_iconst (v := 1) hc rfl dL_law_648 ?_
        refine x_iadd hc dL_law_649 ?_
        obtain ⟨h589, hf⟩ := chk_ok hf
        refine x_sld hc hs h589 dL_law_650 ?_
        refine x_aload_n hc 0 dL_law_651 rfl rfl ?_
        refine x_iload_n hc 3 dL_law_652 rfl rfl ?_
        refine x_iconst (v := 2) hc rfl dL_law_653 ?_
        refine x_iadd hc dL_law_654 ?_
        obtain ⟨h590, hf⟩ := chk_ok hf
        refine x_sld hc hs h590 dL_law_655 ?_
        obtain ⟨x592, G591, r593, hf⟩ := bj2_ok hf
        refine x_callVr (As := [.int (xs (ix (v3 + 1))), .int (xs (ix (v3 + 2)))]) (p0 := 0) (v := (.int x592)) (T := TX7) hc (c_X7_about (kl K) (kV K) (xs (ix (v3 + 1))) (xs (ix (v3 + 2))) G x592 G591 r593) mw_X7_about tw_556 (rfl : kd 0 = 7) (by decide) rfl rfl (Nat.le_of_ble_eq_true rfl) ⟨Nat.le_of_ble_eq_true rfl, Nat.le_of_ble_eq_true rfl⟩ dL_law_656 rfl ?_
        refine x_aload_n hc 2 dL_law_659 rfl rfl ?_
        refine x_aload_n hc 0 dL_law_660 rfl rfl ?_
        refine x_iload_n hc 3 dL_law_661 rfl rfl ?_
        refine x_iconst (v := 1) hc rfl dL_law_662 ?_
        refine x_iadd hc dL_law_663 ?_
        obtain ⟨h594, hf⟩ := chk_ok hf
        refine x_sld hc hs h594 dL_law_664 ?_
        refine x_aload_n hc 0 dL_law_665 rfl rfl ?_
        refine x_iload_n hc 3 dL_law_666 rfl rfl ?_
        refine x_iconst (v := 2) hc rfl dL_law_667 ?_
        refine x_iadd hc dL_law_668 ?_
        obtain ⟨h595, hf⟩ := chk_ok hf
        refine x_sld hc hs h595 dL_law_669 ?_
        obtain ⟨x597, G596, r598, hf⟩ := bj2_ok hf
        refine x_callVr (As := [.int (xs (ix (v3 + 1))), .int (xs (ix (v3 + 2)))]) (p0 := 124) (v := (.int x597)) (T := TX8) hc (c_X8_about (kl K) (kV K) (xs (ix (v3 + 1))) (xs (ix (v3 + 2))) G591 x597 G596 r598) mw_X8_about tw_1230 (rfl : kd 124 = 8) (by decide) rfl rfl (Nat.le_of_ble_eq_true rfl) ⟨Nat.le_of_ble_eq_true rfl, Nat.le_of_ble_eq_true rfl⟩ dL_law_670 rfl ?_
        refine x_icmp_eq (tgt := 1828) hc dL_law_673 rfl (fun c_673 => ?_) (fun c_673 => ?_)
        · replace hf := if_p hf c_673
          refine x_iinc (v := v3 + 7) (L' := [(0, .ref b), (1, .ref (kad K 0)), (2, .ref (kad K 124)), (3, .int (v3 + 7))]) hc 3 [1, 2, 3, 0] dL_law_1828 rfl rfl (by decide) rfl ?_
          refine x_goto (tgt := 18) hc dL_law_1831 rfl ?_
          exact x_sub [0, 1, 2, 3] (ih _ _ hf) rfl
        · replace hf := if_n hf c_673
          refine x_iconst (v := 0) hc rfl dL_law_676 ?_
          exact absurd hf (by decide)
      replace hf := if_n hf s_33_11
      by_cases s_33_12 : (xs (ix v3)) &&& 63 = 12
      · replace hf := if_p hf s_33_12
        refine x_tsIn (tgt := 678) hc dL_law_33 12 s_33_12 (by decide) (by decide) rfl rfl ?_
        refine x_aload_n hc 1 dL_law_678 rfl rfl ?_
        refine x_aload_n hc 0 dL_law_679 rfl rfl ?_
        refine x_iload_n hc 3 dL_law_680 rfl rfl ?_
        refine x_iconst (v := 1) hc rfl dL_law_681 ?_
        refine x_iadd hc dL_law_682 ?_
        obtain ⟨h599, hf⟩ := chk_ok hf
        refine x_sld hc hs h599 dL_law_683 ?_
        refine x_aload_n hc 0 dL_law_684 rfl rfl ?_
        refine x_iload_n hc 3 dL_law_685 rfl rfl ?_
        refine x_iconst (v := 2) hc rfl dL_law_686 ?_
        refine x_iadd hc dL_law_687 ?_
        obtain ⟨h600, hf⟩ := chk_ok hf
        refine x_sld hc hs h600 dL_law_688 ?_
        obtain ⟨x602, G601, r603, hf⟩ := bj2_ok hf
        refine x_callVr (As := [.int (xs (ix (v3 + 1))), .int (xs (ix (v3 + 2)))]) (p0 := 0) (v := (.int x602)) (T := TX7) hc (c_X7_step (kl K) (kV K) (xs (ix (v3 + 1))) (xs (ix (v3 + 2))) G x602 G601 r603) mw_X7_step tw_565 (rfl : kd 0 = 7) (by decide) rfl rfl (Nat.le_of_ble_eq_true rfl) ⟨Nat.le_of_ble_eq_true rfl, Nat.le_of_ble_eq_true rfl⟩ dL_law_689 rfl ?_
        refine x_aload_n hc 2 dL_law_692 rfl rfl ?_
        refine x_aload_n hc 0 dL_law_693 rfl rfl ?_
        refine x_iload_n hc 3 dL_law_694 rfl rfl ?_
        refine x_iconst (v := 1) hc rfl dL_law_695 ?_
        refine x_iadd hc dL_law_696 ?_
        obtain ⟨h604, hf⟩ := chk_ok hf
        refine x_sld hc hs h604 dL_law_697 ?_
        refine x_aload_n hc 0 dL_law_698 rfl rfl ?_
        refine x_iload_n hc 3 dL_law_699 rfl rfl ?_
        refine x_iconst (v := 2) hc rfl dL_law_700 ?_
        refine x_iadd hc dL_law_701 ?_
        obtain ⟨h605, hf⟩ := chk_ok hf
        refine x_sld hc hs h605 dL_law_702 ?_
        obtain ⟨x607, G606, r608, hf⟩ := bj2_ok hf
        refine x_callVr (As := [.int (xs (ix (v3 + 1))), .int (xs (ix (v3 + 2)))]) (p0 := 124) (v := (.int x607)) (T := TX8) hc (c_X8_step (kl K) (kV K) (xs (ix (v3 + 1))) (xs (ix (v3 + 2))) G601 x607 G606 r608) mw_X8_step tw_1234 (rfl : kd 124 = 8) (by decide) rfl rfl (Nat.le_of_ble_eq_true rfl) ⟨Nat.le_of_ble_eq_true rfl, Nat.le_of_ble_eq_true rfl⟩ dL_law_703 rfl ?_
        refine x_icmp_eq (tgt := 1828) hc dL_law_706 rfl (fun c_706 => ?_) (fun c_706 => ?_)
        · replace hf := if_p hf c_706
          refine x_iinc (v := v3 + 7) (L' := [(0, .ref b), (1, .ref (kad K 0)), (2, .ref (kad K 124)), (3, .int (v3 + 7))]) hc 3 [1, 2, 3, 0] dL_law_1828 rfl rfl (by decide) rfl ?_
          refine x_goto (tgt := 18) hc dL_law_1831 rfl ?_
          exact x_sub [0, 1, 2, 3] (ih _ _ hf) rfl
        · replace hf := if_n hf c_706
          refine x_iconst (v := 0) hc rfl dL_law_709 ?_
          exact absurd hf (by decide)
      replace hf := if_n hf s_33_12
      by_cases s_33_13 : (xs (ix v3)) &&& 63 = 13
      · replace hf := if_p hf s_33_13
        refine x_tsIn (tgt := 711) hc dL_law_33 13 s_33_13 (by decide) (by decide) rfl rfl ?_
        refine x_aload_n hc 1 dL_law_711 rfl rfl ?_
        refine x_aload_n hc 0 dL_law_712 rfl rfl ?_
        refine x_iload_n hc 3 dL_law_713 rfl rfl ?_
        refine x_iconst (v := 1) hc rfl dL_law_714 ?_
        refine x_iadd hc dL_law_715 ?_
        obtain ⟨h609, hf⟩ := chk_ok hf
        refine x_sld hc hs h609 dL_law_716 ?_
        refine x_aload_n hc 0 dL_law_717 rfl rfl ?_
        refine x_iload_n hc 3 dL_law_718 rfl rfl ?_
        refine x_iconst (v := 2) hc rfl dL_law_719 ?_
        refine x_iadd hc dL_law_720 ?_
        obtain ⟨h610, hf⟩ := chk_ok hf
        refine x_sld hc hs h610 dL_law_721 ?_
        obtain ⟨x612, G611, r613, hf⟩ := bj2_ok hf
        refine x_callVr (As := [.int (xs (ix (v3 + 1))), .int (xs (ix (v3 + 2)))]) (p0 := 0) (v := (.int x612)) (T := TX7) hc (c_X7_dish (kl K) (kV K) (xs (ix (v3 + 1))) (xs (ix (v3 + 2))) G x612 G611 r613) mw_X7_dish tw_575 (rfl : kd 0 = 7) (by decide) rfl rfl (Nat.le_of_ble_eq_true rfl) ⟨Nat.le_of_ble_eq_true rfl, Nat.le_of_ble_eq_true rfl⟩ dL_law_722 rfl ?_
        refine x_aload_n hc 2 dL_law_725 rfl rfl ?_
        refine x_aload_n hc 0 dL_law_726 rfl rfl ?_
        refine x_iload_n hc 3 dL_law_727 rfl rfl ?_
        refine x_iconst (v := 1) hc rfl dL_law_728 ?_
        refine x_iadd hc dL_law_729 ?_
        obtain ⟨h614, hf⟩ := chk_ok hf
        refine x_sld hc hs h614 dL_law_730 ?_
        refine x_aload_n hc 0 dL_law_731 rfl rfl ?_
        refine x_iload_n hc 3 dL_law_732 rfl rfl ?_
        refine x_iconst (v := 2) hc rfl dL_law_733 ?_
        refine x_iadd hc dL_law_734 ?_
        obtain ⟨h615, hf⟩ := chk_ok hf
        refine x_sld hc hs h615 dL_law_735 ?_
        obtain ⟨x617, G616, r618, hf⟩ := bj2_ok hf
        refine x_callVr (As := [.int (xs (ix (v3 + 1))), .int (xs (ix (v3 + 2)))]) (p0 := 124) (v := (.int x617)) (T := TX8) hc (c_X8_dish (kl K) (kV K) (xs (ix (v3 + 1))) (xs (ix (v3 + 2))) G611 x617 G616 r618) mw_X8_dish tw_1242 (rfl : kd 124 = 8) (by decide) rfl rfl (Nat.le_of_ble_eq_true rfl) ⟨Nat.le_of_ble_eq_true rfl, Nat.le_of_ble_eq_true rfl⟩ dL_law_736 rfl ?_
        refine x_icmp_eq (tgt := 1828) hc dL_law_739 rfl (fun c_739 => ?_) (fun c_739 => ?_)
        · replace hf := if_p hf c_739
          refine x_iinc (v := v3 + 7) (L' := [(0, .ref b), (1, .ref (kad K 0)), (2, .ref (kad K 124)), (3, .int (v3 + 7))]) hc 3 [1, 2, 3, 0] dL_law_1828 rfl rfl (by decide) rfl ?_
          refine x_goto (tgt := 18) hc dL_law_1831 rfl ?_
          exact x_sub [0, 1, 2, 3] (ih _ _ hf) rfl
        · replace hf := if_n hf c_739
          refine x_iconst (v := 0) hc rfl dL_law_742 ?_
          exact absurd hf (by decide)
      replace hf := if_n hf s_33_13
      by_cases s_33_14 : (xs (ix v3)) &&& 63 = 14
      · replace hf := if_p hf s_33_14
        refine x_tsIn (tgt := 744) hc dL_law_33 14 s_33_14 (by decide) (by decide) rfl rfl ?_
        refine x_aload_n hc 1 dL_law_744 rfl rfl ?_
        refine x_aload_n hc 0 dL_law_745 rfl rfl ?_
        refine x_iload_n hc 3 dL_law_746 rfl rfl ?_
        refine x_iconst (v := 1) hc rfl dL_law_747 ?_
        refine x_iadd hc dL_law_748 ?_
        obtain ⟨h619, hf⟩ := chk_ok hf
        refine x_sld hc hs h619 dL_law_749 ?_
        obtain ⟨x621, G620, r622, hf⟩ := bj2_ok hf
        refine x_callVr (As := [.int (xs (ix (v3 + 1)))]) (p0 := 0) (v := (.int x621)) (T := TX7) hc (c_X7_go (kl K) (kV K) (xs (ix (v3 + 1))) G x621 G620 r622) mw_X7_go tw_586 (rfl : kd 0 = 7) (by decide) rfl rfl (Nat.le_of_ble_eq_true rfl) ⟨Nat.le_of_ble_eq_true rfl, Nat.le_of_ble_eq_true rfl⟩ dL_law_750 rfl ?_
        refine x_aload_n hc 2 dL_law_753 rfl rfl ?_
        refine x_aload_n hc 0 dL_law_754 rfl rfl ?_
        refine x_iload_n hc 3 dL_law_755 rfl rfl ?_
        refine x_iconst (v := 1) hc rfl dL_law_756 ?_
        refine x_iadd hc dL_law_757 ?_
        obtain ⟨h623, hf⟩ := chk_ok hf
        refine x_sld hc hs h623 dL_law_758 ?_
        obtain ⟨x625, G624, r626, hf⟩ := bj2_ok hf
        refine x_callVr (As := [.int (xs (ix (v3 + 1)))]) (p0 := 124) (v := (.int x625)) (T := TX8) hc (c_X8_go (kl K) (kV K) (xs (ix (v3 + 1))) G620 x625 G624 r626) mw_X8_go tw_1277 (rfl : kd 124 = 8) (by decide) rfl rfl (Nat.le_of_ble_eq_true rfl) ⟨Nat.le_of_ble_eq_true rfl, Nat.le_of_ble_eq_true rfl⟩ dL_law_759 rfl ?_
        refine x_icmp_eq (tgt := 1828) hc dL_law_762 rfl (fun c_762 => ?_) (fun c_762 => ?_)
        · replace hf := if_p hf c_762
          refine x_iinc (v := v3 + 7) (L' := [(0, .ref b), (1, .ref (kad K 0)), (2, .ref (kad K 124)), (3, .int (v3 + 7))]) hc 3 [1, 2, 3, 0] dL_law_1828 rfl rfl (by decide) rfl ?_
          refine x_goto (tgt := 18) hc dL_law_1831 rfl ?_
          exact x_sub [0, 1, 2, 3] (ih _ _ hf) rfl
        · replace hf := if_n hf c_762
          refine x_iconst (v := 0) hc rfl dL_law_765 ?_
          exact absurd hf (by decide)
      replace hf := if_n hf s_33_14
      by_cases s_33_15 : (xs (ix v3)) &&& 63 = 15
      · replace hf := if_p hf s_33_15
        refine x_tsIn (tgt := 767) hc dL_law_33 15 s_33_15 (by decide) (by decide) rfl rfl ?_
        refine x_aload_n hc 1 dL_law_767 rfl rfl ?_
        refine x_aload_n hc 0 dL_law_768 rfl rfl ?_
        refine x_iload_n hc 3 dL_law_769 rfl rfl ?_
        refine x_iconst (v := 1) hc rfl dL_law_770 ?_
        refine x_iadd hc dL_law_771 ?_
        obtain ⟨h627, hf⟩ := chk_ok hf
        refine x_sld hc hs h627 dL_law_772 ?_
        refine x_aload_n hc 0 dL_law_773 rfl rfl ?_
        refine x_iload_n hc 3 dL_law_774 rfl rfl ?_
        refine x_iconst (v := 2) hc rfl dL_law_775 ?_
        refine x_iadd hc dL_law_776 ?_
        obtain ⟨h628, hf⟩ := chk_ok hf
        refine x_sld hc hs h628 dL_law_777 ?_
        obtain ⟨x630, G629, r631, hf⟩ := bj2_ok hf
        refine x_callVr (As := [.int (xs (ix (v3 + 1))), .int (xs (ix (v3 + 2)))]) (p0 := 0) (v := (.int x630)) (T := TX7) hc (c_X7_depth (kl K) (kV K) (xs (ix (v3 + 1))) (xs (ix (v3 + 2))) G x630 G629 r631) mw_X7_depth tw_621 (rfl : kd 0 = 7) (by decide) rfl rfl (Nat.le_of_ble_eq_true rfl) ⟨Nat.le_of_ble_eq_true rfl, Nat.le_of_ble_eq_true rfl⟩ dL_law_778 rfl ?_
        refine x_aload_n hc 2 dL_law_781 rfl rfl ?_
        refine x_aload_n hc 0 dL_law_782 rfl rfl ?_
        refine x_iload_n hc 3 dL_law_783 rfl rfl ?_
        refine x_iconst (v := 1) hc rfl dL_law_784 ?_
        refine x_iadd hc dL_law_785 ?_
        obtain ⟨h632, hf⟩ := chk_ok hf
        refine x_sld hc hs h632 dL_law_786 ?_
        refine x_aload_n hc 0 dL_law_787 rfl rfl ?_
        refine x_iload_n hc 3 dL_law_788 rfl rfl ?_
        refine x_iconst (v := 2) hc rfl dL_law_789 ?_
        refine x_iadd hc dL_law_790 ?_
        obtain ⟨h633, hf⟩ := chk_ok hf
        refine x_sld hc hs h633 dL_law_791 ?_
        obtain ⟨x635, G634, r636, hf⟩ := bj2_ok hf
        refine x_callVr (As := [.int (xs (ix (v3 + 1))), .int (xs (ix (v3 + 2)))]) (p0 := 124) (v := (.int x635)) (T := TX8) hc (c_X8_depth (kl K) (kV K) (xs (ix (v3 + 1))) (xs (ix (v3 + 2))) G629 x635 G634 r636) mw_X8_depth tw_1317 (rfl : kd 124 = 8) (by decide) rfl rfl (Nat.le_of_ble_eq_true rfl) ⟨Nat.le_of_ble_eq_true rfl, Nat.le_of_ble_eq_true rfl⟩ dL_law_792 rfl ?_
        refine x_icmp_eq (tgt := 1828) hc dL_law_795 rfl (fun c_795 => ?_) (fun c_795 => ?_)
        · replace hf := if_p hf c_795
          refine x_iinc (v := v3 + 7) (L' := [(0, .ref b), (1, .ref (kad K 0)), (2, .ref (kad K 124)), (3, .int (v3 + 7))]) hc 3 [1, 2, 3, 0] dL_law_1828 rfl rfl (by decide) rfl ?_
          refine x_goto (tgt := 18) hc dL_law_1831 rfl ?_
          exact x_sub [0, 1, 2, 3] (ih _ _ hf) rfl
        · replace hf := if_n hf c_795
          refine x_iconst (v := 0) hc rfl dL_law_798 ?_
          exact absurd hf (by decide)
      replace hf := if_n hf s_33_15
      by_cases s_33_16 : (xs (ix v3)) &&& 63 = 16
      · replace hf := if_p hf s_33_16
        refine x_tsIn (tgt := 800) hc dL_law_33 16 s_33_16 (by decide) (by decide) rfl rfl ?_
        refine x_aload_n hc 1 dL_law_800 rfl rfl ?_
        refine x_aload_n hc 0 dL_law_801 rfl rfl ?_
        refine x_iload_n hc 3 dL_law_802 rfl rfl ?_
        refine x_iconst (v := 1) hc rfl dL_law_803 ?_
        refine x_iadd hc dL_law_804 ?_
        obtain ⟨h637, hf⟩ := chk_ok hf
        refine x_sld hc hs h637 dL_law_805 ?_
        refine x_aload_n hc 0 dL_law_806 rfl rfl ?_
        refine x_iload_n hc 3 dL_law_807 rfl rfl ?_
        refine x_iconst (v := 2) hc rfl dL_law_808 ?_
        refine x_iadd hc dL_law_809 ?_
        obtain ⟨h638, hf⟩ := chk_ok hf
        refine x_sld hc hs h638 dL_law_810 ?_
        obtain ⟨x640, G639, r641, hf⟩ := bj2_ok hf
        refine x_callVr (As := [.int (xs (ix (v3 + 1))), .int (xs (ix (v3 + 2)))]) (p0 := 0) (v := (.int x640)) (T := TX7) hc (c_X7_skin (kl K) (kV K) (xs (ix (v3 + 1))) (xs (ix (v3 + 2))) G x640 G639 r641) mw_X7_skin tw_645 (rfl : kd 0 = 7) (by decide) rfl rfl (Nat.le_of_ble_eq_true rfl) ⟨Nat.le_of_ble_eq_true rfl, Nat.le_of_ble_eq_true rfl⟩ dL_law_811 rfl ?_
        refine x_aload_n hc 2 dL_law_814 rfl rfl ?_
        refine x_aload_n hc 0 dL_law_815 rfl rfl ?_
        refine x_iload_n hc 3 dL_law_816 rfl rfl ?_
        refine x_iconst (v := 1) hc rfl dL_law_817 ?_
        refine x_iadd hc dL_law_818 ?_
        obtain ⟨h642, hf⟩ := chk_ok hf
        refine x_sld hc hs h642 dL_law_819 ?_
        refine x_aload_n hc 0 dL_law_820 rfl rfl ?_
        refine x_iload_n hc 3 dL_law_821 rfl rfl ?_
        refine x_iconst (v := 2) hc rfl dL_law_822 ?_
        refine x_iadd hc dL_law_823 ?_
        obtain ⟨h643, hf⟩ := chk_ok hf
        refine x_sld hc hs h643 dL_law_824 ?_
        obtain ⟨x645, G644, r646, hf⟩ := bj2_ok hf
        refine x_callVr (As := [.int (xs (ix (v3 + 1))), .int (xs (ix (v3 + 2)))]) (p0 := 124) (v := (.int x645)) (T := TX8) hc (c_X8_skin (kl K) (kV K) (xs (ix (v3 + 1))) (xs (ix (v3 + 2))) G639 x645 G644 r646) mw_X8_skin tw_1325 (rfl : kd 124 = 8) (by decide) rfl rfl (Nat.le_of_ble_eq_true rfl) ⟨Nat.le_of_ble_eq_true rfl, Nat.le_of_ble_eq_true rfl⟩ dL_law_825 rfl ?_
        refine x_icmp_eq (tgt := 1828) hc dL_law_828 rfl (fun c_828 => ?_) (fun c_828 => ?_)
        · replace hf := if_p hf c_828
          refine x_iinc (v := v3 + 7) (L' := [(0, .ref b), (1, .ref (kad K 0)), (2, .ref (kad K 124)), (3, .int (v3 + 7))]) hc 3 [1, 2, 3, 0] dL_law_1828 rfl rfl (by decide) rfl ?_
          refine x_goto (tgt := 18) hc dL_law_1831 rfl ?_
          exact x_sub [0, 1, 2, 3] (ih _ _ hf) rfl
        · replace hf := if_n hf c_828
          refine x_iconst (v := 0) hc rfl dL_law_831 ?_
          exact absurd hf (by decide)
      replace hf := if_n hf s_33_16
      by_cases s_33_17 : (xs (ix v3)) &&& 63 = 17
      · replace hf := if_p hf s_33_17
        refine x_tsIn (tgt := 833) hc dL_law_33 17 s_33_17 (by decide) (by decide) rfl rfl ?_
        refine x_aload_n hc 1 dL_law_833 rfl rfl ?_
        refine x_aload_n hc 0 dL_law_834 rfl rfl ?_
        refine x_iload_n hc 3 dL_law_835 rfl rfl ?_
        refine x_iconst (v := 1) hc rfl dL_law_836 ?_
        refine x_iadd hc dL_law_837 ?_
        obtain ⟨h647, hf⟩ := chk_ok hf
        refine x_sld hc hs h647 dL_law_838 ?_
        refine x_aload_n hc 0 dL_law_839 rfl rfl ?_
        refine x_iload_n hc 3 dL_law_840 rfl rfl ?_
        refine x_iconst (v := 2) hc rfl dL_law_841 ?_
        refine x_iadd hc dL_law_842 ?_
        obtain ⟨h648, hf⟩ := chk_ok hf
        refine x_sld hc hs h648 dL_law_843 ?_
        obtain ⟨x650, G649, r651, hf⟩ := bj2_ok hf
        refine x_callVr (As := [.int (xs (ix (v3 + 1))), .int (xs (ix (v3 + 2)))]) (p0 := 0) (v := (.int x650)) (T := TX7) hc (c_X7_mark (kl K) (kV K) (xs (ix (v3 + 1))) (xs (ix (v3 + 2))) G x650 G649 r651) mw_X7_mark tw_665 (rfl : kd 0 = 7) (by decide) rfl rfl (Nat.le_of_ble_eq_true rfl) ⟨Nat.le_of_ble_eq_true rfl, Nat.le_of_ble_eq_true rfl⟩ dL_law_844 rfl ?_
        refine x_aload_n hc 2 dL_law_847 rfl rfl ?_
        refine x_aload_n hc 0 dL_law_848 rfl rfl ?_
        refine x_iload_n hc 3 dL_law_849 rfl rfl ?_
        refine x_iconst (v := 1) hc rfl dL_law_850 ?_
        refine x_iadd hc dL_law_851 ?_
        obtain ⟨h652, hf⟩ := chk_ok hf
        refine x_sld hc hs h652 dL_law_852 ?_
        refine x_aload_n hc 0 dL_law_853 rfl rfl ?_
        refine x_iload_n hc 3 dL_law_854 rfl rfl ?_
        refine x_iconst (v := 2) hc rfl dL_law_855 ?_
        refine x_iadd hc dL_law_856 ?_
        obtain ⟨h653, hf⟩ := chk_ok hf
        refine x_sld hc hs h653 dL_law_857 ?_
        obtain ⟨x655, G654, r656, hf⟩ := bj2_ok hf
        refine x_callVr (As := [.int (xs (ix (v3 + 1))), .int (xs (ix (v3 + 2)))]) (p0 := 124) (v := (.int x655)) (T := TX8) hc (c_X8_mark (kl K) (kV K) (xs (ix (v3 + 1))) (xs (ix (v3 + 2))) G649 x655 G654 r656) mw_X8_mark tw_1337 (rfl : kd 124 = 8) (by decide) rfl rfl (Nat.le_of_ble_eq_true rfl) ⟨Nat.le_of_ble_eq_true rfl, Nat.le_of_ble_eq_true rfl⟩ dL_law_858 rfl ?_
        refine x_icmp_eq (tgt := 1828) hc dL_law_861 rfl (fun c_861 => ?_) (fun c_861 => ?_)
        · replace hf := if_p hf c_861
          refine x_iinc (v := v3 + 7) (L' := [(0, .ref b), (1, .ref (kad K 0)), (2, .ref (kad K 124)), (3, .int (v3 + 7))]) hc 3 [1, 2, 3, 0] dL_law_1828 rfl rfl (by decide) rfl ?_
          refine x_goto (tgt := 18) hc dL_law_1831 rfl ?_
          exact x_sub [0, 1, 2, 3] (ih _ _ hf) rfl
        · replace hf := if_n hf c_861
          refine x_iconst (v := 0) hc rfl dL_law_864 ?_
          exact absurd hf (by decide)
      replace hf := if_n hf s_33_17
      by_cases s_33_18 : (xs (ix v3)) &&& 63 = 18
      · replace hf := if_p hf s_33_18
        refine x_tsIn (tgt := 866) hc dL_law_33 18 s_33_18 (by decide) (by decide) rfl rfl ?_
        refine x_aload_n hc 1 dL_law_866 rfl rfl ?_
        refine x_aload_n hc 0 dL_law_867 rfl rfl ?_
        refine x_iload_n hc 3 dL_law_868 rfl rfl ?_
        refine x_iconst (v := 1) hc rfl dL_law_869 ?_
        refine x_iadd hc dL_law_870 ?_
        obtain ⟨h657, hf⟩ := chk_ok hf
        refine x_sld hc hs h657 dL_law_871 ?_
        obtain ⟨x659, G658, r660, hf⟩ := bj2_ok hf
        refine x_callVr (As := [.int (xs (ix (v3 + 1)))]) (p0 := 0) (v := (.int x659)) (T := TX7) hc (c_X7_keep (kl K) (kV K) (xs (ix (v3 + 1))) G x659 G658 r660) mw_X7_keep tw_679 (rfl : kd 0 = 7) (by decide) rfl rfl (Nat.le_of_ble_eq_true rfl) ⟨Nat.le_of_ble_eq_true rfl, Nat.le_of_ble_eq_true rfl⟩ dL_law_872 rfl ?_
        refine x_aload_n hc 2 dL_law_875 rfl rfl ?_
        refine x_aload_n hc 0 dL_law_876 rfl rfl ?_
        refine x_iload_n hc 3 dL_law_877 rfl rfl ?_
        refine x_iconst (v := 1) hc rfl dL_law_878 ?_
        refine x_iadd hc dL_law_879 ?_
        obtain ⟨h661, hf⟩ := chk_ok hf
        refine x_sld hc hs h661 dL_law_880 ?_
        obtain ⟨x663, G662, r664, hf⟩ := bj2_ok hf
        refine x_callVr (As := [.int (xs (ix (v3 + 1)))]) (p0 := 124) (v := (.int x663)) (T := TX8) hc (c_X8_keep (kl K) (kV K) (xs (ix (v3 + 1))) G658 x663 G662 r664) mw_X8_keep tw_1344 (rfl : kd 124 = 8) (by decide) rfl rfl (Nat.le_of_ble_eq_true rfl) ⟨Nat.le_of_ble_eq_true rfl, Nat.le_of_ble_eq_true rfl⟩ dL_law_881 rfl ?_
        refine x_icmp_eq (tgt := 1828) hc dL_law_884 rfl (fun c_884 => ?_) (fun c_884 => ?_)
        · replace hf := if_p hf c_884
          refine x_iinc (v := v3 + 7) (L' := [(0, .ref b), (1, .ref (kad K 0)), (2, .ref (kad K 124)), (3, .int (v3 + 7))]) hc 3 [1, 2, 3, 0] dL_law_1828 rfl rfl (by decide) rfl ?_
          refine x_goto (tgt := 18) hc dL_law_1831 rfl ?_
          exact x_sub [0, 1, 2, 3] (ih _ _ hf) rfl
        · replace hf := if_n hf c_884
          refine x_iconst (v := 0) hc rfl dL_law_887 ?_
          exact absurd hf (by decide)
      replace hf := if_n hf s_33_18
      by_cases s_33_19 : (xs (ix v3)) &&& 63 = 19
      · replace hf := if_p hf s_33_19
        refine x_tsIn (tgt := 889) hc dL_law_33 19 s_33_19 (by decide) (by decide) rfl rfl ?_
        refine x_aload_n hc 1 dL_law_889 rfl rfl ?_
        refine x_aload_n hc 0 dL_law_890 rfl rfl ?_
        refine x_iload_n hc 3 dL_law_891 rfl rfl ?_
        refine x_iconst (v := 1) hc rfl dL_law_892 ?_
        refine x_iadd hc dL_law_893 ?_
        obtain ⟨h665, hf⟩ := chk_ok hf
        refine x_sld hc hs h665 dL_law_894 ?_
        obtain ⟨x667, G666, r668, hf⟩ := bj2_ok hf
        refine x_callVr (As := [.int (xs (ix (v3 + 1)))]) (p0 := 0) (v := (.int x667)) (T := TX7) hc (c_X7_on (kl K) (kV K) (xs (ix (v3 + 1))) G x667 G666 r668) mw_X7_on tw_692 (rfl : kd 0 = 7) (by decide) rfl rfl (Nat.le_of_ble_eq_true rfl) ⟨Nat.le_of_ble_eq_true rfl, Nat.le_of_ble_eq_true rfl⟩ dL_law_895 rfl ?_
        refine x_aload_n hc 2 dL_law_898 rfl rfl ?_
        refine x_aload_n hc 0 dL_law_899 rfl rfl ?_
        refine x_iload_n hc 3 dL_law_900 rfl rfl ?_
        refine x_iconst (v := 1) hc rfl dL_law_901 ?_
        refine x_iadd hc dL_law_902 ?_
        obtain ⟨h669, hf⟩ := chk_ok hf
        refine x_sld hc hs h669 dL_law_903 ?_
        obtain ⟨x671, G670, r672, hf⟩ := bj2_ok hf
        refine x_callVr (As := [.int (xs (ix (v3 + 1)))]) (p0 := 124) (v := (.int x671)) (T := TX8) hc (c_X8_on (kl K) (kV K) (xs (ix (v3 + 1))) G666 x671 G670 r672) mw_X8_on tw_1352 (rfl : kd 124 = 8) (by decide) rfl rfl (Nat.le_of_ble_eq_true rfl) ⟨Nat.le_of_ble_eq_true rfl, Nat.le_of_ble_eq_true rfl⟩ dL_law_904 rfl ?_
        refine x_icmp_eq (tgt := 1828) hc dL_law_907 rfl (fun c_907 => ?_) (fun c_907 => ?_)
        · replace hf := if_p hf c_907
          refine x_iinc (v := v3 + 7) (L' := [(0, .ref b), (1, .ref (kad K 0)), (2, .ref (kad K 124)), (3, .int (v3 + 7))]) hc 3 [1, 2, 3, 0] dL_law_1828 rfl rfl (by decide) rfl ?_
          refine x_goto (tgt := 18) hc dL_law_1831 rfl ?_
          exact x_sub [0, 1, 2, 3] (ih _ _ hf) rfl
        · replace hf := if_n hf c_907
          refine x_iconst (v := 0) hc rfl dL_law_910 ?_
          exact absurd hf (by decide)
      replace hf := if_n hf s_33_19
      by_cases s_33_20 : (xs (ix v3)) &&& 63 = 20
      · replace hf := if_p hf s_33_20
        refine x_tsIn (tgt := 912) hc dL_law_33 20 s_33_20 (by decide) (by decide) rfl rfl ?_
        refine x_aload_n hc 1 dL_law_912 rfl rfl ?_
        refine x_aload_n hc 0 dL_law_913 rfl rfl ?_
        refine x_iload_n hc 3 dL_law_914 rfl rfl ?_
        refine x_iconst (v := 1) hc rfl dL_law_915 ?_
        refine x_iadd hc dL_law_916 ?_
        obtain ⟨h673, hf⟩ := chk_ok hf
        refine x_sld hc hs h673 dL_law_917 ?_
        refine x_aload_n hc 0 dL_law_918 rfl rfl ?_
        refine x_iload_n hc 3 dL_law_919 rfl rfl ?_
        refine x_iconst (v := 2) hc rfl dL_law_920 ?_
        refine x_iadd hc dL_law_921 ?_
        obtain ⟨h674, hf⟩ := chk_ok hf
        refine x_sld hc hs h674 dL_law_922 ?_
        obtain ⟨x676, G675, r677, hf⟩ := bj2_ok hf
        refine x_callVr (As := [.int (xs (ix (v3 + 1))), .int (xs (ix (v3 + 2)))]) (p0 := 0) (v := (.int x676)) (T := TX7) hc (c_X7_just (kl K) (kV K) (xs (ix (v3 + 1))) (xs (ix (v3 + 2))) G x676 G675 r677) mw_X7_just tw_696 (rfl : kd 0 = 7) (by decide) rfl rfl (Nat.le_of_ble_eq_true rfl) ⟨Nat.le_of_ble_eq_true rfl, Nat.le_of_ble_eq_true rfl⟩ dL_law_923 rfl ?_
        refine x_aload_n hc 2 dL_law_926 rfl rfl ?_
        refine x_aload_n hc 0 dL_law_927 rfl rfl ?_
        refine x_iload_n hc 3 dL_law_928 rfl rfl ?_
        refine x_iconst (v := 1) hc rfl dL_law_929 ?_
        refine x_iadd hc dL_law_930 ?_
        obtain ⟨h678, hf⟩ := chk_ok hf
        refine x_sld hc hs h678 dL_law_931 ?_
        refine x_aload_n hc 0 dL_law_932 rfl rfl ?_
        refine x_iload_n hc 3 dL_law_933 rfl rfl ?_
        refine x_iconst (v := 2) hc rfl dL_law_934 ?_
        refine x_iadd hc dL_law_935 ?_
        obtain ⟨h679, hf⟩ := chk_ok hf
        refine x_sld hc hs h679 dL_law_936 ?_
        obtain ⟨x681, G680, r682, hf⟩ := bj2_ok hf
        refine x_callVr (As := [.int (xs (ix (v3 + 1))), .int (xs (ix (v3 + 2)))]) (p0 := 124) (v := (.int x681)) (T := TX8) hc (c_X8_just (kl K) (kV K) (xs (ix (v3 + 1))) (xs (ix (v3 + 2))) G675 x681 G680 r682) mw_X8_just tw_1356 (rfl : kd 124 = 8) (by decide) rfl rfl (Nat.le_of_ble_eq_true rfl) ⟨Nat.le_of_ble_eq_true rfl, Nat.le_of_ble_eq_true rfl⟩ dL_law_937 rfl ?_
        refine x_icmp_eq (tgt := 1828) hc dL_law_940 rfl (fun c_940 => ?_) (fun c_940 => ?_)
        · replace hf := if_p hf c_940
          refine x_iinc (v := v3 + 7) (L' := [(0, .ref b), (1, .ref (kad K 0)), (2, .ref (kad K 124)), (3, .int (v3 + 7))]) hc 3 [1, 2, 3, 0] dL_law_1828 rfl rfl (by decide) rfl ?_
          refine x_goto (tgt := 18) hc dL_law_1831 rfl ?_
          exact x_sub [0, 1, 2, 3] (ih _ _ hf) rfl
        · replace hf := if_n hf c_940
          refine x_iconst (v := 0) hc rfl dL_law_943 ?_
          exact absurd hf (by decide)
      replace hf := if_n hf s_33_20
      by_cases s_33_21 : (xs (ix v3)) &&& 63 = 21
      · replace hf := if_p hf s_33_21
        refine x_tsIn (tgt := 945) hc dL_law_33 21 s_33_21 (by decide) (by decide) rfl rfl ?_
        refine x_aload_n hc 1 dL_law_945 rfl rfl ?_
        refine x_aload_n hc 0 dL_law_946 rfl rfl ?_
        refine x_iload_n hc 3 dL_law_947 rfl rfl ?_
        refine x_iconst (v := 1) hc rfl dL_law_948 ?_
        refine x_iadd hc dL_law_949 ?_
        obtain ⟨h683, hf⟩ := chk_ok hf
        refine x_sld hc hs h683 dL_law_950 ?_
        obtain ⟨x685, G684, r686, hf⟩ := bj2_ok hf
        refine x_callVr (As := [.int (xs (ix (v3 + 1)))]) (p0 := 0) (v := (.int x685)) (T := TX7) hc (c_X7_slice (kl K) (kV K) (xs (ix (v3 + 1))) G x685 G684 r686) mw_X7_slice tw_712 (rfl : kd 0 = 7) (by decide) rfl rfl (Nat.le_of_ble_eq_true rfl) ⟨Nat.le_of_ble_eq_true rfl, Nat.le_of_ble_eq_true rfl⟩ dL_law_951 rfl ?_
        refine x_aload_n hc 2 dL_law_954 rfl rfl ?_
        refine x_aload_n hc 0 dL_law_955 rfl rfl ?_
        refine x_iload_n hc 3 dL_law_956 rfl rfl ?_
        refine x_iconst (v := 1) hc rfl dL_law_957 ?_
        refine x_iadd hc dL_law_958 ?_
        obtain ⟨h687, hf⟩ := chk_ok hf
        refine x_sld hc hs h687 dL_law_959 ?_
        obtain ⟨x689, G688, r690, hf⟩ := bj2_ok hf
        refine x_callVr (As := [.int (xs (ix (v3 + 1)))]) (p0 := 124) (v := (.int x689)) (T := TX8) hc (c_X8_slice (kl K) (kV K) (xs (ix (v3 + 1))) G684 x689 G688 r690) mw_X8_slice tw_1371 (rfl : kd 124 = 8) (by decide) rfl rfl (Nat.le_of_ble_eq_true rfl) ⟨Nat.le_of_ble_eq_true rfl, Nat.le_of_ble_eq_true rfl⟩ dL_law_960 rfl ?_
        refine x_icmp_eq (tgt := 1828) hc dL_law_963 rfl (fun c_963 => ?_) (fun c_963 => ?_)
        · replace hf := if_p hf c_963
          refine x_iinc (v := v3 + 7) (L' := [(0, .ref b), (1, .ref (kad K 0)), (2, .ref (kad K 124)), (3, .int (v3 + 7))]) hc 3 [1, 2, 3, 0] dL_law_1828 rfl rfl (by decide) rfl ?_
          refine x_goto (tgt := 18) hc dL_law_1831 rfl ?_
          exact x_sub [0, 1, 2, 3] (ih _ _ hf) rfl
        · replace hf := if_n hf c_963
          refine x_iconst (v := 0) hc rfl dL_law_966 ?_
          exact absurd hf (by decide)
      replace hf := if_n hf s_33_21
      by_cases s_33_22 : (xs (ix v3)) &&& 63 = 22
      · replace hf := if_p hf s_33_22
        refine x_tsIn (tgt := 968) hc dL_law_33 22 s_33_22 (by decide) (by decide) rfl rfl ?_
        refine x_aload_n hc 1 dL_law_968 rfl rfl ?_
        refine x_aload_n hc 0 dL_law_969 rfl rfl ?_
        refine x_iload_n hc 3 dL_law_970 rfl rfl ?_
        refine x_iconst (v := 1) hc rfl dL_law_971 ?_
        refine x_iadd hc dL_law_972 ?_
        obtain ⟨h691, hf⟩ := chk_ok hf
        refine x_sld hc hs h691 dL_law_973 ?_
        obtain ⟨x693, G692, r694, hf⟩ := bj2_ok hf
        refine x_callVr (As := [.int (xs (ix (v3 + 1)))]) (p0 := 0) (v := (.int x693)) (T := TX7) hc (c_X7_cut (kl K) (kV K) (xs (ix (v3 + 1))) G x693 G692 r694) mw_X7_cut tw_725 (rfl : kd 0 = 7) (by decide) rfl rfl (Nat.le_of_ble_eq_true rfl) ⟨Nat.le_of_ble_eq_true rfl, Nat.le_of_ble_eq_true rfl⟩ dL_law_974 rfl ?_
        refine x_aload_n hc 2 dL_law_977 rfl rfl ?_
        refine x_aload_n hc 0 dL_law_978 rfl rfl ?_
        refine x_iload_n hc 3 dL_law_979 rfl rfl ?_
        refine x_iconst (v := 1) hc rfl dL_law_980 ?_
        refine x_iadd hc dL_law_981 ?_
        obtain ⟨h695, hf⟩ := chk_ok hf
        refine x_sld hc hs h695 dL_law_982 ?_
        obtain ⟨x697, G696, r698, hf⟩ := bj2_ok hf
        refine x_callVr (As := [.int (xs (ix (v3 + 1)))]) (p0 := 124) (v := (.int x697)) (T := TX8) hc (c_X8_cut (kl K) (kV K) (xs (ix (v3 + 1))) G692 x697 G696 r698) mw_X8_cut tw_1383 (rfl : kd 124 = 8) (by decide) rfl rfl (Nat.le_of_ble_eq_true rfl) ⟨Nat.le_of_ble_eq_true rfl, Nat.le_of_ble_eq_true rfl⟩ dL_law_983 rfl ?_
        refine x_icmp_eq (tgt := 1828) hc dL_law_986 rfl (fun c_986 => ?_) (fun c_986 => ?_)
        · replace hf := if_p hf c_986
          refine x_iinc (v := v3 + 7) (L' := [(0, .ref b), (1, .ref (kad K 0)), (2, .ref (kad K 124)), (3, .int (v3 + 7))]) hc 3 [1, 2, 3, 0] dL_law_1828 rfl rfl (by decide) rfl ?_
          refine x_goto (tgt := 18) hc dL_law_1831 rfl ?_
          exact x_sub [0, 1, 2, 3] (ih _ _ hf) rfl
        · replace hf := if_n hf c_986
          refine x_iconst (v := 0) hc rfl dL_law_989 ?_
          exact absurd hf (by decide)
      replace hf := if_n hf s_33_22
      by_cases s_33_23 : (xs (ix v3)) &&& 63 = 23
      · replace hf := if_p hf s_33_23
        refine x_tsIn (tgt := 991) hc dL_law_33 23 s_33_23 (by decide) (by decide) rfl rfl ?_
        refine x_aload_n hc 1 dL_law_991 rfl rfl ?_
        obtain ⟨x700, G699, r701, hf⟩ := bj2_ok hf
        refine x_callVr (As := []) (p0 := 0) (v := (.int x700)) (T := TX7) hc (c_X7_rise (kl K) (kV K) G x700 G699 r701) mw_X7_rise tw_737 (rfl : kd 0 = 7) (by decide) rfl rfl (Nat.le_of_ble_eq_true rfl) ⟨Nat.le_of_ble_eq_true rfl, Nat.le_of_ble_eq_true rfl⟩ dL_law_992 rfl ?_
        refine x_aload_n hc 2 dL_law_995 rfl rfl ?_
        obtain ⟨x703, G702, r704, hf⟩ := bj2_ok hf
        refine x_callVr (As := []) (p0 := 124) (v := (.int x703)) (T := TX8) hc (c_X8_rise (kl K) (kV K) G699 x703 G702 r704) mw_X8_rise tw_1398 (rfl : kd 124 = 8) (by decide) rfl rfl (Nat.le_of_ble_eq_true rfl) ⟨Nat.le_of_ble_eq_true rfl, Nat.le_of_ble_eq_true rfl⟩ dL_law_996 rfl ?_
        refine x_icmp_eq (tgt := 1828) hc dL_law_999 rfl (fun c_999 => ?_) (fun c_999 => ?_)
        · replace hf := if_p hf c_999
          refine x_iinc (v := v3 + 7) (L' := [(0, .ref b), (1, .ref (kad K 0)), (2, .ref (kad K 124)), (3, .int (v3 + 7))]) hc 3 [1, 2, 3, 0] dL_law_1828 rfl rfl (by decide) rfl ?_
          refine x_goto (tgt := 18) hc dL_law_1831 rfl ?_
          exact x_sub [0, 1, 2, 3] (ih _ _ hf) rfl
        · replace hf := if_n hf c_999
          refine x_iconst (v := 0) hc rfl dL_law_1002 ?_
          exact absurd hf (by decide)
      replace hf := if_n hf s_33_23
      by_cases s_33_24 : (xs (ix v3)) &&& 63 = 24
      · replace hf := if_p hf s_33_24
        refine x_tsIn (tgt := 1004) hc dL_law_33 24 s_33_24 (by decide) (by decide) rfl rfl ?_
        refine x_aload_n hc 1 dL_law_1004 rfl rfl ?_
        refine x_aload_n hc 0 dL_law_1005 rfl rfl ?_
        refine x_iload_n hc 3 dL_law_1006 rfl rfl ?_
        refine x_iconst (v := 1) hc rfl dL_law_1007 ?_
        refine x_iadd hc dL_law_1008 ?_
        obtain ⟨h705, hf⟩ := chk_ok hf
        refine x_sld hc hs h705 dL_law_1009 ?_
        obtain ⟨x707, G706, r708, hf⟩ := bj2_ok hf
        refine x_callVr (As := [.int (xs (ix (v3 + 1)))]) (p0 := 0) (v := (.int x707)) (T := TX7) hc (c_X7_wire (kl K) (kV K) (xs (ix (v3 + 1))) G x707 G706 r708) mw_X7_wire tw_750 (rfl : kd 0 = 7) (by decide) rfl rfl (Nat.le_of_ble_eq_true rfl) ⟨Nat.le_of_ble_eq_true rfl, Nat.le_of_ble_eq_true rfl⟩ dL_law_1010 rfl ?_
        refine x_aload_n hc 2 dL_law_1013 rfl rfl ?_
        refine x_aload_n hc 0 dL_law_1014 rfl rfl ?_
        refine x_iload_n hc 3 dL_law_1015 rfl rfl ?_
        refine x_iconst (v := 1) hc rfl dL_law_1016 ?_
        refine x_iadd hc dL_law_1017 ?_
        obtain ⟨h709, hf⟩ := chk_ok hf
        refine x_sld hc hs h709 dL_law_1018 ?_
        obtain ⟨x711, G710, r712, hf⟩ := bj2_ok hf
        refine x_callVr (As := [.int (xs (ix (v3 + 1)))]) (p0 := 124) (v := (.int x711)) (T := TX8) hc (c_X8_wire (kl K) (kV K) (xs (ix (v3 + 1))) G706 x711 G710 r712) mw_X8_wire tw_1406 (rfl : kd 124 = 8) (by decide) rfl rfl (Nat.le_of_ble_eq_true rfl) ⟨Nat.le_of_ble_eq_true rfl, Nat.le_of_ble_eq_true rfl⟩ dL_law_1019 rfl ?_
        refine x_icmp_eq (tgt := 1828) hc dL_law_1022 rfl (fun c_1022 => ?_) (fun c_1022 => ?_)
        · replace hf := if_p hf c_1022
          refine x_iinc (v := v3 + 7) (L' := [(0, .ref b), (1, .ref (kad K 0)), (2, .ref (kad K 124)), (3, .int (v3 + 7))]) hc 3 [1, 2, 3, 0] dL_law_1828 rfl rfl (by decide) rfl ?_
          refine x_goto (tgt := 18) hc dL_law_1831 rfl ?_
          exact x_sub [0, 1, 2, 3] (ih _ _ hf) rfl
        · replace hf := if_n hf c_1022
          refine x_iconst (v := 0) hc rfl dL_law_1025 ?_
          exact absurd hf (by decide)
      replace hf := if_n hf s_33_24
      by_cases s_33_25 : (xs (ix v3)) &&& 63 = 25
      · replace hf := if_p hf s_33_25
        refine x_tsIn (tgt := 1027) hc dL_law_33 25 s_33_25 (by decide) (by decide) rfl rfl ?_
        refine x_aload_n hc 1 dL_law_1027 rfl rfl ?_
        refine x_aload_n hc 0 dL_law_1028 rfl rfl ?_
        refine x_iload_n hc 3 dL_law_1029 rfl rfl ?_
        refine x_iconst (v := 1) hc rfl dL_law_1030 ?_
        refine x_iadd hc dL_law_1031 ?_
        obtain ⟨h713, hf⟩ := chk_ok hf
        refine x_sld hc hs h713 dL_law_1032 ?_
        refine x_aload_n hc 0 dL_law_1033 rfl rfl ?_
        refine x_iload_n hc 3 dL_law_1034 rfl rfl ?_
        refine x_iconst (v := 2) hc rfl dL_law_1035 ?_
        refine x_iadd hc dL_law_1036 ?_
        obtain ⟨h714, hf⟩ := chk_ok hf
        refine x_sld hc hs h714 dL_law_1037 ?_
        refine x_aload_n hc 0 dL_law_1038 rfl rfl ?_
        refine x_iload_n hc 3 dL_law_1039 rfl rfl ?_
        refine x_iconst (v := 3) hc rfl dL_law_1040 ?_
        refine x_iadd hc dL_law_1041 ?_
        obtain ⟨h715, hf⟩ := chk_ok hf
        refine x_sld hc hs h715 dL_law_1042 ?_
        refine x_aload_n hc 0 dL_law_1043 rfl rfl ?_
        refine x_iload_n hc 3 dL_law_1044 rfl rfl ?_
        refine x_iconst (v := 4) hc rfl dL_law_1045 ?_
        refine x_iadd hc dL_law_1046 ?_
        obtain ⟨h716, hf⟩ := chk_ok hf
        refine x_sld hc hs h716 dL_law_1047 ?_
        obtain ⟨x718, G717, r719, hf⟩ := bj2_ok hf
        refine x_callVr (As := [.int (xs (ix (v3 + 1))), .int (xs (ix (v3 + 2))), .int (xs (ix (v3 + 3))), .int (xs (ix (v3 + 4)))]) (p0 := 0) (v := (.int x718)) (T := TX7) hc (c_X7_way (kl K) (kV K) (xs (ix (v3 + 1))) (xs (ix (v3 + 2))) (xs (ix (v3 + 3))) (xs (ix (v3 + 4))) G x718 G717 r719) mw_X7_way tw_758 (rfl : kd 0 = 7) (by decide) rfl rfl (Nat.le_of_ble_eq_true rfl) ⟨Nat.le_of_ble_eq_true rfl, Nat.le_of_ble_eq_true rfl⟩ dL_law_1048 rfl ?_
        refine x_aload_n hc 2 dL_law_1051 rfl rfl ?_
        refine x_aload_n hc 0 dL_law_1052 rfl rfl ?_
        refine x_iload_n hc 3 dL_law_1053 rfl rfl ?_
        refine x_iconst (v := 1) hc rfl dL_law_1054 ?_
        refine x_iadd hc dL_law_1055 ?_
        obtain ⟨h720, hf⟩ := chk_ok hf
        refine x_sld hc hs h720 dL_law_1056 ?_
        refine x_aload_n hc 0 dL_law_1057 rfl rfl ?_
        refine x_iload_n hc 3 dL_law_1058 rfl rfl ?_
        refine x_iconst (v := 2) hc rfl dL_law_1059 ?_
        refine x_iadd hc dL_law_1060 ?_
        obtain ⟨h721, hf⟩ := chk_ok hf
        refine x_sld hc hs h721 dL_law_1061 ?_
        refine x_aload_n hc 0 dL_law_1062 rfl rfl ?_
        refine x_iload_n hc 3 dL_law_1063 rfl rfl ?_
        refine x_iconst (v := 3) hc rfl dL_law_1064 ?_
        refine x_iadd hc dL_law_1065 ?_
        obtain ⟨h722, hf⟩ := chk_ok hf
        refine x_sld hc hs h722 dL_law_1066 ?_
        refine x_aload_n hc 0 dL_law_1067 rfl rfl ?_
        refine x_iload_n hc 3 dL_law_1068 rfl rfl ?_
        refine x_iconst (v := 4) hc rfl dL_law_1069 ?_
        refine x_iadd hc dL_law_1070 ?_
        obtain ⟨h723, hf⟩ := chk_ok hf
        refine x_sld hc hs h723 dL_law_1071 ?_
        obtain ⟨x725, G724, r726, hf⟩ := bj2_ok hf
        refine x_callVr (As := [.int (xs (ix (v3 + 1))), .int (xs (ix (v3 + 2))), .int (xs (ix (v3 + 3))), .int (xs (ix (v3 + 4)))]) (p0 := 124) (v := (.int x725)) (T := TX8) hc (c_X8_way (kl K) (kV K) (xs (ix (v3 + 1))) (xs (ix (v3 + 2))) (xs (ix (v3 + 3))) (xs (ix (v3 + 4))) G717 x725 G724 r726) mw_X8_way tw_1410 (rfl : kd 124 = 8) (by decide) rfl rfl (Nat.le_of_ble_eq_true rfl) ⟨Nat.le_of_ble_eq_true rfl, Nat.le_of_ble_eq_true rfl⟩ dL_law_1072 rfl ?_
        refine x_icmp_eq (tgt := 1828) hc dL_law_1075 rfl (fun c_1075 => ?_) (fun c_1075 => ?_)
        · replace hf := if_p hf c_1075
          refine x_iinc (v := v3 + 7) (L' := [(0, .ref b), (1, .ref (kad K 0)), (2, .ref (kad K 124)), (3, .int (v3 + 7))]) hc 3 [1, 2, 3, 0] dL_law_1828 rfl rfl (by decide) rfl ?_
          refine x_goto (tgt := 18) hc dL_law_1831 rfl ?_
          exact x_sub [0, 1, 2, 3] (ih _ _ hf) rfl
        · replace hf := if_n hf c_1075
          refine x_iconst (v := 0) hc rfl dL_law_1078 ?_
          exact absurd hf (by decide)
      replace hf := if_n hf s_33_25
      by_cases s_33_26 : (xs (ix v3)) &&& 63 = 26
      · replace hf := if_p hf s_33_26
        refine x_tsIn (tgt := 1080) hc dL_law_33 26 s_33_26 (by decide) (by decide) rfl rfl ?_
        refine x_aload_n hc 1 dL_law_1080 rfl rfl ?_
        refine x_aload_n hc 0 dL_law_1081 rfl rfl ?_
        refine x_iload_n hc 3 dL_law_1082 rfl rfl ?_
        refine x_iconst (v := 1) hc rfl dL_law_1083 ?_
        refine x_iadd hc dL_law_1084 ?_
        obtain ⟨h727, hf⟩ := chk_ok hf
        refine x_sld hc hs h727 dL_law_1085 ?_
        refine x_aload_n hc 0 dL_law_1086 rfl rfl ?_
        refine x_iload_n hc 3 dL_law_1087 rfl rfl ?_
        refine x_iconst (v := 2) hc rfl dL_law_1088 ?_
        refine x_iadd hc dL_law_1089 ?_
        obtain ⟨h728, hf⟩ := chk_ok hf
        refine x_sld hc hs h728 dL_law_1090 ?_
        refine x_aload_n hc 0 dL_law_1091 rfl rfl ?_
        refine x_iload_n hc 3 dL_law_1092 rfl rfl ?_
        refine x_iconst (v := 3) hc rfl dL_law_1093 ?_
        refine x_iadd hc dL_law_1094 ?_
        obtain ⟨h729, hf⟩ := chk_ok hf
        refine x_sld hc hs h729 dL_law_1095 ?_
        refine x_aload_n hc 0 dL_law_1096 rfl rfl ?_
        refine x_iload_n hc 3 dL_law_1097 rfl rfl ?_
        refine x_iconst (v := 4) hc rfl dL_law_1098 ?_
        refine x_iadd hc dL_law_1099 ?_
        obtain ⟨h730, hf⟩ := chk_ok hf
        refine x_sld hc hs h730 dL_law_1100 ?_
        obtain ⟨x732, G731, r733, hf⟩ := bj2_ok hf
        refine x_callVr (As := [.int (xs (ix (v3 + 1))), .int (xs (ix (v3 + 2))), .int (xs (ix (v3 + 3))), .int (xs (ix (v3 + 4)))]) (p0 := 0) (v := (.int x732)) (T := TX7) hc (c_X7_often (kl K) (kV K) (xs (ix (v3 + 1))) (xs (ix (v3 + 2))) (xs (ix (v3 + 3))) (xs (ix (v3 + 4))) G x732 G731 r733) mw_X7_often tw_778 (rfl : kd 0 = 7) (by decide) rfl rfl (Nat.le_of_ble_eq_true rfl) ⟨Nat.le_of_ble_eq_true rfl, Nat.le_of_ble_eq_true rfl⟩ dL_law_1101 rfl ?_
        refine x_aload_n hc 2 dL_law_1104 rfl rfl ?_
        refine x_aload_n hc 0 dL_law_1105 rfl rfl ?_
        refine x_iload_n hc 3 dL_law_1106 rfl rfl ?_
        refine x_iconst (v := 1) hc rfl dL_law_1107 ?_
        refine x_iadd hc dL_law_1108 ?_
        obtain ⟨h734, hf⟩ := chk_ok hf
        refine x_sld hc hs h734 dL_law_1109 ?_
        refine x_aload_n hc 0 dL_law_1110 rfl rfl ?_
        refine x_iload_n hc 3 dL_law_1111 rfl rfl ?_
        refine x_iconst (v := 2) hc rfl dL_law_1112 ?_
        refine x_iadd hc dL_law_1113 ?_
        obtain ⟨h735, hf⟩ := chk_ok hf
        refine x_sld hc hs h735 dL_law_1114 ?_
        refine x_aload_n hc 0 dL_law_1115 rfl rfl ?_
        refine x_iload_n hc 3 dL_law_1116 rfl rfl ?_
        refine x_iconst (v := 3) hc rfl dL_law_1117 ?_
        refine x_iadd hc dL_law_1118 ?_
        obtain ⟨h736, hf⟩ := chk_ok hf
        refine x_sld hc hs h736 dL_law_1119 ?_
        refine x_aload_n hc 0 dL_law_1120 rfl rfl ?_
        refine x_iload_n hc 3 dL_law_1121 rfl rfl ?_
        refine x_iconst (v := 4) hc rfl dL_law_1122 ?_
        refine x_iadd hc dL_law_1123 ?_
        obtain ⟨h737, hf⟩ := chk_ok hf
        refine x_sld hc hs h737 dL_law_1124 ?_
        obtain ⟨x739, G738, r740, hf⟩ := bj2_ok hf
        refine x_callVr (As := [.int (xs (ix (v3 + 1))), .int (xs (ix (v3 + 2))), .int (xs (ix (v3 + 3))), .int (xs (ix (v3 + 4)))]) (p0 := 124) (v := (.int x739)) (T := TX8) hc (c_X8_often (kl K) (kV K) (xs (ix (v3 + 1))) (xs (ix (v3 + 2))) (xs (ix (v3 + 3))) (xs (ix (v3 + 4))) G731 x739 G738 r740) mw_X8_often tw_1437 (rfl : kd 124 = 8) (by decide) rfl rfl (Nat.le_of_ble_eq_true rfl) ⟨Nat.le_of_ble_eq_true rfl, Nat.le_of_ble_eq_true rfl⟩ dL_law_1125 rfl ?_
        refine x_icmp_eq (tgt := 1828) hc dL_law_1128 rfl (fun c_1128 => ?_) (fun c_1128 => ?_)
        · replace hf := if_p hf c_1128
          refine x_iinc (v := v3 + 7) (L' := [(0, .ref b), (1, .ref (kad K 0)), (2, .ref (kad K 124)), (3, .int (v3 + 7))]) hc 3 [1, 2, 3, 0] dL_law_1828 rfl rfl (by decide) rfl ?_
          refine x_goto (tgt := 18) hc dL_law_1831 rfl ?_
          exact x_sub [0, 1, 2, 3] (ih _ _ hf) rfl
        · replace hf := if_n hf c_1128
          refine x_iconst (v := 0) hc rfl dL_law_1131 ?_
          exact absurd hf (by decide)
      replace hf := if_n hf s_33_26
      by_cases s_33_27 : (xs (ix v3)) &&& 63 = 27
      · replace hf := if_p hf s_33_27
        refine x_tsIn (tgt := 1133) hc dL_law_33 27 s_33_27 (by decide) (by decide) rfl rfl ?_
        refine x_aload_n hc 1 dL_law_1133 rfl rfl ?_
        refine x_aload_n hc 0 dL_law_1134 rfl rfl ?_
        refine x_iload_n hc 3 dL_law_1135 rfl rfl ?_
        refine x_iconst (v := 1) hc rfl dL_law_1136 ?_
        refine x_iadd hc dL_law_1137 ?_
        obtain ⟨h741, hf⟩ := chk_ok hf
        refine x_sld hc hs h741 dL_law_1138 ?_
        refine x_aload_n hc 0 dL_law_1139 rfl rfl ?_
        refine x_iload_n hc 3 dL_law_1140 rfl rfl ?_
        refine x_iconst (v := 2) hc rfl dL_law_1141 ?_
        refine x_iadd hc dL_law_1142 ?_
        obtain ⟨h742, hf⟩ := chk_ok hf
        refine x_sld hc hs h742 dL_law_1143 ?_
        refine x_aload_n hc 0 dL_law_1144 rfl rfl ?_
        refine x_iload_n hc 3 dL_law_1145 rfl rfl ?_
        refine x_iconst (v := 3) hc rfl dL_law_1146 ?_
        refine x_iadd hc dL_law_1147 ?_
        obtain ⟨h743, hf⟩ := chk_ok hf
        refine x_sld hc hs h743 dL_law_1148 ?_
        obtain ⟨x745, G744, r746, hf⟩ := bj2_ok hf
        refine x_callVr (As := [.int (xs (ix (v3 + 1))), .int (xs (ix (v3 + 2))), .int (xs (ix (v3 + 3)))]) (p0 := 0) (v := (.int x745)) (T := TX7) hc (c_X7_turns (kl K) (kV K) (xs (ix (v3 + 1))) (xs (ix (v3 + 2))) (xs (ix (v3 + 3))) G x745 G744 r746) mw_X7_turns tw_786 (rfl : kd 0 = 7) (by decide) rfl rfl (Nat.le_of_ble_eq_true rfl) ⟨Nat.le_of_ble_eq_true rfl, Nat.le_of_ble_eq_true rfl⟩ dL_law_1149 rfl ?_
        refine x_aload_n hc 2 dL_law_1152 rfl rfl ?_
        refine x_aload_n hc 0 dL_law_1153 rfl rfl ?_
        refine x_iload_n hc 3 dL_law_1154 rfl rfl ?_
        refine x_iconst (v := 1) hc rfl dL_law_1155 ?_
        refine x_iadd hc dL_law_1156 ?_
        obtain ⟨h747, hf⟩ := chk_ok hf
        refine x_sld hc hs h747 dL_law_1157 ?_
        refine x_aload_n hc 0 dL_law_1158 rfl rfl ?_
        refine x_iload_n hc 3 dL_law_1159 rfl rfl ?_
        refine x_iconst (v := 2) hc rfl dL_law_1160 ?_
        refine x_iadd hc dL_law_1161 ?_
        obtain ⟨h748, hf⟩ := chk_ok hf
        refine x_sld hc hs h748 dL_law_1162 ?_
        refine x_aload_n hc 0 dL_law_1163 rfl rfl ?_
        refine x_iload_n hc 3 dL_law_1164 rfl rfl ?_
        refine x_iconst (v := 3) hc rfl dL_law_1165 ?_
        refine x_iadd hc dL_law_1166 ?_
        obtain ⟨h749, hf⟩ := chk_ok hf
        refine x_sld hc hs h749 dL_law_1167 ?_
        obtain ⟨x751, G750, r752, hf⟩ := bj2_ok hf
        refine x_callVr (As := [.int (xs (ix (v3 + 1))), .int (xs (ix (v3 + 2))), .int (xs (ix (v3 + 3)))]) (p0 := 124) (v := (.int x751)) (T := TX8) hc (c_X8_turns (kl K) (kV K) (xs (ix (v3 + 1))) (xs (ix (v3 + 2))) (xs (ix (v3 + 3))) G744 x751 G750 r752) mw_X8_turns tw_1441 (rfl : kd 124 = 8) (by decide) rfl rfl (Nat.le_of_ble_eq_true rfl) ⟨Nat.le_of_ble_eq_true rfl, Nat.le_of_ble_eq_true rfl⟩ dL_law_1168 rfl ?_
        refine x_icmp_eq (tgt := 1828) hc dL_law_1171 rfl (fun c_1171 => ?_) (fun c_1171 => ?_)
        · replace hf := if_p hf c_1171
          refine x_iinc (v := v3 + 7) (L' := [(0, .ref b), (1, .ref (kad K 0)), (2, .ref (kad K 124)), (3, .int (v3 + 7))]) hc 3 [1, 2, 3, 0] dL_law_1828 rfl rfl (by decide) rfl ?_
          refine x_goto (tgt := 18) hc dL_law_1831 rfl ?_
          exact x_sub [0, 1, 2, 3] (ih _ _ hf) rfl
        · replace hf := if_n hf c_1171
          refine x_iconst (v := 0) hc rfl dL_law_1174 ?_
          exact absurd hf (by decide)
      replace hf := if_n hf s_33_27
      by_cases s_33_28 : (xs (ix v3)) &&& 63 = 28
      · replace hf := if_p hf s_33_28
        refine x_tsIn (tgt := 1176) hc dL_law_33 28 s_33_28 (by decide) (by decide) rfl rfl ?_
        refine x_aload_n hc 1 dL_law_1176 rfl rfl ?_
        refine x_aload_n hc 0 dL_law_1177 rfl rfl ?_
        refine x_iload_n hc 3 dL_law_1178 rfl rfl ?_
        refine x_iconst (v := 1) hc rfl dL_law_1179 ?_
        refine x_iadd hc dL_law_1180 ?_
        obtain ⟨h753, hf⟩ := chk_ok hf
        refine x_sld hc hs h753 dL_law_1181 ?_
        refine x_aload_n hc 0 dL_law_1182 rfl rfl ?_
        refine x_iload_n hc 3 dL_law_1183 rfl rfl ?_
        refine x_iconst (v := 2) hc rfl dL_law_1184 ?_
        refine x_iadd hc dL_law_1185 ?_
        obtain ⟨h754, hf⟩ := chk_ok hf
        refine x_sld hc hs h754 dL_law_1186 ?_
        refine x_aload_n hc 0 dL_law_1187 rfl rfl ?_
        refine x_iload_n hc 3 dL_law_1188 rfl rfl ?_
        refine x_iconst (v := 3) hc rfl dL_law_1189 ?_
        refine x_iadd hc dL_law_1190 ?_
        obtain ⟨h755, hf⟩ := chk_ok hf
        refine x_sld hc hs h755 dL_law_1191 ?_
        refine x_aload_n hc 0 dL_law_1192 rfl rfl ?_
        refine x_iload_n hc 3 dL_law_1193 rfl rfl ?_
        refine x_iconst (v := 4) hc rfl dL_law_1194 ?_
        refine x_iadd hc dL_law_1195 ?_
        obtain ⟨h756, hf⟩ := chk_ok hf
        refine x_sld hc hs h756 dL_law_1196 ?_
        obtain ⟨x758, G757, r759, hf⟩ := bj2_ok hf
        refine x_callVr (As := [.int (xs (ix (v3 + 1))), .int (xs (ix (v3 + 2))), .int (xs (ix (v3 + 3))), .int (xs (ix (v3 + 4)))]) (p0 := 0) (v := (.int x758)) (T := TX7) hc (c_X7_most (kl K) (kV K) (xs (ix (v3 + 1))) (xs (ix (v3 + 2))) (xs (ix (v3 + 3))) (xs (ix (v3 + 4))) G x758 G757 r759) mw_X7_most tw_790 (rfl : kd 0 = 7) (by decide) rfl rfl (Nat.le_of_ble_eq_true rfl) ⟨Nat.le_of_ble_eq_true rfl, Nat.le_of_ble_eq_true rfl⟩ dL_law_1197 rfl ?_
        refine x_aload_n hc 2 dL_law_1200 rfl rfl ?_
        refine x_aload_n hc 0 dL_law_1201 rfl rfl ?_
        refine x_iload_n hc 3 dL_law_1202 rfl rfl ?_
        refine x_iconst (v := 1) hc rfl dL_law_1203 ?_
        refine x_iadd hc dL_law_1204 ?_
        obtain ⟨h760, hf⟩ := chk_ok hf
        refine x_sld hc hs h760 dL_law_1205 ?_
        refine x_aload_n hc 0 dL_law_1206 rfl rfl ?_
        refine x_iload_n hc 3 dL_law_1207 rfl rfl ?_
        refine x_iconst (v := 2) hc rfl dL_law_1208 ?_
        refine x_iadd hc dL_law_1209 ?_
        obtain ⟨h761, hf⟩ := chk_ok hf
        refine x_sld hc hs h761 dL_law_1210 ?_
        refine x_aload_n hc 0 dL_law_1211 rfl rfl ?_
        refine x_iload_n hc 3 dL_law_1212 rfl rfl ?_
        refine x_iconst (v := 3) hc rfl dL_law_1213 ?_
        refine x_iadd hc dL_law_1214 ?_
        obtain ⟨h762, hf⟩ := chk_ok hf
        refine x_sld hc hs h762 dL_law_1215 ?_
        refine x_aload_n hc 0 dL_law_1216 rfl rfl ?_
        refine x_iload_n hc 3 dL_law_1217 rfl rfl ?_
        refine x_iconst (v := 4) hc rfl dL_law_1218 ?_
        refine x_iadd hc dL_law_1219 ?_
        obtain ⟨h763, hf⟩ := chk_ok hf
        refine x_sld hc hs h763 dL_law_1220 ?_
        obtain ⟨x765, G764, r766, hf⟩ := bj2_ok hf
        refine x_callVr (As := [.int (xs (ix (v3 + 1))), .int (xs (ix (v3 + 2))), .int (xs (ix (v3 + 3))), .int (xs (ix (v3 + 4)))]) (p0 := 124) (v := (.int x765)) (T := TX8) hc (c_X8_most (kl K) (kV K) (xs (ix (v3 + 1))) (xs (ix (v3 + 2))) (xs (ix (v3 + 3))) (xs (ix (v3 + 4))) G757 x765 G764 r766) mw_X8_most tw_1445 (rfl : kd 124 = 8) (by decide) rfl rfl (Nat.le_of_ble_eq_true rfl) ⟨Nat.le_of_ble_eq_true rfl, Nat.le_of_ble_eq_true rfl⟩ dL_law_1221 rfl ?_
        refine x_icmp_eq (tgt := 1828) hc dL_law_1224 rfl (fun c_1224 => ?_) (fun c_1224 => ?_)
        · replace hf := if_p hf c_1224
          refine x_iinc (v := v3 + 7) (L' := [(0, .ref b), (1, .ref (kad K 0)), (2, .ref (kad K 124)), (3, .int (v3 + 7))]) hc 3 [1, 2, 3, 0] dL_law_1828 rfl rfl (by decide) rfl ?_
          refine x_goto (tgt := 18) hc dL_law_1831 rfl ?_
          exact x_sub [0, 1, 2, 3] (ih _ _ hf) rfl
        · replace hf := if_n hf c_1224
          refine x_iconst (v := 0) hc rfl dL_law_1227 ?_
          exact absurd hf (by decide)
      replace hf := if_n hf s_33_28
      by_cases s_33_29 : (xs (ix v3)) &&& 63 = 29
      · replace hf := if_p hf s_33_29
        refine x_tsIn (tgt := 1229) hc dL_law_33 29 s_33_29 (by decide) (by decide) rfl rfl ?_
        refine x_aload_n hc 1 dL_law_1229 rfl rfl ?_
        refine x_aload_n hc 0 dL_law_1230 rfl rfl ?_
        refine x_iload_n hc 3 dL_law_1231 rfl rfl ?_
        refine x_iconst (v := 1) hc rfl dL_law_1232 ?_
        refine x_iadd hc dL_law_1233 ?_
        obtain ⟨h767, hf⟩ := chk_ok hf
        refine x_sld hc hs h767 dL_law_1234 ?_
        refine x_aload_n hc 0 dL_law_1235 rfl rfl ?_
        refine x_iload_n hc 3 dL_law_1236 rfl rfl ?_
        refine x_iconst (v := 2) hc rfl dL_law_1237 ?_
        refine x_iadd hc dL_law_1238 ?_
        obtain ⟨h768, hf⟩ := chk_ok hf
        refine x_sld hc hs h768 dL_law_1239 ?_
        refine x_aload_n hc 0 dL_law_1240 rfl rfl ?_
        refine x_iload_n hc 3 dL_law_1241 rfl rfl ?_
        refine x_iconst (v := 3) hc rfl dL_law_1242 ?_
        refine x_iadd hc dL_law_1243 ?_
        obtain ⟨h769, hf⟩ := chk_ok hf
        refine x_sld hc hs h769 dL_law_1244 ?_
        refine x_aload_n hc 0 dL_law_1245 rfl rfl ?_
        refine x_iload_n hc 3 dL_law_1246 rfl rfl ?_
        refine x_iconst (v := 4) hc rfl dL_law_1247 ?_
        refine x_iadd hc dL_law_1248 ?_
        obtain ⟨h770, hf⟩ := chk_ok hf
        refine x_sld hc hs h770 dL_law_1249 ?_
        obtain ⟨x772, G771, r773, hf⟩ := bj2_ok hf
        refine x_callVr (As := [.int (xs (ix (v3 + 1))), .int (xs (ix (v3 + 2))), .int (xs (ix (v3 + 3))), .int (xs (ix (v3 + 4)))]) (p0 := 0) (v := (.int x772)) (T := TX7) hc (c_X7_off (kl K) (kV K) (xs (ix (v3 + 1))) (xs (ix (v3 + 2))) (xs (ix (v3 + 3))) (xs (ix (v3 + 4))) G x772 G771 r773) mw_X7_off tw_797 (rfl : kd 0 = 7) (by decide) rfl rfl (Nat.le_of_ble_eq_true rfl) ⟨Nat.le_of_ble_eq_true rfl, Nat.le_of_ble_eq_true rfl⟩ dL_law_1250 rfl ?_
        refine x_aload_n hc 2 dL_law_1253 rfl rfl ?_
        refine x_aload_n hc 0 dL_law_1254 rfl rfl ?_
        refine x_iload_n hc 3 dL_law_1255 rfl rfl ?_
        refine x_iconst (v := 1) hc rfl dL_law_1256 ?_
        refine x_iadd hc dL_law_1257 ?_
        obtain ⟨h774, hf⟩ := chk_ok hf
        refine x_sld hc hs h774 dL_law_1258 ?_
        refine x_aload_n hc 0 dL_law_1259 rfl rfl ?_
        refine x_iload_n hc 3 dL_law_1260 rfl rfl ?_
        refine x_iconst (v := 2) hc rfl dL_law_1261 ?_
        refine x_iadd hc dL_law_1262 ?_
        obtain ⟨h775, hf⟩ := chk_ok hf
        refine x_sld hc hs h775 dL_law_1263 ?_
        refine x_aload_n hc 0 dL_law_1264 rfl rfl ?_
        refine x_iload_n hc 3 dL_law_1265 rfl rfl ?_
        refine x_iconst (v := 3) hc rfl dL_law_1266 ?_
        refine x_iadd hc dL_law_1267 ?_
        obtain ⟨h776, hf⟩ := chk_ok hf
        refine x_sld hc hs h776 dL_law_1268 ?_
        refine x_aload_n hc 0 dL_law_1269 rfl rfl ?_
        refine x_iload_n hc 3 dL_law_1270 rfl rfl ?_
        refine x_iconst (v := 4) hc rfl dL_law_1271 ?_
        refine x_iadd hc dL_law_1272 ?_
        obtain ⟨h777, hf⟩ := chk_ok hf
        refine x_sld hc hs h777 dL_law_1273 ?_
        obtain ⟨x779, G778, r780, hf⟩ := bj2_ok hf
        refine x_callVr (As := [.int (xs (ix (v3 + 1))), .int (xs (ix (v3 + 2))), .int (xs (ix (v3 + 3))), .int (xs (ix (v3 + 4)))]) (p0 := 124) (v := (.int x779)) (T := TX8) hc (c_X8_off (kl K) (kV K) (xs (ix (v3 + 1))) (xs (ix (v3 + 2))) (xs (ix (v3 + 3))) (xs (ix (v3 + 4))) G771 x779 G778 r780) mw_X8_off tw_1452 (rfl : kd 124 = 8) (by decide) rfl rfl (Nat.le_of_ble_eq_true rfl) ⟨Nat.le_of_ble_eq_true rfl, Nat.le_of_ble_eq_true rfl⟩ dL_law_1274 rfl ?_
        refine x_icmp_eq (tgt := 1828) hc dL_law_1277 rfl (fun c_1277 => ?_) (fun c_1277 => ?_)
        · replace hf := if_p hf c_1277
          refine x_iinc (v := v3 + 7) (L' := [(0, .ref b), (1, .ref (kad K 0)), (2, .ref (kad K 124)), (3, .int (v3 + 7))]) hc 3 [1, 2, 3, 0] dL_law_1828 rfl rfl (by decide) rfl ?_
          refine x_goto (tgt := 18) hc dL_law_1831 rfl ?_
          exact x_sub [0, 1, 2, 3] (ih _ _ hf) rfl
        · replace hf := if_n hf c_1277
          refine x_iconst (v := 0) hc rfl dL_law_1280 ?_
          exact absurd hf (by decide)
      replace hf := if_n hf s_33_29
      by_cases s_33_30 : (xs (ix v3)) &&& 63 = 30
      · replace hf := if_p hf s_33_30
        refine x_tsIn (tgt := 1282) hc dL_law_33 30 s_33_30 (by decide) (by decide) rfl rfl ?_
        refine x_aload_n hc 1 dL_law_1282 rfl rfl ?_
        refine x_aload_n hc 0 dL_law_1283 rfl rfl ?_
        refine x_iload_n hc 3 dL_law_1284 rfl rfl ?_
        refine x_iconst (v := 1) hc rfl dL_law_1285 ?_
        refine x_iadd hc dL_law_1286 ?_
        obtain ⟨h781, hf⟩ := chk_ok hf
        refine x_sld hc hs h781 dL_law_1287 ?_
        refine x_aload_n hc 0 dL_law_1288 rfl rfl ?_
        refine x_iload_n hc 3 dL_law_1289 rfl rfl ?_
        refine x_iconst (v := 2) hc rfl dL_law_1290 ?_
        refine x_iadd hc dL_law_1291 ?_
        obtain ⟨h782, hf⟩ := chk_ok hf
        refine x_sld hc hs h782 dL_law_1292 ?_
        obtain ⟨x784, G783, r785, hf⟩ := bj2_ok hf
        refine x_callVr (As := [.int (xs (ix (v3 + 1))), .int (xs (ix (v3 + 2)))]) (p0 := 0) (v := (.int x784)) (T := TX7) hc (c_X7_rest (kl K) (kV K) (xs (ix (v3 + 1))) (xs (ix (v3 + 2))) G x784 G783 r785) mw_X7_rest tw_809 (rfl : kd 0 = 7) (by decide) rfl rfl (Nat.le_of_ble_eq_true rfl) ⟨Nat.le_of_ble_eq_true rfl, Nat.le_of_ble_eq_true rfl⟩ dL_law_1293 rfl ?_
        refine x_aload_n hc 2 dL_law_1296 rfl rfl ?_
        refine x_aload_n hc 0 dL_law_1297 rfl rfl ?_
        refine x_iload_n hc 3 dL_law_1298 rfl rfl ?_
        refine x_iconst (v := 1) hc rfl dL_law_1299 ?_
        refine x_iadd hc dL_law_1300 ?_
        obtain ⟨h786, hf⟩ := chk_ok hf
        refine x_sld hc hs h786 dL_law_1301 ?_
        refine x_aload_n hc 0 dL_law_1302 rfl rfl ?_
        refine x_iload_n hc 3 dL_law_1303 rfl rfl ?_
        refine x_iconst (v := 2) hc rfl dL_law_1304 ?_
        refine x_iadd hc dL_law_1305 ?_
        obtain ⟨h787, hf⟩ := chk_ok hf
        refine x_sld hc hs h787 dL_law_1306 ?_
        obtain ⟨x789, G788, r790, hf⟩ := bj2_ok hf
        refine x_callVr (As := [.int (xs (ix (v3 + 1))), .int (xs (ix (v3 + 2)))]) (p0 := 124) (v := (.int x789)) (T := TX8) hc (c_X8_rest (kl K) (kV K) (xs (ix (v3 + 1))) (xs (ix (v3 + 2))) G783 x789 G788 r790) mw_X8_rest tw_1459 (rfl : kd 124 = 8) (by decide) rfl rfl (Nat.le_of_ble_eq_true rfl) ⟨Nat.le_of_ble_eq_true rfl, Nat.le_of_ble_eq_true rfl⟩ dL_law_1307 rfl ?_
        refine x_icmp_eq (tgt := 1828) hc dL_law_1310 rfl (fun c_1310 => ?_) (fun c_1310 => ?_)
        · replace hf := if_p hf c_1310
          refine x_iinc (v := v3 + 7) (L' := [(0, .ref b), (1, .ref (kad K 0)), (2, .ref (kad K 124)), (3, .int (v3 + 7))]) hc 3 [1, 2, 3, 0] dL_law_1828 rfl rfl (by decide) rfl ?_
          refine x_goto (tgt := 18) hc dL_law_1831 rfl ?_
          exact x_sub [0, 1, 2, 3] (ih _ _ hf) rfl
        · replace hf := if_n hf c_1310
          refine x_iconst (v := 0) hc rfl dL_law_1313 ?_
          exact absurd hf (by decide)
      replace hf := if_n hf s_33_30
      by_cases s_33_31 : (xs (ix v3)) &&& 63 = 31
      · replace hf := if_p hf s_33_31
        refine x_tsIn (tgt := 1315) hc dL_law_33 31 s_33_31 (by decide) (by decide) rfl rfl ?_
        refine x_aload_n hc 1 dL_law_1315 rfl rfl ?_
        refine x_aload_n hc 0 dL_law_1316 rfl rfl ?_
        refine x_iload_n hc 3 dL_law_1317 rfl rfl ?_
        refine x_iconst (v := 1) hc rfl dL_law_1318 ?_
        refine x_iadd hc dL_law_1319 ?_
        obtain ⟨h791, hf⟩ := chk_ok hf
        refine x_sld hc hs h791 dL_law_1320 ?_
        refine x_aload_n hc 0 dL_law_1321 rfl rfl ?_
        refine x_iload_n hc 3 dL_law_1322 rfl rfl ?_
        refine x_iconst (v := 2) hc rfl dL_law_1323 ?_
        refine x_iadd hc dL_law_1324 ?_
        obtain ⟨h792, hf⟩ := chk_ok hf
        refine x_sld hc hs h792 dL_law_1325 ?_
        obtain ⟨x794, G793, r795, hf⟩ := bj2_ok hf
        refine x_callVr (As := [.int (xs (ix (v3 + 1))), .int (xs (ix (v3 + 2)))]) (p0 := 0) (v := (.int x794)) (T := TX7) hc (c_X7_salt (kl K) (kV K) (xs (ix (v3 + 1))) (xs (ix (v3 + 2))) G x794 G793 r795) mw_X7_salt tw_818 (rfl : kd 0 = 7) (by decide) rfl rfl (Nat.le_of_ble_eq_true rfl) ⟨Nat.le_of_ble_eq_true rfl, Nat.le_of_ble_eq_true rfl⟩ dL_law_1326 rfl ?_
        refine x_aload_n hc 2 dL_law_1329 rfl rfl ?_
        refine x_aload_n hc 0 dL_law_1330 rfl rfl ?_
        refine x_iload_n hc 3 dL_law_1331 rfl rfl ?_
        refine x_iconst (v := 1) hc rfl dL_law_1332 ?_
        refine x_iadd hc dL_law_1333 ?_
        obtain ⟨h796, hf⟩ := chk_ok hf
        refine x_sld hc hs h796 dL_law_1334 ?_
        refine x_aload_n hc 0 dL_law_1335 rfl rfl ?_
        refine x_iload_n hc 3 dL_law_1336 rfl rfl ?_
        refine x_iconst (v := 2) hc rfl dL_law_1337 ?_
        refine x_iadd hc dL_law_1338 ?_
        obtain ⟨h797, hf⟩ := chk_ok hf
        refine x_sld hc hs h797 dL_law_1339 ?_
        obtain ⟨x799, G798, r800, hf⟩ := bj2_ok hf
        refine x_callVr (As := [.int (xs (ix (v3 + 1))), .int (xs (ix (v3 + 2)))]) (p0 := 124) (v := (.int x799)) (T := TX8) hc (c_X8_salt (kl K) (kV K) (xs (ix (v3 + 1))) (xs (ix (v3 + 2))) G793 x799 G798 r800) mw_X8_salt tw_1471 (rfl : kd 124 = 8) (by decide) rfl rfl (Nat.le_of_ble_eq_true rfl) ⟨Nat.le_of_ble_eq_true rfl, Nat.le_of_ble_eq_true rfl⟩ dL_law_1340 rfl ?_
        refine x_icmp_eq (tgt := 1828) hc dL_law_1343 rfl (fun c_1343 => ?_) (fun c_1343 => ?_)
        · replace hf := if_p hf c_1343
          refine x_iinc (v := v3 + 7) (L' := [(0, .ref b), (1, .ref (kad K 0)), (2, .ref (kad K 124)), (3, .int (v3 + 7))]) hc 3 [1, 2, 3, 0] dL_law_1828 rfl rfl (by decide) rfl ?_
          refine x_goto (tgt := 18) hc dL_law_1831 rfl ?_
          exact x_sub [0, 1, 2, 3] (ih _ _ hf) rfl
        · replace hf := if_n hf c_1343
          refine x_iconst (v := 0) hc rfl dL_law_1346 ?_
          exact absurd hf (by decide)
      replace hf := if_n hf s_33_31
      by_cases s_33_32 : (xs (ix v3)) &&& 63 = 32
      · replace hf := if_p hf s_33_32
        refine x_tsIn (tgt := 1348) hc dL_law_33 32 s_33_32 (by decide) (by decide) rfl rfl ?_
        refine x_aload_n hc 1 dL_law_1348 rfl rfl ?_
        refine x_aload_n hc 0 dL_law_1349 rfl rfl ?_
        refine x_iload_n hc 3 dL_law_1350 rfl rfl ?_
        refine x_iconst (v := 1) hc rfl dL_law_1351 ?_
        refine x_iadd hc dL_law_1352 ?_
        obtain ⟨h801, hf⟩ := chk_ok hf
        refine x_sld hc hs h801 dL_law_1353 ?_
        refine x_aload_n hc 0 dL_law_1354 rfl rfl ?_
        refine x_iload_n hc 3 dL_law_1355 rfl rfl ?_
        refine x_iconst (v := 2) hc rfl dL_law_1356 ?_
        refine x_iadd hc dL_law_1357 ?_
        obtain ⟨h802, hf⟩ := chk_ok hf
        refine x_sld hc hs h802 dL_law_1358 ?_
        refine x_aload_n hc 0 dL_law_1359 rfl rfl ?_
        refine x_iload_n hc 3 dL_law_1360 rfl rfl ?_
        refine x_iconst (v := 3) hc rfl dL_law_1361 ?_
        refine x_iadd hc dL_law_1362 ?_
        obtain ⟨h803, hf⟩ := chk_ok hf
        refine x_sld hc hs h803 dL_law_1363 ?_
        refine x_aload_n hc 0 dL_law_1364 rfl rfl ?_
        refine x_iload_n hc 3 dL_law_1365 rfl rfl ?_
        refine x_iconst (v := 4) hc rfl dL_law_1366 ?_
        refine x_iadd hc dL_law_1367 ?_
        obtain ⟨h804, hf⟩ := chk_ok hf
        refine x_sld hc hs h804 dL_law_1368 ?_
        obtain ⟨x806, G805, r807, hf⟩ := bj2_ok hf
        refine x_callVr (As := [.int (xs (ix (v3 + 1))), .int (xs (ix (v3 + 2))), .int (xs (ix (v3 + 3))), .int (xs (ix (v3 + 4)))]) (p0 := 0) (v := (.int x806)) (T := TX7) hc (c_X7_thick (kl K) (kV K) (xs (ix (v3 + 1))) (xs (ix (v3 + 2))) (xs (ix (v3 + 3))) (xs (ix (v3 + 4))) G x806 G805 r807) mw_X7_thick tw_822 (rfl : kd 0 = 7) (by decide) rfl rfl (Nat.le_of_ble_eq_true rfl) ⟨Nat.le_of_ble_eq_true rfl, Nat.le_of_ble_eq_true rfl⟩ dL_law_1369 rfl ?_
        refine x_aload_n hc 2 dL_law_1372 rfl rfl ?_
        refine x_aload_n hc 0 dL_law_1373 rfl rfl ?_
        refine x_iload_n hc 3 dL_law_1374 rfl rfl ?_
        refine x_iconst (v := 1) hc rfl dL_law_1375 ?_
        refine x_iadd hc dL_law_1376 ?_
        obtain ⟨h808, hf⟩ := chk_ok hf
        refine x_sld hc hs h808 dL_law_1377 ?_
        refine x_aload_n hc 0 dL_law_1378 rfl rfl ?_
        refine x_iload_n hc 3 dL_law_1379 rfl rfl ?_
        refine x_iconst (v := 2) hc rfl dL_law_1380 ?_
        refine x_iadd hc dL_law_1381 ?_
        obtain ⟨h809, hf⟩ := chk_ok hf
        refine x_sld hc hs h809 dL_law_1382 ?_
        refine x_aload_n hc 0 dL_law_1383 rfl rfl ?_
        refine x_iload_n hc 3 dL_law_1384 rfl rfl ?_
        refine x_iconst (v := 3) hc rfl dL_law_1385 ?_
        refine x_iadd hc dL_law_1386 ?_
        obtain ⟨h810, hf⟩ := chk_ok hf
        refine x_sld hc hs h810 dL_law_1387 ?_
        refine x_aload_n hc 0 dL_law_1388 rfl rfl ?_
        refine x_iload_n hc 3 dL_law_1389 rfl rfl ?_
        refine x_iconst (v := 4) hc rfl dL_law_1390 ?_
        refine x_iadd hc dL_law_1391 ?_
        obtain ⟨h811, hf⟩ := chk_ok hf
        refine x_sld hc hs h811 dL_law_1392 ?_
        obtain ⟨x813, G812, r814, hf⟩ := bj2_ok hf
        refine x_callVr (As := [.int (xs (ix (v3 + 1))), .int (xs (ix (v3 + 2))), .int (xs (ix (v3 + 3))), .int (xs (ix (v3 + 4)))]) (p0 := 124) (v := (.int x813)) (T := TX8) hc (c_X8_thick (kl K) (kV K) (xs (ix (v3 + 1))) (xs (ix (v3 + 2))) (xs (ix (v3 + 3))) (xs (ix (v3 + 4))) G805 x813 G812 r814) mw_X8_thick tw_1475 (rfl : kd 124 = 8) (by decide) rfl rfl (Nat.le_of_ble_eq_true rfl) ⟨Nat.le_of_ble_eq_true rfl, Nat.le_of_ble_eq_true rfl⟩ dL_law_1393 rfl ?_
        refine x_icmp_eq (tgt := 1828) hc dL_law_1396 rfl (fun c_1396 => ?_) (fun c_1396 => ?_)
        · replace hf := if_p hf c_1396
          refine x_iinc (v := v3 + 7) (L' := [(0, .ref b), (1, .ref (kad K 0)), (2, .ref (kad K 124)), (3, .int (v3 + 7))]) hc 3 [1, 2, 3, 0] dL_law_1828 rfl rfl (by decide) rfl ?_
          refine x_goto (tgt := 18) hc dL_law_1831 rfl ?_
          exact x_sub [0, 1, 2, 3] (ih _ _ hf) rfl
        · replace hf := if_n hf c_1396
          refine x_iconst (v := 0) hc rfl dL_law_1399 ?_
          exact absurd hf (by decide)
      replace hf := if_n hf s_33_32
      by_cases s_33_33 : (xs (ix v3)) &&& 63 = 33
      · replace hf := if_p hf s_33_33
        refine x_tsIn (tgt := 1401) hc dL_law_33 33 s_33_33 (by decide) (by decide) rfl rfl ?_
        refine x_aload_n hc 1 dL_law_1401 rfl rfl ?_
        refine x_aload_n hc 0 dL_law_1402 rfl rfl ?_
        refine x_iload_n hc 3 dL_law_1403 rfl rfl ?_
        refine x_iconst (v := 1) hc rfl dL_law_1404 ?_
        refine x_iadd hc dL_law_1405 ?_
        obtain ⟨h815, hf⟩ := chk_ok hf
        refine x_sld hc hs h815 dL_law_1406 ?_
        refine x_aload_n hc 0 dL_law_1407 rfl rfl ?_
        refine x_iload_n hc 3 dL_law_1408 rfl rfl ?_
        refine x_iconst (v := 2) hc rfl dL_law_1409 ?_
        refine x_iadd hc dL_law_1410 ?_
        obtain ⟨h816, hf⟩ := chk_ok hf
        refine x_sld hc hs h816 dL_law_1411 ?_
        refine x_aload_n hc 0 dL_law_1412 rfl rfl ?_
        refine x_iload_n hc 3 dL_law_1413 rfl rfl ?_
        refine x_iconst (v := 3) hc rfl dL_law_1414 ?_
        refine x_iadd hc dL_law_1415 ?_
        obtain ⟨h817, hf⟩ := chk_ok hf
        refine x_sld hc hs h817 dL_law_1416 ?_
        refine x_aload_n hc 0 dL_law_1417 rfl rfl ?_
        refine x_iload_n hc 3 dL_law_1418 rfl rfl ?_
        refine x_iconst (v := 4) hc rfl dL_law_1419 ?_
        refine x_iadd hc dL_law_1420 ?_
        obtain ⟨h818, hf⟩ := chk_ok hf
        refine x_sld hc hs h818 dL_law_1421 ?_
        refine x_aload_n hc 0 dL_law_1422 rfl rfl ?_
        refine x_iload_n hc 3 dL_law_1423 rfl rfl ?_
        refine x_iconst (v := 5) hc rfl dL_law_1424 ?_
        refine x_iadd hc dL_law_1425 ?_
        obtain ⟨h819, hf⟩ := chk_ok hf
        refine x_sld hc hs h819 dL_law_1426 ?_
        refine x_aload_n hc 0 dL_law_1427 rfl rfl ?_
        refine x_iload_n hc 3 dL_law_1428 rfl rfl ?_
        refine x_bipush (v := 6) hc rfl dL_law_1429 ?_
        refine x_iadd hc dL_law_1431 ?_
        obtain ⟨h820, hf⟩ := chk_ok hf
        refine x_sld hc hs h820 dL_law_1432 ?_
        obtain ⟨x822, G821, r823, hf⟩ := bj2_ok hf
        refine x_callVr (As := [.int (xs (ix (v3 + 1))), .int (xs (ix (v3 + 2))), .int (xs (ix (v3 + 3))), .int (xs (ix (v3 + 4))), .int (xs (ix (v3 + 5))), .int (xs (ix (v3 + 6)))]) (p0 := 0) (v := (.int x822)) (T := TX7) hc (c_X7_same (kl K) (kV K) (xs (ix (v3 + 1))) (xs (ix (v3 + 2))) (xs (ix (v3 + 3))) (xs (ix (v3 + 4))) (xs (ix (v3 + 5))) (xs (ix (v3 + 6))) G x822 G821 r823) mw_X7_same tw_826 (rfl : kd 0 = 7) (by decide) rfl rfl (Nat.le_of_ble_eq_true rfl) ⟨Nat.le_of_ble_eq_true rfl, Nat.le_of_ble_eq_true rfl⟩ dL_law_1433 rfl ?_
        refine x_aload_n hc 2 dL_law_1436 rfl rfl ?_
        refine x_aload_n hc 0 dL_law_1437 rfl rfl ?_
        refine x_iload_n hc 3 dL_law_1438 rfl rfl ?_
        refine x_iconst (v := 1) hc rfl dL_law_1439 ?_
        refine x_iadd hc dL_law_1440 ?_
        obtain ⟨h824, hf⟩ := chk_ok hf
        refine x_sld hc hs h824 dL_law_1441 ?_
        refine x_aload_n hc 0 dL_law_1442 rfl rfl ?_
        refine x_iload_n hc 3 dL_law_1443 rfl rfl ?_
        refine x_iconst (v := 2) hc rfl dL_law_1444 ?_
        refine x_iadd hc dL_law_1445 ?_
        obtain ⟨h825, hf⟩ := chk_ok hf
        refine x_sld hc hs h825 dL_law_1446 ?_
        refine x_aload_n hc 0 dL_law_1447 rfl rfl ?_
        refine x_iload_n hc 3 dL_law_1448 rfl rfl ?_
        refine x_iconst (v := 3) hc rfl dL_law_1449 ?_
        refine x_iadd hc dL_law_1450 ?_
        obtain ⟨h826, hf⟩ := chk_ok hf
        refine x_sld hc hs h826 dL_law_1451 ?_
        refine x_aload_n hc 0 dL_law_1452 rfl rfl ?_
        refine x_iload_n hc 3 dL_law_1453 rfl rfl ?_
        refine x_iconst (v := 4) hc rfl dL_law_1454 ?_
        refine x_iadd hc dL_law_1455 ?_
        obtain ⟨h827, hf⟩ := chk_ok hf
        refine x_sld hc hs h827 dL_law_1456 ?_
        refine x_aload_n hc 0 dL_law_1457 rfl rfl ?_
        refine x_iload_n hc 3 dL_law_1458 rfl rfl ?_
        refine x_iconst (v := 5) hc rfl dL_law_1459 ?_
        refine x_iadd hc dL_law_1460 ?_
        obtain ⟨h828, hf⟩ := chk_ok hf
        refine x_sld hc hs h828 dL_law_1461 ?_
        refine x_aload_n hc 0 dL_law_1462 rfl rfl ?_
        refine x_iload_n hc 3 dL_law_1463 rfl rfl ?_
        refine x_bipush (v := 6) hc rfl dL_law_1464 ?_
        refine x_iadd hc dL_law_1466 ?_
        obtain ⟨h829, hf⟩ := chk_ok hf
        refine x_sld hc hs h829 dL_law_1467 ?_
        obtain ⟨x831, G830, r832, hf⟩ := bj2_ok hf
        refine x_callVr (As := [.int (xs (ix (v3 + 1))), .int (xs (ix (v3 + 2))), .int (xs (ix (v3 + 3))), .int (xs (ix (v3 + 4))), .int (xs (ix (v3 + 5))), .int (xs (ix (v3 + 6)))]) (p0 := 124) (v := (.int x831)) (T := TX8) hc (c_X8_same (kl K) (kV K) (xs (ix (v3 + 1))) (xs (ix (v3 + 2))) (xs (ix (v3 + 3))) (xs (ix (v3 + 4))) (xs (ix (v3 + 5))) (xs (ix (v3 + 6))) G821 x831 G830 r832) mw_X8_same tw_1479 (rfl : kd 124 = 8) (by decide) rfl rfl (Nat.le_of_ble_eq_true rfl) ⟨Nat.le_of_ble_eq_true rfl, Nat.le_of_ble_eq_true rfl⟩ dL_law_1468 rfl ?_
        refine x_icmp_eq (tgt := 1828) hc dL_law_1471 rfl (fun c_1471 => ?_) (fun c_1471 => ?_)
        · replace hf := if_p hf c_1471
          refine x_iinc (v := v3 + 7) (L' := [(0, .ref b), (1, .ref (kad K 0)), (2, .ref (kad K 124)), (3, .int (v3 + 7))]) hc 3 [1, 2, 3, 0] dL_law_1828 rfl rfl (by decide) rfl ?_
          refine x_goto (tgt := 18) hc dL_law_1831 rfl ?_
          exact x_sub [0, 1, 2, 3] (ih _ _ hf) rfl
        · replace hf := if_n hf c_1471
          refine x_iconst (v := 0) hc rfl dL_law_1474 ?_
          exact absurd hf (by decide)
      replace hf := if_n hf s_33_33
      by_cases s_33_34 : (xs (ix v3)) &&& 63 = 34
      · replace hf := if_p hf s_33_34
        refine x_tsIn (tgt := 1476) hc dL_law_33 34 s_33_34 (by decide) (by decide) rfl rfl ?_
        refine x_aload_n hc 1 dL_law_1476 rfl rfl ?_
        refine x_aload_n hc 0 dL_law_1477 rfl rfl ?_
        refine x_iload_n hc 3 dL_law_1478 rfl rfl ?_
        refine x_iconst (v := 1) hc rfl dL_law_1479 ?_
        refine x_iadd hc dL_law_1480 ?_
        obtain ⟨h833, hf⟩ := chk_ok hf
        refine x_sld hc hs h833 dL_law_1481 ?_
        refine x_aload_n hc 0 dL_law_1482 rfl rfl ?_
        refine x_iload_n hc 3 dL_law_1483 rfl rfl ?_
        refine x_iconst (v := 2) hc rfl dL_law_1484 ?_
        refine x_iadd hc dL_law_1485 ?_
        obtain ⟨h834, hf⟩ := chk_ok hf
        refine x_sld hc hs h834 dL_law_1486 ?_
        obtain ⟨x836, G835, r837, hf⟩ := bj2_ok hf
        refine x_callVr (As := [.int (xs (ix (v3 + 1))), .int (xs (ix (v3 + 2)))]) (p0 := 0) (v := (.int x836)) (T := TX7) hc (c_X7_order (kl K) (kV K) (xs (ix (v3 + 1))) (xs (ix (v3 + 2))) G x836 G835 r837) mw_X7_order tw_835 (rfl : kd 0 = 7) (by decide) rfl rfl (Nat.le_of_ble_eq_true rfl) ⟨Nat.le_of_ble_eq_true rfl, Nat.le_of_ble_eq_true rfl⟩ dL_law_1487 rfl ?_
        refine x_aload_n hc 2 dL_law_1490 rfl rfl ?_
        refine x_aload_n hc 0 dL_law_1491 rfl rfl ?_
        refine x_iload_n hc 3 dL_law_1492 rfl rfl ?_
        refine x_iconst (v := 1) hc rfl dL_law_1493 ?_
        refine x_iadd hc dL_law_1494 ?_
        obtain ⟨h838, hf⟩ := chk_ok hf
        refine x_sld hc hs h838 dL_law_1495 ?_
        refine x_aload_n hc 0 dL_law_1496 rfl rfl ?_
        refine x_iload_n hc 3 dL_law_1497 rfl rfl ?_
        refine x_iconst (v := 2) hc rfl dL_law_1498 ?_
        refine x_iadd hc dL_law_1499 ?_
        obtain ⟨h839, hf⟩ := chk_ok hf
        refine x_sld hc hs h839 dL_law_1500 ?_
        obtain ⟨x841, G840, r842, hf⟩ := bj2_ok hf
        refine x_callVr (As := [.int (xs (ix (v3 + 1))), .int (xs (ix (v3 + 2)))]) (p0 := 124) (v := (.int x841)) (T := TX8) hc (c_X8_order (kl K) (kV K) (xs (ix (v3 + 1))) (xs (ix (v3 + 2))) G835 x841 G840 r842) mw_X8_order tw_1490 (rfl : kd 124 = 8) (by decide) rfl rfl (Nat.le_of_ble_eq_true rfl) ⟨Nat.le_of_ble_eq_true rfl, Nat.le_of_ble_eq_true rfl⟩ dL_law_1501 rfl ?_
        refine x_icmp_eq (tgt := 1828) hc dL_law_1504 rfl (fun c_1504 => ?_) (fun c_1504 => ?_)
        · replace hf := if_p hf c_1504
          refine x_iinc (v := v3 + 7) (L' := [(0, .ref b), (1, .ref (kad K 0)), (2, .ref (kad K 124)), (3, .int (v3 + 7))]) hc 3 [1, 2, 3, 0] dL_law_1828 rfl rfl (by decide) rfl ?_
          refine x_goto (tgt := 18) hc dL_law_1831 rfl ?_
          exact x_sub [0, 1, 2, 3] (ih _ _ hf) rfl
        · replace hf := if_n hf c_1504
          refine x_iconst (v := 0) hc rfl dL_law_1507 ?_
          exact absurd hf (by decide)
      replace hf := if_n hf s_33_34
      by_cases s_33_35 : (xs (ix v3)) &&& 63 = 35
      · replace hf := if_p hf s_33_35
        refine x_tsIn (tgt := 1509) hc dL_law_33 35 s_33_35 (by decide) (by decide) rfl rfl ?_
        refine x_aload_n hc 1 dL_law_1509 rfl rfl ?_
        refine x_aload_n hc 0 dL_law_1510 rfl rfl ?_
        refine x_iload_n hc 3 dL_law_1511 rfl rfl ?_
        refine x_iconst (v := 1) hc rfl dL_law_1512 ?_
        refine x_iadd hc dL_law_1513 ?_
        obtain ⟨h843, hf⟩ := chk_ok hf
        refine x_sld hc hs h843 dL_law_1514 ?_
        refine x_aload_n hc 0 dL_law_1515 rfl rfl ?_
        refine x_iload_n hc 3 dL_law_1516 rfl rfl ?_
        refine x_iconst (v := 2) hc rfl dL_law_1517 ?_
        refine x_iadd hc dL_law_1518 ?_
        obtain ⟨h844, hf⟩ := chk_ok hf
        refine x_sld hc hs h844 dL_law_1519 ?_
        refine x_aload_n hc 0 dL_law_1520 rfl rfl ?_
        refine x_iload_n hc 3 dL_law_1521 rfl rfl ?_
        refine x_iconst (v := 3) hc rfl dL_law_1522 ?_
        refine x_iadd hc dL_law_1523 ?_
        obtain ⟨h845, hf⟩ := chk_ok hf
        refine x_sld hc hs h845 dL_law_1524 ?_
        refine x_aload_n hc 0 dL_law_1525 rfl rfl ?_
        refine x_iload_n hc 3 dL_law_1526 rfl rfl ?_
        refine x_iconst (v := 4) hc rfl dL_law_1527 ?_
        refine x_iadd hc dL_law_1528 ?_
        obtain ⟨h846, hf⟩ := chk_ok hf
        refine x_sld hc hs h846 dL_law_1529 ?_
        refine x_aload_n hc 0 dL_law_1530 rfl rfl ?_
        refine x_iload_n hc 3 dL_law_1531 rfl rfl ?_
        refine x_iconst (v := 5) hc rfl dL_law_1532 ?_
        refine x_iadd hc dL_law_1533 ?_
        obtain ⟨h847, hf⟩ := chk_ok hf
        refine x_sld hc hs h847 dL_law_1534 ?_
        obtain ⟨x849, G848, r850, hf⟩ := bj2_ok hf
        refine x_callVr (As := [.int (xs (ix (v3 + 1))), .int (xs (ix (v3 + 2))), .int (xs (ix (v3 + 3))), .int (xs (ix (v3 + 4))), .int (xs (ix (v3 + 5)))]) (p0 := 0) (v := (.int x849)) (T := TX7) hc (c_X7_both (kl K) (kV K) (xs (ix (v3 + 1))) (xs (ix (v3 + 2))) (xs (ix (v3 + 3))) (xs (ix (v3 + 4))) (xs (ix (v3 + 5))) G x849 G848 r850) mw_X7_both tw_886 (rfl : kd 0 = 7) (by decide) rfl rfl (Nat.le_of_ble_eq_true rfl) ⟨Nat.le_of_ble_eq_true rfl, Nat.le_of_ble_eq_true rfl⟩ dL_law_1535 rfl ?_
        refine x_aload_n hc 2 dL_law_1538 rfl rfl ?_
        refine x_aload_n hc 0 dL_law_1539 rfl rfl ?_
        refine x_iload_n hc 3 dL_law_1540 rfl rfl ?_
        refine x_iconst (v := 1) hc rfl dL_law_1541 ?_
        refine x_iadd hc dL_law_1542 ?_
        obtain ⟨h851, hf⟩ := chk_ok hf
        refine x_sld hc hs h851 dL_law_1543 ?_
        refine x_aload_n hc 0 dL_law_1544 rfl rfl ?_
        refine x_iload_n hc 3 dL_law_1545 rfl rfl ?_
        refine x_iconst (v := 2) hc rfl dL_law_1546 ?_
        refine x_iadd hc dL_law_1547 ?_
        obtain ⟨h852, hf⟩ := chk_ok hf
        refine x_sld hc hs h852 dL_law_1548 ?_
        refine x_aload_n hc 0 dL_law_1549 rfl rfl ?_
        refine x_iload_n hc 3 dL_law_1550 rfl rfl ?_
        refine x_iconst (v := 3) hc rfl dL_law_1551 ?_
        refine x_iadd hc dL_law_1552 ?_
        obtain ⟨h853, hf⟩ := chk_ok hf
        refine x_sld hc hs h853 dL_law_1553 ?_
        refine x_aload_n hc 0 dL_law_1554 rfl rfl ?_
        refine x_iload_n hc 3 dL_law_1555 rfl rfl ?_
        refine x_iconst (v := 4) hc rfl dL_law_1556 ?_
        refine x_iadd hc dL_law_1557 ?_
        obtain ⟨h854, hf⟩ := chk_ok hf
        refine x_sld hc hs h854 dL_law_1558 ?_
        refine x_aload_n hc 0 dL_law_1559 rfl rfl ?_
        refine x_iload_n hc 3 dL_law_1560 rfl rfl ?_
        refine x_iconst (v := 5) hc rfl dL_law_1561 ?_
        refine x_iadd hc dL_law_1562 ?_
        obtain ⟨h855, hf⟩ := chk_ok hf
        refine x_sld hc hs h855 dL_law_1563 ?_
        obtain ⟨x857, G856, r858, hf⟩ := bj2_ok hf
        refine x_callVr (As := [.int (xs (ix (v3 + 1))), .int (xs (ix (v3 + 2))), .int (xs (ix (v3 + 3))), .int (xs (ix (v3 + 4))), .int (xs (ix (v3 + 5)))]) (p0 := 124) (v := (.int x857)) (T := TX8) hc (c_X8_both (kl K) (kV K) (xs (ix (v3 + 1))) (xs (ix (v3 + 2))) (xs (ix (v3 + 3))) (xs (ix (v3 + 4))) (xs (ix (v3 + 5))) G848 x857 G856 r858) mw_X8_both tw_1506 (rfl : kd 124 = 8) (by decide) rfl rfl (Nat.le_of_ble_eq_true rfl) ⟨Nat.le_of_ble_eq_true rfl, Nat.le_of_ble_eq_true rfl⟩ dL_law_1564 rfl ?_
        refine x_icmp_eq (tgt := 1828) hc dL_law_1567 rfl (fun c_1567 => ?_) (fun c_1567 => ?_)
        · replace hf := if_p hf c_1567
          refine x_iinc (v := v3 + 7) (L' := [(0, .ref b), (1, .ref (kad K 0)), (2, .ref (kad K 124)), (3, .int (v3 + 7))]) hc 3 [1, 2, 3, 0] dL_law_1828 rfl rfl (by decide) rfl ?_
          refine x_goto (tgt := 18) hc dL_law_1831 rfl ?_
          exact x_sub [0, 1, 2, 3] (ih _ _ hf) rfl
        · replace hf := if_n hf c_1567
          refine x_iconst (v := 0) hc rfl dL_law_1570 ?_
          exact absurd hf (by decide)
      replace hf := if_n hf s_33_35
      by_cases s_33_36 : (xs (ix v3)) &&& 63 = 36
      · replace hf := if_p hf s_33_36
        refine x_tsIn (tgt := 1572) hc dL_law_33 36 s_33_36 (by decide) (by decide) rfl rfl ?_
        refine x_aload_n hc 1 dL_law_1572 rfl rfl ?_
        refine x_aload_n hc 0 dL_law_1573 rfl rfl ?_
        refine x_iload_n hc 3 dL_law_1574 rfl rfl ?_
        refine x_iconst (v := 1) hc rfl dL_law_1575 ?_
        refine x_iadd hc dL_law_1576 ?_
        obtain ⟨h859, hf⟩ := chk_ok hf
        refine x_sld hc hs h859 dL_law_1577 ?_
        refine x_aload_n hc 0 dL_law_1578 rfl rfl ?_
        refine x_iload_n hc 3 dL_law_1579 rfl rfl ?_
        refine x_iconst (v := 2) hc rfl dL_law_1580 ?_
        refine x_iadd hc dL_law_1581 ?_
        obtain ⟨h860, hf⟩ := chk_ok hf
        refine x_sld hc hs h860 dL_law_1582 ?_
        obtain ⟨x862, G861, r863, hf⟩ := bj2_ok hf
        refine x_callVr (As := [.int (xs (ix (v3 + 1))), .int (xs (ix (v3 + 2)))]) (p0 := 0) (v := (.int x862)) (T := TX7) hc (c_X7_safe (kl K) (kV K) (xs (ix (v3 + 1))) (xs (ix (v3 + 2))) G x862 G861 r863) mw_X7_safe tw_893 (rfl : kd 0 = 7) (by decide) rfl rfl (Nat.le_of_ble_eq_true rfl) ⟨Nat.le_of_ble_eq_true rfl, Nat.le_of_ble_eq_true rfl⟩ dL_law_1583 rfl ?_
        refine x_aload_n hc 2 dL_law_1586 rfl rfl ?_
        refine x_aload_n hc 0 dL_law_1587 rfl rfl ?_
        refine x_iload_n hc 3 dL_law_1588 rfl rfl ?_
        refine x_iconst (v := 1) hc rfl dL_law_1589 ?_
        refine x_iadd hc dL_law_1590 ?_
        obtain ⟨h864, hf⟩ := chk_ok hf
        refine x_sld hc hs h864 dL_law_1591 ?_
        refine x_aload_n hc 0 dL_law_1592 rfl rfl ?_
        refine x_iload_n hc 3 dL_law_1593 rfl rfl ?_
        refine x_iconst (v := 2) hc rfl dL_law_1594 ?_
        refine x_iadd hc dL_law_1595 ?_
        obtain ⟨h865, hf⟩ := chk_ok hf
        refine x_sld hc hs h865 dL_law_1596 ?_
        obtain ⟨x867, G866, r868, hf⟩ := bj2_ok hf
        refine x_callVr (As := [.int (xs (ix (v3 + 1))), .int (xs (ix (v3 + 2)))]) (p0 := 124) (v := (.int x867)) (T := TX8) hc (c_X8_safe (kl K) (kV K) (xs (ix (v3 + 1))) (xs (ix (v3 + 2))) G861 x867 G866 r868) mw_X8_safe tw_1513 (rfl : kd 124 = 8) (by decide) rfl rfl (Nat.le_of_ble_eq_true rfl) ⟨Nat.le_of_ble_eq_true rfl, Nat.le_of_ble_eq_true rfl⟩ dL_law_1597 rfl ?_
        refine x_icmp_eq (tgt := 1828) hc dL_law_1600 rfl (fun c_1600 => ?_) (fun c_1600 => ?_)
        · replace hf := if_p hf c_1600
          refine x_iinc (v := v3 + 7) (L' := [(0, .ref b), (1, .ref (kad K 0)), (2, .ref (kad K 124)), (3, .int (v3 + 7))]) hc 3 [1, 2, 3, 0] dL_law_1828 rfl rfl (by decide) rfl ?_
          refine x_goto (tgt := 18) hc dL_law_1831 rfl ?_
          exact x_sub [0, 1, 2, 3] (ih _ _ hf) rfl
        · replace hf := if_n hf c_1600
          refine x_iconst (v := 0) hc rfl dL_law_1603 ?_
          exact absurd hf (by decide)
      replace hf := if_n hf s_33_36
      by_cases s_33_37 : (xs (ix v3)) &&& 63 = 37
      · replace hf := if_p hf s_33_37
        refine x_tsIn (tgt := 1605) hc dL_law_33 37 s_33_37 (by decide) (by decide) rfl rfl ?_
        refine x_aload_n hc 1 dL_law_1605 rfl rfl ?_
        refine x_aload_n hc 0 dL_law_1606 rfl rfl ?_
        refine x_iload_n hc 3 dL_law_1607 rfl rfl ?_
        refine x_iconst (v := 1) hc rfl dL_law_1608 ?_
        refine x_iadd hc dL_law_1609 ?_
        obtain ⟨h869, hf⟩ := chk_ok hf
        refine x_sld hc hs h869 dL_law_1610 ?_
        obtain ⟨x871, G870, r872, hf⟩ := bj2_ok hf
        refine x_callVr (As := [.int (xs (ix (v3 + 1)))]) (p0 := 0) (v := (.int x871)) (T := TX7) hc (c_X7_which (kl K) (kV K) (xs (ix (v3 + 1))) G x871 G870 r872) mw_X7_which tw_897 (rfl : kd 0 = 7) (by decide) rfl rfl (Nat.le_of_ble_eq_true rfl) ⟨Nat.le_of_ble_eq_true rfl, Nat.le_of_ble_eq_true rfl⟩ dL_law_1611 rfl ?_
        refine x_aload_n hc 2 dL_law_1614 rfl rfl ?_
        refine x_aload_n hc 0 dL_law_1615 rfl rfl ?_
        refine x_iload_n hc 3 dL_law_1616 rfl rfl ?_
        refine x_iconst (v := 1) hc rfl dL_law_1617 ?_
        refine x_iadd hc dL_law_1618 ?_
        obtain ⟨h873, hf⟩ := chk_ok hf
        refine x_sld hc hs h873 dL_law_1619 ?_
        obtain ⟨x875, G874, r876, hf⟩ := bj2_ok hf
        refine x_callVr (As := [.int (xs (ix (v3 + 1)))]) (p0 := 124) (v := (.int x875)) (T := TX8) hc (c_X8_which (kl K) (kV K) (xs (ix (v3 + 1))) G870 x875 G874 r876) mw_X8_which tw_1517 (rfl : kd 124 = 8) (by decide) rfl rfl (Nat.le_of_ble_eq_true rfl) ⟨Nat.le_of_ble_eq_true rfl, Nat.le_of_ble_eq_true rfl⟩ dL_law_1620 rfl ?_
        refine x_icmp_eq (tgt := 1828) hc dL_law_1623 rfl (fun c_1623 => ?_) (fun c_1623 => ?_)
        · replace hf := if_p hf c_1623
          refine x_iinc (v := v3 + 7) (L' := [(0, .ref b), (1, .ref (kad K 0)), (2, .ref (kad K 124)), (3, .int (v3 + 7))]) hc 3 [1, 2, 3, 0] dL_law_1828 rfl rfl (by decide) rfl ?_
          refine x_goto (tgt := 18) hc dL_law_1831 rfl ?_
          exact x_sub [0, 1, 2, 3] (ih _ _ hf) rfl
        · replace hf := if_n hf c_1623
          refine x_iconst (v := 0) hc rfl dL_law_1626 ?_
          exact absurd hf (by decide)
      replace hf := if_n hf s_33_37
      by_cases s_33_38 : (xs (ix v3)) &&& 63 = 38
      · replace hf := if_p hf s_33_38
        refine x_tsIn (tgt := 1628) hc dL_law_33 38 s_33_38 (by decide) (by decide) rfl rfl ?_
        refine x_aload_n hc 1 dL_law_1628 rfl rfl ?_
        refine x_aload_n hc 0 dL_law_1629 rfl rfl ?_
        refine x_iload_n hc 3 dL_law_1630 rfl rfl ?_
        refine x_iconst (v := 1) hc rfl dL_law_1631 ?_
        refine x_iadd hc dL_law_1632 ?_
        obtain ⟨h877, hf⟩ := chk_ok hf
        refine x_sld hc hs h877 dL_law_1633 ?_
        refine x_aload_n hc 0 dL_law_1634 rfl rfl ?_
        refine x_iload_n hc 3 dL_law_1635 rfl rfl ?_
        refine x_iconst (v := 2) hc rfl dL_law_1636 ?_
        refine x_iadd hc dL_law_1637 ?_
        obtain ⟨h878, hf⟩ := chk_ok hf
        refine x_sld hc hs h878 dL_law_1638 ?_
        obtain ⟨x880, G879, r881, hf⟩ := bj2_ok hf
        refine x_callVr (As := [.int (xs (ix (v3 + 1))), .int (xs (ix (v3 + 2)))]) (p0 := 0) (v := (.int x880)) (T := TX7) hc (c_X7_odds (kl K) (kV K) (xs (ix (v3 + 1))) (xs (ix (v3 + 2))) G x880 G879 r881) mw_X7_odds tw_914 (rfl : kd 0 = 7) (by decide) rfl rfl (Nat.le_of_ble_eq_true rfl) ⟨Nat.le_of_ble_eq_true rfl, Nat.le_of_ble_eq_true rfl⟩ dL_law_1639 rfl ?_
        refine x_aload_n hc 2 dL_law_1642 rfl rfl ?_
        refine x_aload_n hc 0 dL_law_1643 rfl rfl ?_
        refine x_iload_n hc 3 dL_law_1644 rfl rfl ?_
        refine x_iconst (v := 1) hc rfl dL_law_1645 ?_
        refine x_iadd hc dL_law_1646 ?_
        obtain ⟨h882, hf⟩ := chk_ok hf
        refine x_sld hc hs h882 dL_law_1647 ?_
        refine x_aload_n hc 0 dL_law_1648 rfl rfl ?_
        refine x_iload_n hc 3 dL_law_1649 rfl rfl ?_
        refine x_iconst (v := 2) hc rfl dL_law_1650 ?_
        refine x_iadd hc dL_law_1651 ?_
        obtain ⟨h883, hf⟩ := chk_ok hf
        refine x_sld hc hs h883 dL_law_1652 ?_
        obtain ⟨x885, G884, r886, hf⟩ := bj2_ok hf
        refine x_callVr (As := [.int (xs (ix (v3 + 1))), .int (xs (ix (v3 + 2)))]) (p0 := 124) (v := (.int x885)) (T := TX8) hc (c_X8_odds (kl K) (kV K) (xs (ix (v3 + 1))) (xs (ix (v3 + 2))) G879 x885 G884 r886) mw_X8_odds tw_1529 (rfl : kd 124 = 8) (by decide) rfl rfl (Nat.le_of_ble_eq_true rfl) ⟨Nat.le_of_ble_eq_true rfl, Nat.le_of_ble_eq_true rfl⟩ dL_law_1653 rfl ?_
        refine x_icmp_eq (tgt := 1828) hc dL_law_1656 rfl (fun c_1656 => ?_) (fun c_1656 => ?_)
        · replace hf := if_p hf c_1656
          refine x_iinc (v := v3 + 7) (L' := [(0, .ref b), (1, .ref (kad K 0)), (2, .ref (kad K 124)), (3, .int (v3 + 7))]) hc 3 [1, 2, 3, 0] dL_law_1828 rfl rfl (by decide) rfl ?_
          refine x_goto (tgt := 18) hc dL_law_1831 rfl ?_
          exact x_sub [0, 1, 2, 3] (ih _ _ hf) rfl
        · replace hf := if_n hf c_1656
          refine x_iconst (v := 0) hc rfl dL_law_1659 ?_
          exact absurd hf (by decide)
      replace hf := if_n hf s_33_38
      by_cases s_33_39 : (xs (ix v3)) &&& 63 = 39
      · replace hf := if_p hf s_33_39
        refine x_tsIn (tgt := 1661) hc dL_law_33 39 s_33_39 (by decide) (by decide) rfl rfl ?_
        refine x_aload_n hc 1 dL_law_1661 rfl rfl ?_
        refine x_aload_n hc 0 dL_law_1662 rfl rfl ?_
        refine x_iload_n hc 3 dL_law_1663 rfl rfl ?_
        refine x_iconst (v := 1) hc rfl dL_law_1664 ?_
        refine x_iadd hc dL_law_1665 ?_
        obtain ⟨h887, hf⟩ := chk_ok hf
        refine x_sld hc hs h887 dL_law_1666 ?_
        refine x_aload_n hc 0 dL_law_1667 rfl rfl ?_
        refine x_iload_n hc 3 dL_law_1668 rfl rfl ?_
        refine x_iconst (v := 2) hc rfl dL_law_1669 ?_
        refine x_iadd hc dL_law_1670 ?_
        obtain ⟨h888, hf⟩ := chk_ok hf
        refine x_sld hc hs h888 dL_law_1671 ?_
        refine x_aload_n hc 0 dL_law_1672 rfl rfl ?_
        refine x_iload_n hc 3 dL_law_1673 rfl rfl ?_
        refine x_iconst (v := 3) hc rfl dL_law_1674 ?_
        refine x_iadd hc dL_law_1675 ?_
        obtain ⟨h889, hf⟩ := chk_ok hf
        refine x_sld hc hs h889 dL_law_1676 ?_
        refine x_aload_n hc 0 dL_law_1677 rfl rfl ?_
        refine x_iload_n hc 3 dL_law_1678 rfl rfl ?_
        refine x_iconst (v := 4) hc rfl dL_law_1679 ?_
        refine x_iadd hc dL_law_1680 ?_
        obtain ⟨h890, hf⟩ := chk_ok hf
        refine x_sld hc hs h890 dL_law_1681 ?_
        obtain ⟨x892, G891, r893, hf⟩ := bj2_ok hf
        refine x_callVr (As := [.int (xs (ix (v3 + 1))), .int (xs (ix (v3 + 2))), .int (xs (ix (v3 + 3))), .int (xs (ix (v3 + 4)))]) (p0 := 0) (v := (.int x892)) (T := TX7) hc (c_X7_rule (kl K) (kV K) (xs (ix (v3 + 1))) (xs (ix (v3 + 2))) (xs (ix (v3 + 3))) (xs (ix (v3 + 4))) G x892 G891 r893) mw_X7_rule tw_922 (rfl : kd 0 = 7) (by decide) rfl rfl (Nat.le_of_ble_eq_true rfl) ⟨Nat.le_of_ble_eq_true rfl, Nat.le_of_ble_eq_true rfl⟩ dL_law_1682 rfl ?_
        refine x_aload_n hc 2 dL_law_1685 rfl rfl ?_
        refine x_aload_n hc 0 dL_law_1686 rfl rfl ?_
        refine x_iload_n hc 3 dL_law_1687 rfl rfl ?_
        refine x_iconst (v := 1) hc rfl dL_law_1688 ?_
        refine x_iadd hc dL_law_1689 ?_
        obtain ⟨h894, hf⟩ := chk_ok hf
        refine x_sld hc hs h894 dL_law_1690 ?_
        refine x_aload_n hc 0 dL_law_1691 rfl rfl ?_
        refine x_iload_n hc 3 dL_law_1692 rfl rfl ?_
        refine x_iconst (v := 2) hc rfl dL_law_1693 ?_
        refine x_iadd hc dL_law_1694 ?_
        obtain ⟨h895, hf⟩ := chk_ok hf
        refine x_sld hc hs h895 dL_law_1695 ?_
        refine x_aload_n hc 0 dL_law_1696 rfl rfl ?_
        refine x_iload_n hc 3 dL_law_1697 rfl rfl ?_
        refine x_iconst (v := 3) hc rfl dL_law_1698 ?_
        refine x_iadd hc dL_law_1699 ?_
        obtain ⟨h896, hf⟩ := chk_ok hf
        refine x_sld hc hs h896 dL_law_1700 ?_
        refine x_aload_n hc 0 dL_law_1701 rfl rfl ?_
        refine x_iload_n hc 3 dL_law_1702 rfl rfl ?_
        refine x_iconst (v := 4) hc rfl dL_law_1703 ?_
        refine x_iadd hc dL_law_1704 ?_
        obtain ⟨h897, hf⟩ := chk_ok hf
        refine x_sld hc hs h897 dL_law_1705 ?_
        obtain ⟨x899, G898, r900, hf⟩ := bj2_ok hf
        refine x_callVr (As := [.int (xs (ix (v3 + 1))), .int (xs (ix (v3 + 2))), .int (xs (ix (v3 + 3))), .int (xs (ix (v3 + 4)))]) (p0 := 124) (v := (.int x899)) (T := TX8) hc (c_X8_rule (kl K) (kV K) (xs (ix (v3 + 1))) (xs (ix (v3 + 2))) (xs (ix (v3 + 3))) (xs (ix (v3 + 4))) G891 x899 G898 r900) mw_X8_rule tw_1537 (rfl : kd 124 = 8) (by decide) rfl rfl (Nat.le_of_ble_eq_true rfl) ⟨Nat.le_of_ble_eq_true rfl, Nat.le_of_ble_eq_true rfl⟩ dL_law_1706 rfl ?_
        refine x_icmp_eq (tgt := 1828) hc dL_law_1709 rfl (fun c_1709 => ?_) (fun c_1709 => ?_)
        · replace hf := if_p hf c_1709
          refine x_iinc (v := v3 + 7) (L' := [(0, .ref b), (1, .ref (kad K 0)), (2, .ref (kad K 124)), (3, .int (v3 + 7))]) hc 3 [1, 2, 3, 0] dL_law_1828 rfl rfl (by decide) rfl ?_
          refine x_goto (tgt := 18) hc dL_law_1831 rfl ?_
          exact x_sub [0, 1, 2, 3] (ih _ _ hf) rfl
        · replace hf := if_n hf c_1709
          refine x_iconst (v := 0) hc rfl dL_law_1712 ?_
          exact absurd hf (by decide)
      replace hf := if_n hf s_33_39
      by_cases s_33_40 : (xs (ix v3)) &&& 63 = 40
      · replace hf := if_p hf s_33_40
        refine x_tsIn (tgt := 1714) hc dL_law_33 40 s_33_40 (by decide) (by decide) rfl rfl ?_
        refine x_aload_n hc 1 dL_law_1714 rfl rfl ?_
        obtain ⟨x901, r902, hf⟩ := bj1_ok hf
        refine x_callVr (As := []) (p0 := 0) (v := (.int x901)) (T := TX7) hc (c_X7_asked (kl K) (kV K) G x901 r902) mw_X7_asked tw_926 (rfl : kd 0 = 7) (by decide) rfl rfl (Nat.le_of_ble_eq_true rfl) ⟨Nat.le_of_ble_eq_true rfl, Nat.le_of_ble_eq_true rfl⟩ dL_law_1715 rfl ?_
        refine x_aload_n hc 2 dL_law_1718 rfl rfl ?_
        obtain ⟨x903, r904, hf⟩ := bj1_ok hf
        refine x_callVr (As := []) (p0 := 124) (v := (.int x903)) (T := TX8) hc (c_X8_asked (kl K) (kV K) G x903 r904) mw_X8_asked tw_1123 (rfl : kd 124 = 8) (by decide) rfl rfl (Nat.le_of_ble_eq_true rfl) ⟨Nat.le_of_ble_eq_true rfl, Nat.le_of_ble_eq_true rfl⟩ dL_law_1719 rfl ?_
        refine x_icmp_eq (tgt := 1828) hc dL_law_1722 rfl (fun c_1722 => ?_) (fun c_1722 => ?_)
        · replace hf := if_p hf c_1722
          refine x_iinc (v := v3 + 7) (L' := [(0, .ref b), (1, .ref (kad K 0)), (2, .ref (kad K 124)), (3, .int (v3 + 7))]) hc 3 [1, 2, 3, 0] dL_law_1828 rfl rfl (by decide) rfl ?_
          refine x_goto (tgt := 18) hc dL_law_1831 rfl ?_
          exact x_sub [0, 1, 2, 3] (ih _ _ hf) rfl
        · replace hf := if_n hf c_1722
          refine x_iconst (v := 0) hc rfl dL_law_1725 ?_
          exact absurd hf (by decide)
      replace hf := if_n hf s_33_40
      by_cases s_33_41 : (xs (ix v3)) &&& 63 = 41
      · replace hf := if_p hf s_33_41
        refine x_tsIn (tgt := 1727) hc dL_law_33 41 s_33_41 (by decide) (by decide) rfl rfl ?_
        refine x_aload_n hc 1 dL_law_1727 rfl rfl ?_
        obtain ⟨w905, r906, hf⟩ := bj1_ok hf
        refine x_callVr (As := []) (p0 := 0) (v := (.long w905)) (T := TX7) hc (c_X7_upper (kl K) (kV K) G w905 r906) mw_X7_upper tw_930 (rfl : kd 0 = 7) (by decide) rfl rfl (Nat.le_of_ble_eq_true rfl) ⟨Nat.le_of_ble_eq_true rfl, Nat.le_of_ble_eq_true rfl⟩ dL_law_1728 rfl ?_
        refine x_aload_n hc 2 dL_law_1731 rfl rfl ?_
        obtain ⟨w907, r908, hf⟩ := bj1_ok hf
        refine x_callVr (As := []) (p0 := 124) (v := (.long w907)) (T := TX8) hc (c_X8_upper (kl K) (kV K) G w907 r908) mw_X8_upper tw_1127 (rfl : kd 124 = 8) (by decide) rfl rfl (Nat.le_of_ble_eq_true rfl) ⟨Nat.le_of_ble_eq_true rfl, Nat.le_of_ble_eq_true rfl⟩ dL_law_1732 rfl ?_
        refine x_lcmp hc dL_law_1735 ?_
        refine x_if_eq (tgt := 1828) hc dL_law_1736 rfl (fun c_1736 => ?_) (fun c_1736 => ?_)
        · replace hf := if_p hf c_1736
          refine x_iinc (v := v3 + 7) (L' := [(0, .ref b), (1, .ref (kad K 0)), (2, .ref (kad K 124)), (3, .int (v3 + 7))]) hc 3 [1, 2, 3, 0] dL_law_1828 rfl rfl (by decide) rfl ?_
          refine x_goto (tgt := 18) hc dL_law_1831 rfl ?_
          exact x_sub [0, 1, 2, 3] (ih _ _ hf) rfl
        · replace hf := if_n hf c_1736
          refine x_iconst (v := 0) hc rfl dL_law_1739 ?_
          exact absurd hf (by decide)
      replace hf := if_n hf s_33_41
      by_cases s_33_42 : (xs (ix v3)) &&& 63 = 42
      · replace hf := if_p hf s_33_42
        refine x_tsIn (tgt := 1741) hc dL_law_33 42 s_33_42 (by decide) (by decide) rfl rfl ?_
        refine x_aload_n hc 1 dL_law_1741 rfl rfl ?_
        obtain ⟨w909, r910, hf⟩ := bj1_ok hf
        refine x_callVr (As := []) (p0 := 0) (v := (.long w909)) (T := TX7) hc (c_X7_lower (kl K) (kV K) G w909 r910) mw_X7_lower tw_934 (rfl : kd 0 = 7) (by decide) rfl rfl (Nat.le_of_ble_eq_true rfl) ⟨Nat.le_of_ble_eq_true rfl, Nat.le_of_ble_eq_true rfl⟩ dL_law_1742 rfl ?_
        refine x_aload_n hc 2 dL_law_1745 rfl rfl ?_
        obtain ⟨w911, r912, hf⟩ := bj1_ok hf
        refine x_callVr (As := []) (p0 := 124) (v := (.long w911)) (T := TX8) hc (c_X8_lower (kl K) (kV K) G w911 r912) mw_X8_lower tw_1131 (rfl : kd 124 = 8) (by decide) rfl rfl (Nat.le_of_ble_eq_true rfl) ⟨Nat.le_of_ble_eq_true rfl, Nat.le_of_ble_eq_true rfl⟩ dL_law_1746 rfl ?_
        refine x_lcmp hc dL_law_1749 ?_
        refine x_if_eq (tgt := 1828) hc dL_law_1750 rfl (fun c_1750 => ?_) (fun c_1750 => ?_)
        · replace hf := if_p hf c_1750
          refine x_iinc (v := v3 + 7) (L' := [(0, .ref b), (1, .ref (kad K 0)), (2, .ref (kad K 124)), (3, .int (v3 + 7))]) hc 3 [1, 2, 3, 0] dL_law_1828 rfl rfl (by decide) rfl ?_
          refine x_goto (tgt := 18) hc dL_law_1831 rfl ?_
          exact x_sub [0, 1, 2, 3] (ih _ _ hf) rfl
        · replace hf := if_n hf c_1750
          refine x_iconst (v := 0) hc rfl dL_law_1753 ?_
          exact absurd hf (by decide)
      replace hf := if_n hf s_33_42
      by_cases s_33_43 : (xs (ix v3)) &&& 63 = 43
      · replace hf := if_p hf s_33_43
        refine x_tsIn (tgt := 1755) hc dL_law_33 43 s_33_43 (by decide) (by decide) rfl rfl ?_
        refine x_aload_n hc 1 dL_law_1755 rfl rfl ?_
        refine x_aload_n hc 0 dL_law_1756 rfl rfl ?_
        refine x_iload_n hc 3 dL_law_1757 rfl rfl ?_
        refine x_iconst (v := 1) hc rfl dL_law_1758 ?_
        refine x_iadd hc dL_law_1759 ?_
        obtain ⟨h913, hf⟩ := chk_ok hf
        refine x_sld hc hs h913 dL_law_1760 ?_
        obtain ⟨x914, r915, hf⟩ := bj1_ok hf
        refine x_callVr (As := [.int (xs (ix (v3 + 1)))]) (p0 := 0) (v := (.int x914)) (T := TX7) hc (c_X7_count (kl K) (kV K) (xs (ix (v3 + 1))) G x914 r915) mw_X7_count tw_938 (rfl : kd 0 = 7) (by decide) rfl rfl (Nat.le_of_ble_eq_true rfl) ⟨Nat.le_of_ble_eq_true rfl, Nat.le_of_ble_eq_true rfl⟩ dL_law_1761 rfl ?_
        refine x_aload_n hc 2 dL_law_1764 rfl rfl ?_
        refine x_aload_n hc 0 dL_law_1765 rfl rfl ?_
        refine x_iload_n hc 3 dL_law_1766 rfl rfl ?_
        refine x_iconst (v := 1) hc rfl dL_law_1767 ?_
        refine x_iadd hc dL_law_1768 ?_
        obtain ⟨h916, hf⟩ := chk_ok hf
        refine x_sld hc hs h916 dL_law_1769 ?_
        obtain ⟨x918, G917, r919, hf⟩ := bj2_ok hf
        refine x_callVr (As := [.int (xs (ix (v3 + 1)))]) (p0 := 124) (v := (.int x918)) (T := TX8) hc (c_X8_count (kl K) (kV K) (xs (ix (v3 + 1))) G x918 G917 r919) mw_X8_count tw_1541 (rfl : kd 124 = 8) (by decide) rfl rfl (Nat.le_of_ble_eq_true rfl) ⟨Nat.le_of_ble_eq_true rfl, Nat.le_of_ble_eq_true rfl⟩ dL_law_1770 rfl ?_
        refine x_icmp_eq (tgt := 1828) hc dL_law_1773 rfl (fun c_1773 => ?_) (fun c_1773 => ?_)
        · replace hf := if_p hf c_1773
          refine x_iinc (v := v3 + 7) (L' := [(0, .ref b), (1, .ref (kad K 0)), (2, .ref (kad K 124)), (3, .int (v3 + 7))]) hc 3 [1, 2, 3, 0] dL_law_1828 rfl rfl (by decide) rfl ?_
          refine x_goto (tgt := 18) hc dL_law_1831 rfl ?_
          exact x_sub [0, 1, 2, 3] (ih _ _ hf) rfl
        · replace hf := if_n hf c_1773
          refine x_iconst (v := 0) hc rfl dL_law_1776 ?_
          exact absurd hf (by decide)
      replace hf := if_n hf s_33_43
      by_cases s_33_44 : (xs (ix v3)) &&& 63 = 44
      · replace hf := if_p hf s_33_44
        refine x_tsIn (tgt := 1778) hc dL_law_33 44 s_33_44 (by decide) (by decide) rfl rfl ?_
        refine x_aload_n hc 1 dL_law_1778 rfl rfl ?_
        obtain ⟨x920, r921, hf⟩ := bj1_ok hf
        refine x_callVr (As := []) (p0 := 0) (v := (.int x920)) (T := TX7) hc (c_X7_finding (kl K) (kV K) G x920 r921) mw_X7_finding tw_966 (rfl : kd 0 = 7) (by decide) rfl rfl (Nat.le_of_ble_eq_true rfl) ⟨Nat.le_of_ble_eq_true rfl, Nat.le_of_ble_eq_true rfl⟩ dL_law_1779 rfl ?_
        refine x_aload_n hc 2 dL_law_1782 rfl rfl ?_
        obtain ⟨x922, r923, hf⟩ := bj1_ok hf
        refine x_callVr (As := []) (p0 := 124) (v := (.int x922)) (T := TX8) hc (c_X8_finding (kl K) (kV K) G x922 r923) mw_X8_finding tw_1112 (rfl : kd 124 = 8) (by decide) rfl rfl (Nat.le_of_ble_eq_true rfl) ⟨Nat.le_of_ble_eq_true rfl, Nat.le_of_ble_eq_true rfl⟩ dL_law_1783 rfl ?_
        refine x_icmp_eq (tgt := 1828) hc dL_law_1786 rfl (fun c_1786 => ?_) (fun c_1786 => ?_)
        · replace hf := if_p hf c_1786
          refine x_iinc (v := v3 + 7) (L' := [(0, .ref b), (1, .ref (kad K 0)), (2, .ref (kad K 124)), (3, .int (v3 + 7))]) hc 3 [1, 2, 3, 0] dL_law_1828 rfl rfl (by decide) rfl ?_
          refine x_goto (tgt := 18) hc dL_law_1831 rfl ?_
          exact x_sub [0, 1, 2, 3] (ih _ _ hf) rfl
        · replace hf := if_n hf c_1786
          refine x_iconst (v := 0) hc rfl dL_law_1789 ?_
          exact absurd hf (by decide)
      replace hf := if_n hf s_33_44
      by_cases s_33_45 : (xs (ix v3)) &&& 63 = 45
      · replace hf := if_p hf s_33_45
        refine x_tsIn (tgt := 1791) hc dL_law_33 45 s_33_45 (by decide) (by decide) rfl rfl ?_
        refine x_aload_n hc 1 dL_law_1791 rfl rfl ?_
        refine x_aload_n hc 0 dL_law_1792 rfl rfl ?_
        refine x_iload_n hc 3 dL_law_1793 rfl rfl ?_
        refine x_iconst (v := 1) hc rfl dL_law_1794 ?_
        refine x_iadd hc dL_law_1795 ?_
        obtain ⟨h924, hf⟩ := chk_ok hf
        refine x_sld hc hs h924 dL_law_1796 ?_
        obtain ⟨x925, r926, hf⟩ := bj1_ok hf
        refine x_callVr (As := [.int (xs (ix (v3 + 1)))]) (p0 := 0) (v := (.int x925)) (T := TX7) hc (c_X7_findings (kl K) (kV K) (xs (ix (v3 + 1))) G x925 r926) mw_X7_findings tw_970 (rfl : kd 0 = 7) (by decide) rfl rfl (Nat.le_of_ble_eq_true rfl) ⟨Nat.le_of_ble_eq_true rfl, Nat.le_of_ble_eq_true rfl⟩ dL_law_1797 rfl ?_
        refine x_aload_n hc 2 dL_law_1800 rfl rfl ?_
        refine x_aload_n hc 0 dL_law_1801 rfl rfl ?_
        refine x_iload_n hc 3 dL_law_1802 rfl rfl ?_
        refine x_iconst (v := 1) hc rfl dL_law_1803 ?_
        refine x_iadd hc dL_law_1804 ?_
        obtain ⟨h927, hf⟩ := chk_ok hf
        refine x_sld hc hs h927 dL_law_1805 ?_
        obtain ⟨x928, r929, hf⟩ := bj1_ok hf
        refine x_callVr (As := [.int (xs (ix (v3 + 1)))]) (p0 := 124) (v := (.int x928)) (T := TX8) hc (c_X8_findings (kl K) (kV K) (xs (ix (v3 + 1))) G x928 r929) mw_X8_findings tw_1116 (rfl : kd 124 = 8) (by decide) rfl rfl (Nat.le_of_ble_eq_true rfl) ⟨Nat.le_of_ble_eq_true rfl, Nat.le_of_ble_eq_true rfl⟩ dL_law_1806 rfl ?_
        refine x_icmp_eq (tgt := 1828) hc dL_law_1809 rfl (fun c_1809 => ?_) (fun c_1809 => ?_)
        · replace hf := if_p hf c_1809
          refine x_iinc (v := v3 + 7) (L' := [(0, .ref b), (1, .ref (kad K 0)), (2, .ref (kad K 124)), (3, .int (v3 + 7))]) hc 3 [1, 2, 3, 0] dL_law_1828 rfl rfl (by decide) rfl ?_
          refine x_goto (tgt := 18) hc dL_law_1831 rfl ?_
          exact x_sub [0, 1, 2, 3] (ih _ _ hf) rfl
        · replace hf := if_n hf c_1809
          refine x_iconst (v := 0) hc rfl dL_law_1812 ?_
          exact absurd hf (by decide)
      replace hf := if_n hf s_33_45
      by_cases s_33_46 : (xs (ix v3)) &&& 63 = 46
      · replace hf := if_p hf s_33_46
        refine x_tsIn (tgt := 1814) hc dL_law_33 46 s_33_46 (by decide) (by decide) rfl rfl ?_
        refine x_aload_n hc 1 dL_law_1814 rfl rfl ?_
        obtain ⟨w930, r931, hf⟩ := bj1_ok hf
        refine x_callVr (As := []) (p0 := 0) (v := (.long w930)) (T := TX7) hc (c_X7_digest (kl K) (kV K) G w930 r931) mw_X7_digest tw_974 (rfl : kd 0 = 7) (by decide) rfl rfl (Nat.le_of_ble_eq_true rfl) ⟨Nat.le_of_ble_eq_true rfl, Nat.le_of_ble_eq_true rfl⟩ dL_law_1815 rfl ?_
        refine x_aload_n hc 2 dL_law_1818 rfl rfl ?_
        obtain ⟨w933, G932, r934, hf⟩ := bj2_ok hf
        refine x_callVr (As := []) (p0 := 124) (v := (.long w933)) (T := TX8) hc (c_X8_digest (kl K) (kV K) G w933 G932 r934) mw_X8_digest tw_1549 (rfl : kd 124 = 8) (by decide) rfl rfl (Nat.le_of_ble_eq_true rfl) ⟨Nat.le_of_ble_eq_true rfl, Nat.le_of_ble_eq_true rfl⟩ dL_law_1819 rfl ?_
        refine x_lcmp hc dL_law_1822 ?_
        refine x_if_eq (tgt := 1828) hc dL_law_1823 rfl (fun c_1823 => ?_) (fun c_1823 => ?_)
        · replace hf := if_p hf c_1823
          refine x_iinc (v := v3 + 7) (L' := [(0, .ref b), (1, .ref (kad K 0)), (2, .ref (kad K 124)), (3, .int (v3 + 7))]) hc 3 [1, 2, 3, 0] dL_law_1828 rfl rfl (by decide) rfl ?_
          refine x_goto (tgt := 18) hc dL_law_1831 rfl ?_
          exact x_sub [0, 1, 2, 3] (ih _ _ hf) rfl
        · replace hf := if_n hf c_1823
          refine x_iconst (v := 0) hc rfl dL_law_1826 ?_
          exact absurd hf (by decide)
      replace hf := if_n hf s_33_46
      refine x_tsDef (tgt := 1828) hc dL_law_33 [0, 1, 2, 3, 4, 5, 6, 7, 8, 9, 10, 11, 12, 13, 14, 15, 16, 17, 18, 19, 20, 21, 22, 23, 24, 25, 26, 27, 28, 29, 30, 31, 32, 33, 34, 35, 36, 37, 38, 39, 40, 41, 42, 43, 44, 45, 46] 47 rfl (by decide +kernel) (List.forall_mem_cons.mpr ⟨s_33_0, List.forall_mem_cons.mpr ⟨s_33_1, List.forall_mem_cons.mpr ⟨s_33_2, List.forall_mem_cons.mpr ⟨s_33_3, List.forall_mem_cons.mpr ⟨s_33_4, List.forall_mem_cons.mpr ⟨s_33_5, List.forall_mem_cons.mpr ⟨s_33_6, List.forall_mem_cons.mpr ⟨s_33_7, List.forall_mem_cons.mpr ⟨s_33_8, List.forall_mem_cons.mpr ⟨s_33_9, List.forall_mem_cons.mpr ⟨s_33_10, List.forall_mem_cons.mpr ⟨s_33_11, List.forall_mem_cons.mpr ⟨s_33_12, List.forall_mem_cons.mpr ⟨s_33_13, List.forall_mem_cons.mpr ⟨s_33_14, List.forall_mem_cons.mpr ⟨s_33_15, List.forall_mem_cons.mpr ⟨s_33_16, List.forall_mem_cons.mpr ⟨s_33_17, List.forall_mem_cons.mpr ⟨s_33_18, List.forall_mem_cons.mpr ⟨s_33_19, List.forall_mem_cons.mpr ⟨s_33_20, List.forall_mem_cons.mpr ⟨s_33_21, List.forall_mem_cons.mpr ⟨s_33_22, List.forall_mem_cons.mpr ⟨s_33_23, List.forall_mem_cons.mpr ⟨s_33_24, List.forall_mem_cons.mpr ⟨s_33_25, List.forall_mem_cons.mpr ⟨s_33_26, List.forall_mem_cons.mpr ⟨s_33_27, List.forall_mem_cons.mpr ⟨s_33_28, List.forall_mem_cons.mpr ⟨s_33_29, List.forall_mem_cons.mpr ⟨s_33_30, List.forall_mem_cons.mpr ⟨s_33_31, List.forall_mem_cons.mpr ⟨s_33_32, List.forall_mem_cons.mpr ⟨s_33_33, List.forall_mem_cons.mpr ⟨s_33_34, List.forall_mem_cons.mpr ⟨s_33_35, List.forall_mem_cons.mpr ⟨s_33_36, List.forall_mem_cons.mpr ⟨s_33_37, List.forall_mem_cons.mpr ⟨s_33_38, List.forall_mem_cons.mpr ⟨s_33_39, List.forall_mem_cons.mpr ⟨s_33_40, List.forall_mem_cons.mpr ⟨s_33_41, List.forall_mem_cons.mpr ⟨s_33_42, List.forall_mem_cons.mpr ⟨s_33_43, List.forall_mem_cons.mpr ⟨s_33_44, List.forall_mem_cons.mpr ⟨s_33_45, List.forall_mem_cons.mpr ⟨s_33_46, fun _ h => absurd h List.not_mem_nil⟩⟩⟩⟩⟩⟩⟩⟩⟩⟩⟩⟩⟩⟩⟩⟩⟩⟩⟩⟩⟩⟩⟩⟩⟩⟩⟩⟩⟩⟩⟩⟩⟩⟩⟩⟩⟩⟩⟩⟩⟩⟩⟩⟩⟩⟩⟩) rfl ?_
      refine x_iinc (v := v3 + 7) (L' := [(0, .ref b), (1, .ref (kad K 0)), (2, .ref (kad K 124)), (3, .int (v3 + 7))]) hc 3 [1, 2, 3, 0] dL_law_1828 rfl rfl (by decide) rfl ?_
      refine x_goto (tgt := 18) hc dL_law_1831 rfl ?_
      exact x_sub [0, 1, 2, 3] (ih _ _ hf) rfl

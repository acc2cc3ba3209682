/-! the law's second part, call by call -/
theorem lawC_ev {sl n m T h : Nat} {xs : Nat → Int32} {p J lost later rest least ri kd_ : Int32} {w : Int64} {Z A1 A2 A3 A4 A5 A6 A7 A8 B9 A9 A10 A11 A12 A13 A14 A15 : G_}
  (h1 : f_L_law_l272_3 (iN T) (iN h) FU (iN 0) Z = some A1)
  (h2 : f_L_law_l299_11 (iN T) (iN h) FU (iN 0) (iN 0) A1 = some A2)
  (h3 : f_X7_plan (iN 0) (iN 3) (swG A2) = some (iN (m + 1), A3))
  (e250 : (swG A3).1 250 0 = iN (m + 1))
  (h4 : f_L_plan (iN 0) 249 A3 = some (iN 1, A4))
  (h5 : f_X7_dish (iN 0) (iN 0) A4 = some (iN T, A5))
  (h6 : f_X7_go (iN T) A5 = some (iN T, A6))
  (h7 : f_X7_slice (iN 0) A6 = some (p, A7))
  (h8 : f_X7_slice (iN 0) (swG A7) = some (p, A8))
  (h9 : f_X7_just (iN 0) (iN 4000) (swG A8) = some (iN n, B9))
  (eA9 : A9 = swG B9)
  (n9 : A9.1 248 0 = iN n)
  (as9 : f_X7_asked (swG A9) = some J)
  (h10 : f_X7_just (iN 0) (iN 4000) A9 = some (iN n, A10))
  (n10 : A10.1 248 0 = iN n)
  (as10 : f_X7_asked A10 = some J)
  (h11 : f_X7_which (iN 0) A10 = some (iN 0, A11))
  (as11 : f_X7_asked A11 = some (iN 0))
  (h12 : f_X7_odds (iN 0) (iN 0) A11 = some (iN 1, A12))
  (up12 : f_X7_upper A12 = some 1)
  (dw1 : f_X7_digest A12 = some w)
  (h13 : f_X7_cut (iN 7) A12 = some (lost, A13))
  (as13 : f_X7_asked A13 = some later)
  (h14 : f_X7_rest (iN 0) (iN 0) A13 = some (rest, A14))
  (as14 : f_X7_asked A14 = some least)
  (h15 : f_X7_rise A14 = some (ri, A15))
  (c1 : ¬ lost < iN 0) (c2 : ¬ J < lost) (c3 : ¬ later < iN 0) (c4 : ¬ ri < iN 0) (c5 : ¬ rest < iN 0) (c6 : ¬ iN 30 < rest) (c7 : ¬ lost < least)
  (c8 : rest = iN 0 → least = lost)
  (dw2 : f_X7_digest A15 = some w)
  (l249 : A15.1 249 0 = iN m) (hm : 1 ≤ m ∧ m ≤ 6)
  (lk_ : A15.1 249 (1 + 3 * (m - 1)) = kd_) (c9 : ¬ iN 5 ≤ kd_ → least ≤ later) :
  f_L_lawC sl xs (iN T) (iN h) Z = (bj2 (f_L_ways sl xs 248 A15) fun x193 G192 => if x193 = iN 0 then none else some (w, G192)) := by
  have i40 : inb (iN 0) 40 = true := by decide
  have i8 : inb (iN 0) 8 = true := by decide
  have x0 : ix (iN 0) = 0 := by decide
  have o1 : ¬ iN 1 = iN 0 := by decide
  have lc : lg_cmp 1 1 = iN 0 := (lgc_0 1 1).mpr rfl
  have lcw : lg_cmp w w = iN 0 := (lgc_0 w w).mpr rfl
  have im : iN 1 + iN 3 * (iN m - iN 1) = iN (1 + 3 * (m - 1)) := by rw [iN_sub hm.1, iN_mul, iN_add]
  have i40m : inb (iN (1 + 3 * (m - 1))) 40 = true := inb_iN (by omega) (by omega)
  have xm : ix (iN (1 + 3 * (m - 1))) = 1 + 3 * (m - 1) := ix_iN (by omega)
  have t8 : (if rest = iN 0 then (if least = lost then some () else none) else some ()) = some () := by
    by_cases c : rest = iN 0
    · rw [if_pos c, if_pos (c8 c)]
    · rw [if_neg c]
  have t9 : (if iN 5 ≤ kd_ then some () else (if least ≤ later then some () else none)) = some () := by
    by_cases c : iN 5 ≤ kd_
    · rw [if_pos c]
    · rw [if_neg c, if_pos (c9 c)]
  unfold f_L_lawC
  simp only [l_0, l_1, l_2, l_3, l_4, l_5, l_6, l_7, l_8, l_9, l_10, l_11, l_12, l_13, l_14, l_15, l_16, l_17, l_18, l_19, l_20, l_21, l_24, l_30, l_31, l_32, l_36, l_40, l_41, l_42, l_43, l_44, l_45, l_46, l_47, l_48, l_49, l_50, l_51, l_52, l_57, l_58, l_60, l_61, l_64, l_72, l_80, l_92, l_98, l_99, l_100, l_102, l_105, l_111, l_112, l_114, l_115, l_116, l_117, l_120, l_144, l_200, l_201, l_240, l_300, l_320, l_400, l_500, l_512, l_550, l_560, l_649, l_650, l_1000, l_1032, l_1400, l_2000, l_4000, l_10000, l_268435455, x0, i40, i8, chk_t]
  rw [h1, bj1_s, h2, bj1_s, h3, bj2_s, nm_s, e250, if_pos rfl, swG_swG, h4, bj2_s, nm_s, if_neg o1, swG_swG, h5, bj2_s, nm_s, if_pos rfl, swG_swG, h6, bj2_s, nm_s, if_pos rfl, swG_swG, h7, bj2_s, nm_s, h8, bj2_s, if_pos rfl, h9, bj2_s, nm_s, ← eA9, n9, if_pos rfl, as9, bj1_s, h10, bj2_s, n10, if_pos rfl, as10, bj1_s, if_pos rfl, h11, bj2_s, if_pos rfl, as11, bj1_s, if_pos rfl, h12, bj2_s, if_pos rfl, up12, bj1_s, if_pos lc, dw1, bj1_s, h13, bj2_s, as13, bj1_s, h14, bj2_s, as14, bj1_s, h15, bj2_s, if_neg c1, if_neg c2, if_neg c3, if_neg c4, if_neg c5, if_neg c6, if_neg c7, t8, bj1_s, dw2, bj1_s, if_pos lcw, l249, im, i40m, chk_t, xm, lk_, t9, bj1_s]

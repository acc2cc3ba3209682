/-! the law's salts() -/
theorem salts_ev {m T t : Nat} {one other crust : Int32} {V A1 Z B1 B2 A3 A4 A5 A6 A7 A8 A9 A10 A11 : G_} {kd_ x : Int32}
  (h1 : f_X7_salt (iN 0) (iN 0) V = some (iN t, A1)) (a1 : f_X7_asked A1 = some crust)
  (eZ : Z = z0 253 A1)
  (h2 : f_L_copy 248 253 (iN 8) Z = some B1) (eB : B2 = sI B1 253 2 (iN t))
  (ht : t ≤ 50)
  (h3 : f_L_slab (iN 1) 253 (swG B2) = some (iN 1, A3))
  (h4 : f_X7_dish (iN 1) (iN 0) A3 = some (iN T, A4))
  (t4 : f_L_ticks 249 (swG A4) = some (iN T))
  (h5 : f_X7_go (iN T) A4 = some (iN T, A5))
  (t5 : f_L_ticks 249 (swG A5) = some (iN T))
  (h6 : f_X7_skin (iN 0) (iN 2) A5 = some (iN 1, A6)) (t6 : f_L_tells (iN 1) A6 = some one)
  (h7 : f_X7_skin (iN 1) (iN 2) A6 = some (iN 1, A7)) (t7 : f_L_tells (iN 1) A7 = some other)
  (h8 : f_X7_thick (iN 0) (iN 0) (iN 0) (iN 4000) (swG A7) = some (iN 18, A8)) (t8 : f_X7_asked A8 = some (iN 3))
  (l249 : A8.1 249 0 = iN m) (hm : 1 ≤ m ∧ m ≤ 6) (lk_ : A8.1 249 (1 + 3 * (m - 1)) = kd_)
  (cr : crust = if other ≤ one then other else one)
  (h9 : f_X7_order (iN 1) (iN 4) A8 = some (x, A9)) (t9 : ¬ x < iN 0)
  (h10 : f_X7_at (iN 4) (iN 0) A9 = some (iN 1, A10)) (t10 : f_X7_asked A10 = some (iN 0))
  (h11 : f_X7_tear (iN 4) A10 = some (iN 1, A11)) : f_L_salts V = some (iN 1, A11) := by
  have i40 : inb (iN 0) 40 = true := by decide
  have i2 : inb (iN 2) 8 = true := by decide
  have x0 : ix (iN 0) = 0 := by decide
  have x2 : ix (iN 2) = 2 := by decide
  have o1 : ¬ iN 1 = iN 0 := by decide
  have im : iN 1 + iN 3 * (iN m - iN 1) = iN (1 + 3 * (m - 1)) := by rw [iN_sub hm.1, iN_mul, iN_add]
  have i40m : inb (iN (1 + 3 * (m - 1))) 40 = true := inb_iN (by omega) (by omega)
  have xm : ix (iN (1 + 3 * (m - 1))) = 1 + 3 * (m - 1) := ix_iN (by omega)
  have q1 : ¬ iN t < iN 0 := of_eq_false (iN_lt_f (by omega) (by omega))
  have q2 : ¬ iN 50 < iN t := of_eq_false (iN_lt_f (by omega) (by omega))
  have j : f_L_salts_j156_q40 (iN 18) A8 = some (iN 1, A11) := by
    unfold f_L_salts_j156_q40
    simp only [l_0, l_1, l_2, l_3, l_4, l_5, l_6, l_7, l_8, l_9, l_10, l_11, l_12, l_13, l_14, l_15, l_16, l_17, l_18, l_19, l_20, l_21, l_24, l_30, l_31, l_32, l_36, l_40, l_41, l_42, l_43, l_44, l_45, l_46, l_47, l_48, l_49, l_50, l_51, l_52, l_57, l_58, l_60, l_61, l_64, l_72, l_80, l_92, l_98, l_99, l_100, l_102, l_105, l_111, l_112, l_114, l_115, l_116, l_117, l_120, l_144, l_200, l_201, l_240, l_300, l_320, l_400, l_500, l_512, l_550, l_560, l_649, l_650, l_1000, l_1032, l_1400, l_2000, l_4000, l_10000, l_268435455, isZ_1, chk_t]
    rw [if_pos trivial, t8, bj1_s, if_pos rfl, h9, bj2_s, if_neg t9, h10, bj2_s, if_pos rfl, t10, bj1_s, if_pos rfl, h11, bj2_s, if_pos rfl]
  have e : (if other ≤ one then some other else some one) = some crust := by
    rw [cr]
    split <;> rfl
  have b : f_L_saltsB (iN t) crust Z = some (iN 1, A11) := by
    unfold f_L_saltsB
    simp only [l_0, l_1, l_2, l_3, l_4, l_5, l_6, l_7, l_8, l_9, l_10, l_11, l_12, l_13, l_14, l_15, l_16, l_17, l_18, l_19, l_20, l_21, l_24, l_30, l_31, l_32, l_36, l_40, l_41, l_42, l_43, l_44, l_45, l_46, l_47, l_48, l_49, l_50, l_51, l_52, l_57, l_58, l_60, l_61, l_64, l_72, l_80, l_92, l_98, l_99, l_100, l_102, l_105, l_111, l_112, l_114, l_115, l_116, l_117, l_120, l_144, l_200, l_201, l_240, l_300, l_320, l_400, l_500, l_512, l_550, l_560, l_649, l_650, l_1000, l_1032, l_1400, l_2000, l_4000, l_10000, l_268435455, x0, x2, i40, i2, chk_t]
    rw [h2, bj1_s, nm_s, ← eB, if_neg q1, if_neg q2, h3, bj2_s, nm_s, if_neg o1, swG_swG, h4, bj2_s, nm_s, t4, bj1_s, if_pos rfl, bj1_s, swG_swG, h5, bj2_s, nm_s, t5, bj1_s, if_pos rfl, swG_swG, h6, bj2_s, nm_s, swG_swG, t6, bj1_s, h7, bj2_s, nm_s, swG_swG, t7, bj1_s, h8, bj2_s, l249, im, i40m, chk_t, xm, lk_, j, e, bj1_s, if_pos rfl]
    split <;> rfl
  have a : f_L_saltsA V = some (iN t, crust, A1) := by
    unfold f_L_saltsA
    simp only [l_0, l_1, l_2, l_3, l_4, l_5, l_6, l_7, l_8, l_9, l_10, l_11, l_12, l_13, l_14, l_15, l_16, l_17, l_18, l_19, l_20, l_21, l_24, l_30, l_31, l_32, l_36, l_40, l_41, l_42, l_43, l_44, l_45, l_46, l_47, l_48, l_49, l_50, l_51, l_52, l_57, l_58, l_60, l_61, l_64, l_72, l_80, l_92, l_98, l_99, l_100, l_102, l_105, l_111, l_112, l_114, l_115, l_116, l_117, l_120, l_144, l_200, l_201, l_240, l_300, l_320, l_400, l_500, l_512, l_550, l_560, l_649, l_650, l_1000, l_1032, l_1400, l_2000, l_4000, l_10000, l_268435455]
    rw [h1, bj2_s, a1, bj1_s]
  unfold f_L_salts
  rw [a, bj3_s, ← eZ, b]

/-! the reference: what is told of a dish; begun, by a way, rests -/
theorem mmid_ok {m n : Nat} {D W : Nat → Int32} {G : G_} (h : bM m G) (hn : okN D n) : f_X8_middle (stM m D W G) = some (iN (n / 2)) := by
  have h2 := hn.2
  unfold f_X8_middle
  simp (disch := omega) only [chk_t, beq_self_eq_true, nm_s, bj1_s, bj2_s, bj3_s, mo_1, mo_0, l_0, l_1, l_2, l_3, l_4, l_5, l_6, l_7, l_8, l_9, l_10, l_11, l_12, l_13, l_14, l_15, l_16, l_17, l_18, l_19, l_20, l_21, l_30, l_31, l_32, l_36, l_40, l_41, l_42, l_43, l_44, l_45, l_46, l_47, l_48, l_49, l_50, l_51, l_52, l_57, l_58, l_60, l_64, l_72, l_80, l_92, l_98, l_99, l_100, l_102, l_105, l_111, l_112, l_114, l_115, l_116, l_117, l_120, l_144, l_200, l_201, l_240, l_300, l_320, l_400, l_500, l_550, l_560, l_649, l_650, l_1000, l_1400, l_2000, l_4000, l_10000, iN_add, iN_sub, iN_mul, iN_le_t, iN_le_f, iN_lt_t, iN_lt_f, iN_eq_f, inb_iN, ix_iN, isZ_0, isZ_1, ↓reduceIte, eq_self, v_ok h, hn.1, iN_div]
theorem midMv {m n : Nat} {D W : Nat → Int32} {G : G_} (h : bM m G) (hn : okN D n) : f_X8_v (iN (72 + n / 2)) (stM m D W G) = some (midM D) := by
  have h2 := hn.2
  unfold midM
  rw [okN_n hn, v_ok h (by omega)]
theorem midWv {m n : Nat} {D W : Nat → Int32} {G : G_} (h : bM m G) (hn : okN D n) : f_X8_v (iN (52 + n / 2)) (stM m D W G) = some (midW D) := by
  have h2 := hn.2
  unfold midW
  rw [okN_n hn, v_ok h (by omega)]
theorem mjust_ok {m n : Nat} {D W : Nat → Int32} {G : G_} {a b : Int32} (h : bM m G) (hn : okN D n) : f_X8_justMany a b (stM m D W G) = some (justS a b D) := by
  have h2 := hn.2
  have key : f_X8_justMany_l5_3 a b (stM m D W G) FU (iN 0) (iN 0) = some (justS a b D) := by
    unfold justS
    rw [okN_n hn]
    refine loop_sum (fun n s v => f_X8_justMany_l5_3 a b (stM m D W G) n s v) _ n ?_ ?_ (fu_lt (by omega))
    · intro f k s hk
      show f_X8_justMany_l5_3 a b (stM m D W G) (f + 1) s (iN k) = f_X8_justMany_l5_3 a b (stM m D W G) f _ (iN (k + 1))
      conv => lhs; unfold f_X8_justMany_l5_3
      simp (disch := omega) only [chk_t, beq_self_eq_true, nm_s, bj1_s, bj2_s, bj3_s, mo_1, mo_0, l_0, l_1, l_2, l_3, l_4, l_5, l_6, l_7, l_8, l_9, l_10, l_11, l_12, l_13, l_14, l_15, l_16, l_17, l_18, l_19, l_20, l_21, l_30, l_31, l_32, l_36, l_40, l_41, l_42, l_43, l_44, l_45, l_46, l_47, l_48, l_49, l_50, l_51, l_52, l_57, l_58, l_60, l_64, l_72, l_80, l_92, l_98, l_99, l_100, l_102, l_105, l_111, l_112, l_114, l_115, l_116, l_117, l_120, l_144, l_200, l_201, l_240, l_300, l_320, l_400, l_500, l_550, l_560, l_649, l_650, l_1000, l_1400, l_2000, l_4000, l_10000, iN_add, iN_sub, iN_mul, iN_le_t, iN_le_f, iN_lt_t, iN_lt_f, iN_eq_f, inb_iN, ix_iN, isZ_0, isZ_1, ↓reduceIte, eq_self, v_ok h, hn.1, in8, one_0]
    · intro f s
      show f_X8_justMany_l5_3 a b (stM m D W G) (f + 1) s (iN n) = _
      unfold f_X8_justMany_l5_3
      simp (disch := omega) only [chk_t, beq_self_eq_true, nm_s, bj1_s, bj2_s, bj3_s, mo_1, mo_0, l_0, l_1, l_2, l_3, l_4, l_5, l_6, l_7, l_8, l_9, l_10, l_11, l_12, l_13, l_14, l_15, l_16, l_17, l_18, l_19, l_20, l_21, l_30, l_31, l_32, l_36, l_40, l_41, l_42, l_43, l_44, l_45, l_46, l_47, l_48, l_49, l_50, l_51, l_52, l_57, l_58, l_60, l_64, l_72, l_80, l_92, l_98, l_99, l_100, l_102, l_105, l_111, l_112, l_114, l_115, l_116, l_117, l_120, l_144, l_200, l_201, l_240, l_300, l_320, l_400, l_500, l_550, l_560, l_649, l_650, l_1000, l_1400, l_2000, l_4000, l_10000, iN_add, iN_sub, iN_mul, iN_le_t, iN_le_f, iN_lt_t, iN_lt_f, iN_eq_f, inb_iN, ix_iN, isZ_0, isZ_1, ↓reduceIte, eq_self, v_ok h, hn.1]
  unfold f_X8_justMany
  simp (disch := omega) only [chk_t, beq_self_eq_true, nm_s, bj1_s, bj2_s, bj3_s, mo_1, mo_0, l_0, l_1, l_2, l_3, l_4, l_5, l_6, l_7, l_8, l_9, l_10, l_11, l_12, l_13, l_14, l_15, l_16, l_17, l_18, l_19, l_20, l_21, l_30, l_31, l_32, l_36, l_40, l_41, l_42, l_43, l_44, l_45, l_46, l_47, l_48, l_49, l_50, l_51, l_52, l_57, l_58, l_60, l_64, l_72, l_80, l_92, l_98, l_99, l_100, l_102, l_105, l_111, l_112, l_114, l_115, l_116, l_117, l_120, l_144, l_200, l_201, l_240, l_300, l_320, l_400, l_500, l_550, l_560, l_649, l_650, l_1000, l_1400, l_2000, l_4000, l_10000, iN_add, iN_sub, iN_mul, iN_le_t, iN_le_f, iN_lt_t, iN_lt_f, iN_eq_f, inb_iN, ix_iN, isZ_0, isZ_1, ↓reduceIte, eq_self, key]
theorem mpink_ok {m n : Nat} {D W : Nat → Int32} {G : G_} (h : bM m G) (hn : okN D n) : f_X8_pinkMany (stM m D W G) = some (pinkS D) := by
  unfold f_X8_pinkMany pinkS
  simp (disch := omega) only [chk_t, beq_self_eq_true, nm_s, bj1_s, bj2_s, bj3_s, mo_1, mo_0, l_0, l_1, l_2, l_3, l_4, l_5, l_6, l_7, l_8, l_9, l_10, l_11, l_12, l_13, l_14, l_15, l_16, l_17, l_18, l_19, l_20, l_21, l_30, l_31, l_32, l_36, l_40, l_41, l_42, l_43, l_44, l_45, l_46, l_47, l_48, l_49, l_50, l_51, l_52, l_57, l_58, l_60, l_64, l_72, l_80, l_92, l_98, l_99, l_100, l_102, l_105, l_111, l_112, l_114, l_115, l_116, l_117, l_120, l_144, l_200, l_201, l_240, l_300, l_320, l_400, l_500, l_550, l_560, l_649, l_650, l_1000, l_1400, l_2000, l_4000, l_10000, iN_add, iN_sub, iN_mul, iN_le_t, iN_le_f, iN_lt_t, iN_lt_f, iN_eq_f, inb_iN, ix_iN, isZ_0, isZ_1, ↓reduceIte, eq_self, mjust_ok h hn]
theorem mjuice_ok {m n : Nat} {D W : Nat → Int32} {G : G_} (h : bM m G) (hn : okN D n) : f_X8_juiceAll (stM m D W G) = some (juicesS D) := by
  have h2 := hn.2
  have key : f_X8_juiceAll_l4_3 (stM m D W G) FU (iN 0) (iN 0) = some (juicesS D) := by
    unfold juicesS
    rw [okN_n hn]
    refine loop_sum (fun n s v => f_X8_juiceAll_l4_3 (stM m D W G) n s v) _ n ?_ ?_ (fu_lt (by omega))
    · intro f k s hk
      show f_X8_juiceAll_l4_3 (stM m D W G) (f + 1) s (iN k) = f_X8_juiceAll_l4_3 (stM m D W G) f _ (iN (k + 1))
      conv => lhs; unfold f_X8_juiceAll_l4_3
      simp (disch := omega) only [chk_t, beq_self_eq_true, nm_s, bj1_s, bj2_s, bj3_s, mo_1, mo_0, l_0, l_1, l_2, l_3, l_4, l_5, l_6, l_7, l_8, l_9, l_10, l_11, l_12, l_13, l_14, l_15, l_16, l_17, l_18, l_19, l_20, l_21, l_30, l_31, l_32, l_36, l_40, l_41, l_42, l_43, l_44, l_45, l_46, l_47, l_48, l_49, l_50, l_51, l_52, l_57, l_58, l_60, l_64, l_72, l_80, l_92, l_98, l_99, l_100, l_102, l_105, l_111, l_112, l_114, l_115, l_116, l_117, l_120, l_144, l_200, l_201, l_240, l_300, l_320, l_400, l_500, l_550, l_560, l_649, l_650, l_1000, l_1400, l_2000, l_4000, l_10000, iN_add, iN_sub, iN_mul, iN_le_t, iN_le_f, iN_lt_t, iN_lt_f, iN_eq_f, inb_iN, ix_iN, isZ_0, isZ_1, ↓reduceIte, eq_self, v_ok h, hn.1]
    · intro f s
      show f_X8_juiceAll_l4_3 (stM m D W G) (f + 1) s (iN n) = _
      unfold f_X8_juiceAll_l4_3
      simp (disch := omega) only [chk_t, beq_self_eq_true, nm_s, bj1_s, bj2_s, bj3_s, mo_1, mo_0, l_0, l_1, l_2, l_3, l_4, l_5, l_6, l_7, l_8, l_9, l_10, l_11, l_12, l_13, l_14, l_15, l_16, l_17, l_18, l_19, l_20, l_21, l_30, l_31, l_32, l_36, l_40, l_41, l_42, l_43, l_44, l_45, l_46, l_47, l_48, l_49, l_50, l_51, l_52, l_57, l_58, l_60, l_64, l_72, l_80, l_92, l_98, l_99, l_100, l_102, l_105, l_111, l_112, l_114, l_115, l_116, l_117, l_120, l_144, l_200, l_201, l_240, l_300, l_320, l_400, l_500, l_550, l_560, l_649, l_650, l_1000, l_1400, l_2000, l_4000, l_10000, iN_add, iN_sub, iN_mul, iN_le_t, iN_le_f, iN_lt_t, iN_lt_f, iN_eq_f, inb_iN, ix_iN, isZ_0, isZ_1, ↓reduceIte, eq_self, v_ok h, hn.1]
  unfold f_X8_juiceAll
  simp (disch := omega) only [chk_t, beq_self_eq_true, nm_s, bj1_s, bj2_s, bj3_s, mo_1, mo_0, l_0, l_1, l_2, l_3, l_4, l_5, l_6, l_7, l_8, l_9, l_10, l_11, l_12, l_13, l_14, l_15, l_16, l_17, l_18, l_19, l_20, l_21, l_30, l_31, l_32, l_36, l_40, l_41, l_42, l_43, l_44, l_45, l_46, l_47, l_48, l_49, l_50, l_51, l_52, l_57, l_58, l_60, l_64, l_72, l_80, l_92, l_98, l_99, l_100, l_102, l_105, l_111, l_112, l_114, l_115, l_116, l_117, l_120, l_144, l_200, l_201, l_240, l_300, l_320, l_400, l_500, l_550, l_560, l_649, l_650, l_1000, l_1400, l_2000, l_4000, l_10000, iN_add, iN_sub, iN_mul, iN_le_t, iN_le_f, iN_lt_t, iN_lt_f, iN_eq_f, inb_iN, ix_iN, isZ_0, isZ_1, ↓reduceIte, eq_self, key]
theorem mloss_ok {m n : Nat} {D W : Nat → Int32} {G : G_} (h : bM m G) (hn : okN D n) : f_X8_cutLoss (stM m D W G) = some (lossS D) := by
  have h2 := hn.2
  have key : f_X8_cutLoss_l4_3 (stM m D W G) FU (iN 0) (iN 0) = some (lossS D) := by
    unfold lossS
    rw [okN_n hn]
    refine loop_sum (fun n s v => f_X8_cutLoss_l4_3 (stM m D W G) n s v) _ n ?_ ?_ (fu_lt (by omega))
    · intro f k s hk
      show f_X8_cutLoss_l4_3 (stM m D W G) (f + 1) s (iN k) = f_X8_cutLoss_l4_3 (stM m D W G) f (s + lossA (D (92 + k)) (D (52 + k))) (iN (k + 1))
      conv => lhs; unfold f_X8_cutLoss_l4_3
      simp (disch := omega) only [chk_t, beq_self_eq_true, nm_s, bj1_s, bj2_s, bj3_s, mo_1, mo_0, l_0, l_1, l_2, l_3, l_4, l_5, l_6, l_7, l_8, l_9, l_10, l_11, l_12, l_13, l_14, l_15, l_16, l_17, l_18, l_19, l_20, l_21, l_30, l_31, l_32, l_36, l_40, l_41, l_42, l_43, l_44, l_45, l_46, l_47, l_48, l_49, l_50, l_51, l_52, l_57, l_58, l_60, l_64, l_72, l_80, l_92, l_98, l_99, l_100, l_102, l_105, l_111, l_112, l_114, l_115, l_116, l_117, l_120, l_144, l_200, l_201, l_240, l_300, l_320, l_400, l_500, l_550, l_560, l_649, l_650, l_1000, l_1400, l_2000, l_4000, l_10000, iN_add, iN_sub, iN_mul, iN_le_t, iN_le_f, iN_lt_t, iN_lt_f, iN_eq_f, inb_iN, ix_iN, isZ_0, isZ_1, ↓reduceIte, eq_self, v_ok h, hn.1, lesser_ok, ite_so]
      rfl
    · intro f s
      show f_X8_cutLoss_l4_3 (stM m D W G) (f + 1) s (iN n) = _
      unfold f_X8_cutLoss_l4_3
      simp (disch := omega) only [chk_t, beq_self_eq_true, nm_s, bj1_s, bj2_s, bj3_s, mo_1, mo_0, l_0, l_1, l_2, l_3, l_4, l_5, l_6, l_7, l_8, l_9, l_10, l_11, l_12, l_13, l_14, l_15, l_16, l_17, l_18, l_19, l_20, l_21, l_30, l_31, l_32, l_36, l_40, l_41, l_42, l_43, l_44, l_45, l_46, l_47, l_48, l_49, l_50, l_51, l_52, l_57, l_58, l_60, l_64, l_72, l_80, l_92, l_98, l_99, l_100, l_102, l_105, l_111, l_112, l_114, l_115, l_116, l_117, l_120, l_144, l_200, l_201, l_240, l_300, l_320, l_400, l_500, l_550, l_560, l_649, l_650, l_1000, l_1400, l_2000, l_4000, l_10000, iN_add, iN_sub, iN_mul, iN_le_t, iN_le_f, iN_lt_t, iN_lt_f, iN_eq_f, inb_iN, ix_iN, isZ_0, isZ_1, ↓reduceIte, eq_self, v_ok h, hn.1]
  unfold f_X8_cutLoss
  simp (disch := omega) only [chk_t, beq_self_eq_true, nm_s, bj1_s, bj2_s, bj3_s, mo_1, mo_0, l_0, l_1, l_2, l_3, l_4, l_5, l_6, l_7, l_8, l_9, l_10, l_11, l_12, l_13, l_14, l_15, l_16, l_17, l_18, l_19, l_20, l_21, l_30, l_31, l_32, l_36, l_40, l_41, l_42, l_43, l_44, l_45, l_46, l_47, l_48, l_49, l_50, l_51, l_52, l_57, l_58, l_60, l_64, l_72, l_80, l_92, l_98, l_99, l_100, l_102, l_105, l_111, l_112, l_114, l_115, l_116, l_117, l_120, l_144, l_200, l_201, l_240, l_300, l_320, l_400, l_500, l_550, l_560, l_649, l_650, l_1000, l_1400, l_2000, l_4000, l_10000, iN_add, iN_sub, iN_mul, iN_le_t, iN_le_f, iN_lt_t, iN_lt_f, iN_eq_f, inb_iN, ix_iN, isZ_0, isZ_1, ↓reduceIte, eq_self, key]
theorem mcrust_ok {m : Nat} {D W : Nat → Int32} {G : G_} (h : bM m G) : f_X8_crust (stM m D W G) = some (crustS D) := by
  unfold f_X8_crust crustS
  simp (disch := omega) only [chk_t, beq_self_eq_true, nm_s, bj1_s, bj2_s, bj3_s, mo_1, mo_0, l_0, l_1, l_2, l_3, l_4, l_5, l_6, l_7, l_8, l_9, l_10, l_11, l_12, l_13, l_14, l_15, l_16, l_17, l_18, l_19, l_20, l_21, l_30, l_31, l_32, l_36, l_40, l_41, l_42, l_43, l_44, l_45, l_46, l_47, l_48, l_49, l_50, l_51, l_52, l_57, l_58, l_60, l_64, l_72, l_80, l_92, l_98, l_99, l_100, l_102, l_105, l_111, l_112, l_114, l_115, l_116, l_117, l_120, l_144, l_200, l_201, l_240, l_300, l_320, l_400, l_500, l_550, l_560, l_649, l_650, l_1000, l_1400, l_2000, l_4000, l_10000, iN_add, iN_sub, iN_mul, iN_le_t, iN_le_f, iN_lt_t, iN_lt_f, iN_eq_f, inb_iN, ix_iN, isZ_0, isZ_1, ↓reduceIte, eq_self, v_ok h, lesser_ok]
theorem mcol_ok {m i : Nat} {D W : Nat → Int32} {G : G_} (h : bM m G) (hi : i < 20) : f_X8_sliceOf (iN i) (stM m D W G) = some (colS D i) := by
  unfold f_X8_sliceOf colS
  simp (disch := omega) only [chk_t, beq_self_eq_true, nm_s, bj1_s, bj2_s, bj3_s, mo_1, mo_0, l_0, l_1, l_2, l_3, l_4, l_5, l_6, l_7, l_8, l_9, l_10, l_11, l_12, l_13, l_14, l_15, l_16, l_17, l_18, l_19, l_20, l_21, l_30, l_31, l_32, l_36, l_40, l_41, l_42, l_43, l_44, l_45, l_46, l_47, l_48, l_49, l_50, l_51, l_52, l_57, l_58, l_60, l_64, l_72, l_80, l_92, l_98, l_99, l_100, l_102, l_105, l_111, l_112, l_114, l_115, l_116, l_117, l_120, l_144, l_200, l_201, l_240, l_300, l_320, l_400, l_500, l_550, l_560, l_649, l_650, l_1000, l_1400, l_2000, l_4000, l_10000, iN_add, iN_sub, iN_mul, iN_le_t, iN_le_f, iN_lt_t, iN_lt_f, iN_eq_f, inb_iN, ix_iN, isZ_0, isZ_1, ↓reduceIte, eq_self, v_ok h, ite_so]
/-- what was up in the latest tick on iron -/
def upOK (D : Nat → Int32) : Prop := (D 45 = iN 1 → D 46 = iN 1 - D 44) ∧ (D 44 = iN 0 ∨ D 44 = iN 1)
theorem mkind_ok {m s : Nat} {D W : Nat → Int32} {G : G_} (h : bM m G) (hs : s < 2) (hu : upOK D) : f_X8_kind (iN s) (stM m D W G) = some (kindS s D) := by
  have e : D 45 = iN 1 → (if D 46 = iN s then iN 2 else iN 0) = (if D 44 = iN s then iN 0 else iN 2) := by
    intro c
    rw [hu.1 c]
    have : s = 0 ∨ s = 1 := by omega
    rcases hu.2 with e | e <;> rw [e] <;> rcases this with rfl | rfl <;> decide
  unfold f_X8_kind kindS
  simp (disch := omega) only [chk_t, beq_self_eq_true, nm_s, bj1_s, bj2_s, bj3_s, mo_1, mo_0, l_0, l_1, l_2, l_3, l_4, l_5, l_6, l_7, l_8, l_9, l_10, l_11, l_12, l_13, l_14, l_15, l_16, l_17, l_18, l_19, l_20, l_21, l_30, l_31, l_32, l_36, l_40, l_41, l_42, l_43, l_44, l_45, l_46, l_47, l_48, l_49, l_50, l_51, l_52, l_57, l_58, l_60, l_64, l_72, l_80, l_92, l_98, l_99, l_100, l_102, l_105, l_111, l_112, l_114, l_115, l_116, l_117, l_120, l_144, l_200, l_201, l_240, l_300, l_320, l_400, l_500, l_550, l_560, l_649, l_650, l_1000, l_1400, l_2000, l_4000, l_10000, iN_add, iN_sub, iN_mul, iN_le_t, iN_le_f, iN_lt_t, iN_lt_f, iN_eq_f, inb_iN, ix_iN, isZ_0, isZ_1, ↓reduceIte, eq_self, v_ok h, ite_so]
  by_cases c : D 45 = iN 1
  · simp only [if_pos c, e c]
  · simp only [if_neg c]
theorem mbegins_ok {m n : Nat} {D W : Nat → Int32} {G : G_} (h : bM m G) (hn : okN D n) : f_X8_begins (stM m D W G) = some (stM m (bgS D) W G) := by
  have h2 := hn.2
  have hnn := okN_n hn
  have l1 : f_X8_begins_l3_3 FU (iN 41) (stM m D W G) = some (stM m (spD D 41 112 (fun _ => iN 0)) W G) := by
    have key := loop_cl (fun n' v s => f_X8_begins_l3_3 n' v s) (fun j => stM m (spD D 41 j (fun _ => iN 0)) W G) 41 112 (some (stM m (spD D 41 112 (fun _ => iN 0)) W G)) ?_ ?_ (by omega) (n := FU) (fu_lt (by omega))
    · rw [spD_nil] at key
      exact key
    · intro f j h3 h4
      show f_X8_begins_l3_3 (f + 1) (iN j) _ = f_X8_begins_l3_3 f (iN (j + 1)) _
      conv => lhs; unfold f_X8_begins_l3_3
      rw [← spD_up (b := j) (x := iN 0) h3 rfl]
      simp (disch := omega) only [chk_t, beq_self_eq_true, nm_s, bj1_s, bj2_s, bj3_s, mo_1, mo_0, l_0, l_1, l_2, l_3, l_4, l_5, l_6, l_7, l_8, l_9, l_10, l_11, l_12, l_13, l_14, l_15, l_16, l_17, l_18, l_19, l_20, l_21, l_30, l_31, l_32, l_36, l_40, l_41, l_42, l_43, l_44, l_45, l_46, l_47, l_48, l_49, l_50, l_51, l_52, l_57, l_58, l_60, l_64, l_72, l_80, l_92, l_98, l_99, l_100, l_102, l_105, l_111, l_112, l_114, l_115, l_116, l_117, l_120, l_144, l_200, l_201, l_240, l_300, l_320, l_400, l_500, l_550, l_560, l_649, l_650, l_1000, l_1400, l_2000, l_4000, l_10000, iN_add, iN_sub, iN_mul, iN_le_t, iN_le_f, iN_lt_t, iN_lt_f, iN_eq_f, inb_iN, ix_iN, isZ_0, isZ_1, ↓reduceIte, eq_self, put_ok h]
    · intro f
      show f_X8_begins_l3_3 (f + 1) (iN 112) _ = _
      unfold f_X8_begins_l3_3
      simp (disch := omega) only [chk_t, beq_self_eq_true, nm_s, bj1_s, bj2_s, bj3_s, mo_1, mo_0, l_0, l_1, l_2, l_3, l_4, l_5, l_6, l_7, l_8, l_9, l_10, l_11, l_12, l_13, l_14, l_15, l_16, l_17, l_18, l_19, l_20, l_21, l_30, l_31, l_32, l_36, l_40, l_41, l_42, l_43, l_44, l_45, l_46, l_47, l_48, l_49, l_50, l_51, l_52, l_57, l_58, l_60, l_64, l_72, l_80, l_92, l_98, l_99, l_100, l_102, l_105, l_111, l_112, l_114, l_115, l_116, l_117, l_120, l_144, l_200, l_201, l_240, l_300, l_320, l_400, l_500, l_550, l_560, l_649, l_650, l_1000, l_1400, l_2000, l_4000, l_10000, iN_add, iN_sub, iN_mul, iN_le_t, iN_le_f, iN_lt_t, iN_lt_f, iN_eq_f, inb_iN, ix_iN, isZ_0, isZ_1, ↓reduceIte, eq_self]
  have l2 : ∀ E : Nat → Int32, f_X8_begins_l29_11 (D 2) FU (iN 0) (stM m E W G) = some (stM m (spD E 48 50 (fun _ => wetS (D 2))) W G) := by
    intro E
    have key := loop_cl (fun n' v s => f_X8_begins_l29_11 (D 2) n' v s) (fun j => stM m (spD E 48 (48 + j) (fun _ => wetS (D 2))) W G) 0 2 (some (stM m (spD E 48 50 (fun _ => wetS (D 2))) W G)) ?_ ?_ (by omega) (n := FU) (fu_lt (by omega))
    · rw [show 48 + 0 = 48 from rfl, spD_nil] at key
      exact key
    · intro f j h3 h4
      show f_X8_begins_l29_11 (D 2) (f + 1) (iN j) _ = f_X8_begins_l29_11 (D 2) f (iN (j + 1)) _
      conv => lhs; unfold f_X8_begins_l29_11
      rw [show 48 + (j + 1) = 48 + j + 1 by omega, ← spD_up (b := 48 + j) (x := wetS (D 2)) (by omega) rfl]
      simp (disch := omega) only [chk_t, beq_self_eq_true, nm_s, bj1_s, bj2_s, bj3_s, mo_1, mo_0, l_0, l_1, l_2, l_3, l_4, l_5, l_6, l_7, l_8, l_9, l_10, l_11, l_12, l_13, l_14, l_15, l_16, l_17, l_18, l_19, l_20, l_21, l_30, l_31, l_32, l_36, l_40, l_41, l_42, l_43, l_44, l_45, l_46, l_47, l_48, l_49, l_50, l_51, l_52, l_57, l_58, l_60, l_64, l_72, l_80, l_92, l_98, l_99, l_100, l_102, l_105, l_111, l_112, l_114, l_115, l_116, l_117, l_120, l_144, l_200, l_201, l_240, l_300, l_320, l_400, l_500, l_550, l_560, l_649, l_650, l_1000, l_1400, l_2000, l_4000, l_10000, iN_add, iN_sub, iN_mul, iN_le_t, iN_le_f, iN_lt_t, iN_lt_f, iN_eq_f, inb_iN, ix_iN, isZ_0, isZ_1, ↓reduceIte, eq_self, greater_ok, ite_so, put_ok h]
      rfl
    · intro f
      show f_X8_begins_l29_11 (D 2) (f + 1) (iN 2) _ = _
      unfold f_X8_begins_l29_11
      simp (disch := omega) only [chk_t, beq_self_eq_true, nm_s, bj1_s, bj2_s, bj3_s, mo_1, mo_0, l_0, l_1, l_2, l_3, l_4, l_5, l_6, l_7, l_8, l_9, l_10, l_11, l_12, l_13, l_14, l_15, l_16, l_17, l_18, l_19, l_20, l_21, l_30, l_31, l_32, l_36, l_40, l_41, l_42, l_43, l_44, l_45, l_46, l_47, l_48, l_49, l_50, l_51, l_52, l_57, l_58, l_60, l_64, l_72, l_80, l_92, l_98, l_99, l_100, l_102, l_105, l_111, l_112, l_114, l_115, l_116, l_117, l_120, l_144, l_200, l_201, l_240, l_300, l_320, l_400, l_500, l_550, l_560, l_649, l_650, l_1000, l_1400, l_2000, l_4000, l_10000, iN_add, iN_sub, iN_mul, iN_le_t, iN_le_f, iN_lt_t, iN_lt_f, iN_eq_f, inb_iN, ix_iN, isZ_0, isZ_1, ↓reduceIte, eq_self]
  have l3 : ∀ E : Nat → Int32, E 0 = iN n → E 1 = D 1 → f_X8_begins_l73_21 FU (iN 0) (stM m E W G) = some (stM m (spD (spD (spD E 52 (52 + n) (fun _ => iN 10 * D 1)) 72 (72 + n) (fun _ => iN 10 * D 1)) 92 (92 + n) (fun _ => iN 100)) W G) := by
    intro E e0 e1
    have key := loop_cl (fun n' v s => f_X8_begins_l73_21 n' v s) (fun j => stM m (spD (spD (spD E 52 (52 + j) (fun _ => iN 10 * D 1)) 72 (72 + j) (fun _ => iN 10 * D 1)) 92 (92 + j) (fun _ => iN 100)) W G) 0 n (some (stM m (spD (spD (spD E 52 (52 + n) (fun _ => iN 10 * D 1)) 72 (72 + n) (fun _ => iN 10 * D 1)) 92 (92 + n) (fun _ => iN 100)) W G)) ?_ ?_ (by omega) (n := FU) (fu_lt (by omega))
    · rw [show 52 + 0 = 52 from rfl, show 72 + 0 = 72 from rfl, show 92 + 0 = 92 from rfl, spD_nil, spD_nil, spD_nil] at key
      exact key
    · intro f j h3 h4
      show f_X8_begins_l73_21 (f + 1) (iN j) _ = f_X8_begins_l73_21 f (iN (j + 1)) _
      conv => lhs; unfold f_X8_begins_l73_21
      have e2 : up (up (up (spD (spD (spD E 52 (52 + j) (fun _ => iN 10 * D 1)) 72 (72 + j) (fun _ => iN 10 * D 1)) 92 (92 + j) (fun _ => iN 100)) (52 + j) (iN 10 * D 1)) (72 + j) (iN 10 * D 1)) (92 + j) (iN 100) = spD (spD (spD E 52 (52 + (j + 1)) (fun _ => iN 10 * D 1)) 72 (72 + (j + 1)) (fun _ => iN 10 * D 1)) 92 (92 + (j + 1)) (fun _ => iN 100) := by
        funext p
        unfold up spD
        by_cases c1 : p = 92 + j
        · rw [if_pos c1, if_pos (by omega)]
        · rw [if_neg c1]
          by_cases c2 : p = 72 + j
          · rw [if_pos c2, if_neg (by omega), if_pos (by omega)]
          · rw [if_neg c2]
            by_cases c3 : p = 52 + j
            · rw [if_pos c3, if_neg (by omega), if_neg (by omega), if_pos (by omega)]
            · rw [if_neg c3]
              by_cases c4 : 92 ≤ p ∧ p < 92 + j
              · simp only [if_pos c4, if_pos (show 92 ≤ p ∧ p < 92 + (j + 1) by omega)]
              · simp only [if_neg c4, if_neg (show ¬ (92 ≤ p ∧ p < 92 + (j + 1)) by omega)]
                by_cases c5 : 72 ≤ p ∧ p < 72 + j
                · simp only [if_pos c5, if_pos (show 72 ≤ p ∧ p < 72 + (j + 1) by omega)]
                · simp only [if_neg c5, if_neg (show ¬ (72 ≤ p ∧ p < 72 + (j + 1)) by omega)]
                  by_cases c6 : 52 ≤ p ∧ p < 52 + j
                  · simp only [if_pos c6, if_pos (show 52 ≤ p ∧ p < 52 + (j + 1) by omega)]
                  · simp only [if_neg c6, if_neg (show ¬ (52 ≤ p ∧ p < 52 + (j + 1)) by omega)]
      rw [← e2]
      simp (disch := omega) only [chk_t, beq_self_eq_true, nm_s, bj1_s, bj2_s, bj3_s, mo_1, mo_0, l_0, l_1, l_2, l_3, l_4, l_5, l_6, l_7, l_8, l_9, l_10, l_11, l_12, l_13, l_14, l_15, l_16, l_17, l_18, l_19, l_20, l_21, l_30, l_31, l_32, l_36, l_40, l_41, l_42, l_43, l_44, l_45, l_46, l_47, l_48, l_49, l_50, l_51, l_52, l_57, l_58, l_60, l_64, l_72, l_80, l_92, l_98, l_99, l_100, l_102, l_105, l_111, l_112, l_114, l_115, l_116, l_117, l_120, l_144, l_200, l_201, l_240, l_300, l_320, l_400, l_500, l_550, l_560, l_649, l_650, l_1000, l_1400, l_2000, l_4000, l_10000, iN_add, iN_sub, iN_mul, iN_le_t, iN_le_f, iN_lt_t, iN_lt_f, iN_eq_f, inb_iN, ix_iN, isZ_0, isZ_1, ↓reduceIte, eq_self, v_ok h, put_ok h, up_ne, spD_out, e0, e1]
    · intro f
      show f_X8_begins_l73_21 (f + 1) (iN n) _ = _
      unfold f_X8_begins_l73_21
      simp (disch := omega) only [chk_t, beq_self_eq_true, nm_s, bj1_s, bj2_s, bj3_s, mo_1, mo_0, l_0, l_1, l_2, l_3, l_4, l_5, l_6, l_7, l_8, l_9, l_10, l_11, l_12, l_13, l_14, l_15, l_16, l_17, l_18, l_19, l_20, l_21, l_30, l_31, l_32, l_36, l_40, l_41, l_42, l_43, l_44, l_45, l_46, l_47, l_48, l_49, l_50, l_51, l_52, l_57, l_58, l_60, l_64, l_72, l_80, l_92, l_98, l_99, l_100, l_102, l_105, l_111, l_112, l_114, l_115, l_116, l_117, l_120, l_144, l_200, l_201, l_240, l_300, l_320, l_400, l_500, l_550, l_560, l_649, l_650, l_1000, l_1400, l_2000, l_4000, l_10000, iN_add, iN_sub, iN_mul, iN_le_t, iN_le_f, iN_lt_t, iN_lt_f, iN_eq_f, inb_iN, ix_iN, isZ_0, isZ_1, ↓reduceIte, eq_self, v_ok h, spD_out, e0]
  unfold f_X8_begins
  have l3' := l3 (spD (spD D 41 112 (fun _ => iN 0)) 48 50 (fun _ => wetS (D 2))) (by rw [spD_out (by omega), spD_out (by omega)]; exact hn.1) (by rw [spD_out (by omega), spD_out (by omega)])
  simp (disch := omega) only [chk_t, beq_self_eq_true, nm_s, bj1_s, bj2_s, bj3_s, mo_1, mo_0, l_0, l_1, l_2, l_3, l_4, l_5, l_6, l_7, l_8, l_9, l_10, l_11, l_12, l_13, l_14, l_15, l_16, l_17, l_18, l_19, l_20, l_21, l_30, l_31, l_32, l_36, l_40, l_41, l_42, l_43, l_44, l_45, l_46, l_47, l_48, l_49, l_50, l_51, l_52, l_57, l_58, l_60, l_64, l_72, l_80, l_92, l_98, l_99, l_100, l_102, l_105, l_111, l_112, l_114, l_115, l_116, l_117, l_120, l_144, l_200, l_201, l_240, l_300, l_320, l_400, l_500, l_550, l_560, l_649, l_650, l_1000, l_1400, l_2000, l_4000, l_10000, iN_add, iN_sub, iN_mul, iN_le_t, iN_le_f, iN_lt_t, iN_lt_f, iN_eq_f, inb_iN, ix_iN, isZ_0, isZ_1, ↓reduceIte, eq_self, l1, v_ok h, spD_out, l2, l3']
  congr 2
  funext p
  unfold bgS spD
  rw [hnn]
  by_cases c1 : p < 41
  · rw [if_pos c1, if_neg (by omega), if_neg (by omega), if_neg (by omega), if_neg (by omega), if_neg (by omega)]
  · rw [if_neg c1]
    by_cases c2 : p < 48
    · rw [if_pos c2, if_neg (by omega), if_neg (by omega), if_neg (by omega), if_neg (by omega), if_pos (by omega)]
    · rw [if_neg c2]
      by_cases c3 : p < 50
      · rw [if_pos c3, if_neg (by omega), if_neg (by omega), if_neg (by omega), if_pos (by omega)]
      · rw [if_neg c3]
        by_cases c4 : p < 52
        · rw [if_pos c4, if_neg (by omega), if_neg (by omega), if_neg (by omega), if_neg (by omega), if_pos (by omega)]
        · rw [if_neg c4]
          by_cases c5 : p < 72
          · rw [if_pos c5, if_neg (by omega), if_neg (by omega)]
            by_cases d : p < 52 + n
            · rw [if_pos d, if_pos (by omega)]
            · rw [if_neg d, if_neg (by omega), if_neg (by omega), if_pos (by omega)]
          · rw [if_neg c5]
            by_cases c6 : p < 92
            · rw [if_pos c6, if_neg (by omega)]
              by_cases d : p < 72 + n
              · rw [if_pos d, if_pos (by omega)]
              · rw [if_neg d, if_neg (by omega), if_neg (by omega), if_neg (by omega), if_pos (by omega)]
            · rw [if_neg c6]
              by_cases c7 : p < 112
              · rw [if_pos c7]
                by_cases d : p < 92 + n
                · rw [if_pos d, if_pos (by omega)]
                · rw [if_neg d, if_neg (by omega), if_neg (by omega), if_neg (by omega), if_neg (by omega), if_pos (by omega)]
              · rw [if_neg c7, if_neg (by omega), if_neg (by omega), if_neg (by omega), if_neg (by omega), if_neg (by omega)]
theorem mturn_ok {m : Nat} {D W : Nat → Int32} {G : G_} (h : bM m G) : f_X8_turnOver (stM m D W G) = some (stM m (up D 44 (iN 1 - D 44)) W G) := by
  unfold f_X8_turnOver
  simp (disch := omega) only [chk_t, beq_self_eq_true, nm_s, bj1_s, bj2_s, bj3_s, mo_1, mo_0, l_0, l_1, l_2, l_3, l_4, l_5, l_6, l_7, l_8, l_9, l_10, l_11, l_12, l_13, l_14, l_15, l_16, l_17, l_18, l_19, l_20, l_21, l_30, l_31, l_32, l_36, l_40, l_41, l_42, l_43, l_44, l_45, l_46, l_47, l_48, l_49, l_50, l_51, l_52, l_57, l_58, l_60, l_64, l_72, l_80, l_92, l_98, l_99, l_100, l_102, l_105, l_111, l_112, l_114, l_115, l_116, l_117, l_120, l_144, l_200, l_201, l_240, l_300, l_320, l_400, l_500, l_550, l_560, l_649, l_650, l_1000, l_1400, l_2000, l_4000, l_10000, iN_add, iN_sub, iN_mul, iN_le_t, iN_le_f, iN_lt_t, iN_lt_f, iN_eq_f, inb_iN, ix_iN, isZ_0, isZ_1, ↓reduceIte, eq_self, v_ok h, put_ok h]
theorem mwayT_ok {m n k : Nat} {D W : Nat → Int32} {G : G_} {q t : Int32} (h : bM m G) (hn : okN D n) (ht : 1 ≤ t.toInt) : ∃ W', f_X8_wayTick (iN k) q t (stM m D W G) = some (stM m (wayT k q t D) W' G) := by
  have t1 : (t != iN 0) = true := by
    rw [bne_iff_ne]
    intro e
    rw [e, li (by omega)] at ht
    omega
  unfold f_X8_wayTick wayT
  simp (disch := omega) only [chk_t, beq_self_eq_true, nm_s, bj1_s, bj2_s, bj3_s, mo_1, mo_0, l_0, l_1, l_2, l_3, l_4, l_5, l_6, l_7, l_8, l_9, l_10, l_11, l_12, l_13, l_14, l_15, l_16, l_17, l_18, l_19, l_20, l_21, l_30, l_31, l_32, l_36, l_40, l_41, l_42, l_43, l_44, l_45, l_46, l_47, l_48, l_49, l_50, l_51, l_52, l_57, l_58, l_60, l_64, l_72, l_80, l_92, l_98, l_99, l_100, l_102, l_105, l_111, l_112, l_114, l_115, l_116, l_117, l_120, l_144, l_200, l_201, l_240, l_300, l_320, l_400, l_500, l_550, l_560, l_649, l_650, l_1000, l_1400, l_2000, l_4000, l_10000, iN_add, iN_sub, iN_mul, iN_le_t, iN_le_f, iN_lt_t, iN_lt_f, iN_eq_f, inb_iN, ix_iN, isZ_0, isZ_1, ↓reduceIte, eq_self, t1, mturn_ok h]
  by_cases c : iN k ≤ iN 0
  · simp only [if_pos c]
    obtain ⟨W', g⟩ := mtick_ok (W := W) (k := iN 1) (q := q) h hn
    exact ⟨W', by simp (disch := omega) only [chk_t, beq_self_eq_true, nm_s, bj1_s, bj2_s, bj3_s, mo_1, mo_0, l_0, l_1, l_2, l_3, l_4, l_5, l_6, l_7, l_8, l_9, l_10, l_11, l_12, l_13, l_14, l_15, l_16, l_17, l_18, l_19, l_20, l_21, l_30, l_31, l_32, l_36, l_40, l_41, l_42, l_43, l_44, l_45, l_46, l_47, l_48, l_49, l_50, l_51, l_52, l_57, l_58, l_60, l_64, l_72, l_80, l_92, l_98, l_99, l_100, l_102, l_105, l_111, l_112, l_114, l_115, l_116, l_117, l_120, l_144, l_200, l_201, l_240, l_300, l_320, l_400, l_500, l_550, l_560, l_649, l_650, l_1000, l_1400, l_2000, l_4000, l_10000, iN_add, iN_sub, iN_mul, iN_le_t, iN_le_f, iN_lt_t, iN_lt_f, iN_eq_f, inb_iN, ix_iN, isZ_0, isZ_1, ↓reduceIte, eq_self, g]⟩
  · simp only [if_neg c]
    by_cases c2 : iN k - iN k / t * t = iN 0
    · simp only [if_pos c2]
      obtain ⟨W', g⟩ := mtick_ok (W := W) (D := up D 44 (iN 1 - D 44)) (k := iN 1) (q := q) h (okN_keep hn (up_ne (by omega)))
      exact ⟨W', by simp (disch := omega) only [chk_t, beq_self_eq_true, nm_s, bj1_s, bj2_s, bj3_s, mo_1, mo_0, l_0, l_1, l_2, l_3, l_4, l_5, l_6, l_7, l_8, l_9, l_10, l_11, l_12, l_13, l_14, l_15, l_16, l_17, l_18, l_19, l_20, l_21, l_30, l_31, l_32, l_36, l_40, l_41, l_42, l_43, l_44, l_45, l_46, l_47, l_48, l_49, l_50, l_51, l_52, l_57, l_58, l_60, l_64, l_72, l_80, l_92, l_98, l_99, l_100, l_102, l_105, l_111, l_112, l_114, l_115, l_116, l_117, l_120, l_144, l_200, l_201, l_240, l_300, l_320, l_400, l_500, l_550, l_560, l_649, l_650, l_1000, l_1400, l_2000, l_4000, l_10000, iN_add, iN_sub, iN_mul, iN_le_t, iN_le_f, iN_lt_t, iN_lt_f, iN_eq_f, inb_iN, ix_iN, isZ_0, isZ_1, ↓reduceIte, eq_self, g]⟩
    · simp only [if_neg c2]
      obtain ⟨W', g⟩ := mtick_ok (W := W) (k := iN 1) (q := q) h hn
      exact ⟨W', by simp (disch := omega) only [chk_t, beq_self_eq_true, nm_s, bj1_s, bj2_s, bj3_s, mo_1, mo_0, l_0, l_1, l_2, l_3, l_4, l_5, l_6, l_7, l_8, l_9, l_10, l_11, l_12, l_13, l_14, l_15, l_16, l_17, l_18, l_19, l_20, l_21, l_30, l_31, l_32, l_36, l_40, l_41, l_42, l_43, l_44, l_45, l_46, l_47, l_48, l_49, l_50, l_51, l_52, l_57, l_58, l_60, l_64, l_72, l_80, l_92, l_98, l_99, l_100, l_102, l_105, l_111, l_112, l_114, l_115, l_116, l_117, l_120, l_144, l_200, l_201, l_240, l_300, l_320, l_400, l_500, l_550, l_560, l_649, l_650, l_1000, l_1400, l_2000, l_4000, l_10000, iN_add, iN_sub, iN_mul, iN_le_t, iN_le_f, iN_lt_t, iN_lt_f, iN_eq_f, inb_iN, ix_iN, isZ_0, isZ_1, ↓reduceIte, eq_self, g]⟩
theorem wayT_lo {k n : Nat} {q t : Int32} {D : Nat → Int32} {p : Nat} (hn : okN D n) (hp : p < 41 ∨ 112 ≤ p) : wayT k q t D p = D p := by
  unfold wayT
  have key : ∀ E : Nat → Int32, okN E n → E p = D p → tickS (iN 1) q E p = D p := by
    intro E h1 h2
    rcases hp with h | h
    · rw [tickS_lo (by omega)]; exact h2
    · rw [tickS_far h1 h]; exact h2
  split
  · exact key _ hn rfl
  · split
    · exact key _ (okN_keep hn (up_ne (by omega))) (up_ne (by omega))
    · exact key _ hn rfl
theorem okN_wayT {k n : Nat} {q t : Int32} {D : Nat → Int32} (hn : okN D n) : okN (wayT k q t D) n := okN_keep hn (wayT_lo hn (by omega))
theorem okN_way {k n : Nat} {q t : Int32} {D : Nat → Int32} (hn : okN D n) : okN (wayS q t D k) n := by
  induction k with
  | zero => exact hn
  | succ k ih => exact okN_wayT ih
theorem way_lo {k n : Nat} {q t : Int32} {D : Nat → Int32} {p : Nat} (hn : okN D n) (hp : p < 41 ∨ 112 ≤ p) : wayS q t D k p = D p := by
  induction k with
  | zero => rfl
  | succ k ih =>
    show wayT k q t (wayS q t D k) p = D p
    rw [wayT_lo (okN_way hn) hp, ih]
theorem okN_bg {X : Nat → Int32} {n : Nat} (hn : okN X n) : okN (bgS X) n := okN_keep hn (bg_lo (by omega))
theorem bg_keep {X : Nat → Int32} {p : Nat} (hp : p < 41 ∨ 112 ≤ p) : bgS X p = X p := by
  rcases hp with h | h
  · exact bg_lo h
  · exact bg_hi h
theorem mmakes_ok {m n c : Nat} {D W : Nat → Int32} {G : G_} {q t : Int32} (h : bM m G) (hn : okN D n) (ht : 1 ≤ t.toInt) (hc : c ≤ 200) : ∃ W', f_X8_makes q (iN c) t (stM m D W G) = some (stM m (wayS q t (bgS D) c) W' G) := by
  have hL : ∃ r, f_X8_makes_l7_5 q (iN c) t FU (iN 0) (stM m (bgS D) W G) = some r ∧ ∃ W', r = stM m (wayS q t (bgS D) c) W' G := by
    refine loop_h (fun n v s => f_X8_makes_l7_5 q (iN c) t n v s) (fun j s => ∃ W', s = stM m (wayS q t (bgS D) j) W' G) _ 0 c ?_ ?_ (by omega) (n := FU) (fu_lt (by omega)) ⟨W, rfl⟩
    · intro f j s h3 h5 ⟨W1, e⟩
      subst e
      obtain ⟨W', g⟩ := mwayT_ok (W := W1) (k := j) (q := q) (t := t) h (okN_way (k := j) (q := q) (t := t) (okN_bg hn)) ht
      refine ⟨_, ⟨W', rfl⟩, ?_⟩
      show f_X8_makes_l7_5 q (iN c) t (f + 1) (iN j) _ = _
      conv => lhs; unfold f_X8_makes_l7_5
      simp (disch := omega) only [chk_t, beq_self_eq_true, nm_s, bj1_s, bj2_s, bj3_s, mo_1, mo_0, l_0, l_1, l_2, l_3, l_4, l_5, l_6, l_7, l_8, l_9, l_10, l_11, l_12, l_13, l_14, l_15, l_16, l_17, l_18, l_19, l_20, l_21, l_30, l_31, l_32, l_36, l_40, l_41, l_42, l_43, l_44, l_45, l_46, l_47, l_48, l_49, l_50, l_51, l_52, l_57, l_58, l_60, l_64, l_72, l_80, l_92, l_98, l_99, l_100, l_102, l_105, l_111, l_112, l_114, l_115, l_116, l_117, l_120, l_144, l_200, l_201, l_240, l_300, l_320, l_400, l_500, l_550, l_560, l_649, l_650, l_1000, l_1400, l_2000, l_4000, l_10000, iN_add, iN_sub, iN_mul, iN_le_t, iN_le_f, iN_lt_t, iN_lt_f, iN_eq_f, inb_iN, ix_iN, isZ_0, isZ_1, ↓reduceIte, eq_self, g]
      rfl
    · intro f s ⟨W1, e⟩
      subst e
      refine ⟨_, ?_, W1, rfl⟩
      show f_X8_makes_l7_5 q (iN c) t (f + 1) (iN c) _ = _
      unfold f_X8_makes_l7_5
      simp (disch := omega) only [chk_t, beq_self_eq_true, nm_s, bj1_s, bj2_s, bj3_s, mo_1, mo_0, l_0, l_1, l_2, l_3, l_4, l_5, l_6, l_7, l_8, l_9, l_10, l_11, l_12, l_13, l_14, l_15, l_16, l_17, l_18, l_19, l_20, l_21, l_30, l_31, l_32, l_36, l_40, l_41, l_42, l_43, l_44, l_45, l_46, l_47, l_48, l_49, l_50, l_51, l_52, l_57, l_58, l_60, l_64, l_72, l_80, l_92, l_98, l_99, l_100, l_102, l_105, l_111, l_112, l_114, l_115, l_116, l_117, l_120, l_144, l_200, l_201, l_240, l_300, l_320, l_400, l_500, l_550, l_560, l_649, l_650, l_1000, l_1400, l_2000, l_4000, l_10000, iN_add, iN_sub, iN_mul, iN_le_t, iN_le_f, iN_lt_t, iN_lt_f, iN_eq_f, inb_iN, ix_iN, isZ_0, isZ_1, ↓reduceIte, eq_self]
  obtain ⟨r, hr, W', e⟩ := hL
  refine ⟨W', ?_⟩
  unfold f_X8_makes
  simp (disch := omega) only [chk_t, beq_self_eq_true, nm_s, bj1_s, bj2_s, bj3_s, mo_1, mo_0, l_0, l_1, l_2, l_3, l_4, l_5, l_6, l_7, l_8, l_9, l_10, l_11, l_12, l_13, l_14, l_15, l_16, l_17, l_18, l_19, l_20, l_21, l_30, l_31, l_32, l_36, l_40, l_41, l_42, l_43, l_44, l_45, l_46, l_47, l_48, l_49, l_50, l_51, l_52, l_57, l_58, l_60, l_64, l_72, l_80, l_92, l_98, l_99, l_100, l_102, l_105, l_111, l_112, l_114, l_115, l_116, l_117, l_120, l_144, l_200, l_201, l_240, l_300, l_320, l_400, l_500, l_550, l_560, l_649, l_650, l_1000, l_1400, l_2000, l_4000, l_10000, iN_add, iN_sub, iN_mul, iN_le_t, iN_le_f, iN_lt_t, iN_lt_f, iN_eq_f, inb_iN, ix_iN, isZ_0, isZ_1, ↓reduceIte, eq_self, mbegins_ok h hn, hr]
  rw [e]
theorem okN_rest {k n : Nat} {D : Nat → Int32} (hn : okN D n) : okN (restS D k) n := by
  induction k with
  | zero => exact hn
  | succ k ih => exact okN_keep ih (tickS_lo (by omega))
theorem rest_lo {k n : Nat} {D : Nat → Int32} {p : Nat} (hn : okN D n) (hp : p < 41 ∨ 112 ≤ p) : restS D k p = D p := by
  induction k with
  | zero => rfl
  | succ k ih =>
    show tickS (iN 4) (iN 0) (restS D k) p = D p
    rcases hp with h | h
    · rw [tickS_lo (by omega), ih]
    · rw [tickS_far (okN_rest hn) h, ih]
theorem mrests_ok {m n c : Nat} {D W : Nat → Int32} {G : G_} (h : bM m G) (hn : okN D n) (hc : c ≤ 700) : ∃ W', f_X8_rests (iN c) (stM m D W G) = some (stM m (restS D c) W' G) := by
  have hL : ∃ r, f_X8_rests_l2_3 (iN c) FU (iN 0) (stM m D W G) = some r ∧ ∃ W', r = stM m (restS D c) W' G := by
    refine loop_h (fun n v s => f_X8_rests_l2_3 (iN c) n v s) (fun j s => ∃ W', s = stM m (restS D j) W' G) _ 0 c ?_ ?_ (by omega) (n := FU) (fu_lt (by omega)) ⟨W, rfl⟩
    · intro f j s h3 h5 ⟨W1, e⟩
      subst e
      obtain ⟨W', g⟩ := mtick_ok (W := W1) (k := iN 4) (q := iN 0) h (okN_rest (k := j) hn)
      refine ⟨_, ⟨W', rfl⟩, ?_⟩
      show f_X8_rests_l2_3 (iN c) (f + 1) (iN j) _ = _
      conv => lhs; unfold f_X8_rests_l2_3
      simp (disch := omega) only [chk_t, beq_self_eq_true, nm_s, bj1_s, bj2_s, bj3_s, mo_1, mo_0, l_0, l_1, l_2, l_3, l_4, l_5, l_6, l_7, l_8, l_9, l_10, l_11, l_12, l_13, l_14, l_15, l_16, l_17, l_18, l_19, l_20, l_21, l_30, l_31, l_32, l_36, l_40, l_41, l_42, l_43, l_44, l_45, l_46, l_47, l_48, l_49, l_50, l_51, l_52, l_57, l_58, l_60, l_64, l_72, l_80, l_92, l_98, l_99, l_100, l_102, l_105, l_111, l_112, l_114, l_115, l_116, l_117, l_120, l_144, l_200, l_201, l_240, l_300, l_320, l_400, l_500, l_550, l_560, l_649, l_650, l_1000, l_1400, l_2000, l_4000, l_10000, iN_add, iN_sub, iN_mul, iN_le_t, iN_le_f, iN_lt_t, iN_lt_f, iN_eq_f, inb_iN, ix_iN, isZ_0, isZ_1, ↓reduceIte, eq_self, g]
      rfl
    · intro f s ⟨W1, e⟩
      subst e
      refine ⟨_, ?_, W1, rfl⟩
      show f_X8_rests_l2_3 (iN c) (f + 1) (iN c) _ = _
      unfold f_X8_rests_l2_3
      simp (disch := omega) only [chk_t, beq_self_eq_true, nm_s, bj1_s, bj2_s, bj3_s, mo_1, mo_0, l_0, l_1, l_2, l_3, l_4, l_5, l_6, l_7, l_8, l_9, l_10, l_11, l_12, l_13, l_14, l_15, l_16, l_17, l_18, l_19, l_20, l_21, l_30, l_31, l_32, l_36, l_40, l_41, l_42, l_43, l_44, l_45, l_46, l_47, l_48, l_49, l_50, l_51, l_52, l_57, l_58, l_60, l_64, l_72, l_80, l_92, l_98, l_99, l_100, l_102, l_105, l_111, l_112, l_114, l_115, l_116, l_117, l_120, l_144, l_200, l_201, l_240, l_300, l_320, l_400, l_500, l_550, l_560, l_649, l_650, l_1000, l_1400, l_2000, l_4000, l_10000, iN_add, iN_sub, iN_mul, iN_le_t, iN_le_f, iN_lt_t, iN_lt_f, iN_eq_f, inb_iN, ix_iN, isZ_0, isZ_1, ↓reduceIte, eq_self]
  obtain ⟨r, hr, W', e⟩ := hL
  refine ⟨W', ?_⟩
  unfold f_X8_rests
  simp (disch := omega) only [chk_t, beq_self_eq_true, nm_s, bj1_s, bj2_s, bj3_s, mo_1, mo_0, l_0, l_1, l_2, l_3, l_4, l_5, l_6, l_7, l_8, l_9, l_10, l_11, l_12, l_13, l_14, l_15, l_16, l_17, l_18, l_19, l_20, l_21, l_30, l_31, l_32, l_36, l_40, l_41, l_42, l_43, l_44, l_45, l_46, l_47, l_48, l_49, l_50, l_51, l_52, l_57, l_58, l_60, l_64, l_72, l_80, l_92, l_98, l_99, l_100, l_102, l_105, l_111, l_112, l_114, l_115, l_116, l_117, l_120, l_144, l_200, l_201, l_240, l_300, l_320, l_400, l_500, l_550, l_560, l_649, l_650, l_1000, l_1400, l_2000, l_4000, l_10000, iN_add, iN_sub, iN_mul, iN_le_t, iN_le_f, iN_lt_t, iN_lt_f, iN_eq_f, inb_iN, ix_iN, isZ_0, isZ_1, ↓reduceIte, eq_self, hr]
  rw [e]
theorem mtill_ok {m n : Nat} {D W : Nat → Int32} {G : G_} {q t v : Int32} (h : bM m G) (hn : okN D n) (ht : 1 ≤ t.toInt) : ∃ D' W', f_X8_ticksTill q t v (stM m D W G) = some (tillS q t v (bgS D), stM m D' W' G) ∧ ∀ p, p < 41 ∨ 112 ≤ p → D' p = D p := by
  have hb := okN_bg hn
  have key := loop_iv (fun n v' s => f_X8_ticksTill_l7_5 q t v n v' s) (fun j s => tillF (fun k => !decide (midM (wayS q t (bgS D) k) < v)) (200 - j) j = tillS q t v (bgS D) ∧ ∃ W', s = stM m (wayS q t (bgS D) j) W' G)
    (fun r => ∃ D' W', r = some (tillS q t v (bgS D), stM m D' W' G) ∧ ∀ p, p < 41 ∨ 112 ≤ p → D' p = D p) 0 200 ?_ ?_ (by omega) (n := FU) (fu_lt (by omega)) (s := stM m (bgS D) W G) ⟨rfl, W, rfl⟩
  · obtain ⟨D', W', e, e2⟩ := key
    refine ⟨D', W', ?_, e2⟩
    have e' : f_X8_ticksTill_l7_5 q t v FU (iN 0) (stM m (bgS D) W G) = some (tillS q t v (bgS D), stM m D' W' G) := e
    unfold f_X8_ticksTill
    simp (disch := omega) only [chk_t, beq_self_eq_true, nm_s, bj1_s, bj2_s, bj3_s, mo_1, mo_0, l_0, l_1, l_2, l_3, l_4, l_5, l_6, l_7, l_8, l_9, l_10, l_11, l_12, l_13, l_14, l_15, l_16, l_17, l_18, l_19, l_20, l_21, l_30, l_31, l_32, l_36, l_40, l_41, l_42, l_43, l_44, l_45, l_46, l_47, l_48, l_49, l_50, l_51, l_52, l_57, l_58, l_60, l_64, l_72, l_80, l_92, l_98, l_99, l_100, l_102, l_105, l_111, l_112, l_114, l_115, l_116, l_117, l_120, l_144, l_200, l_201, l_240, l_300, l_320, l_400, l_500, l_550, l_560, l_649, l_650, l_1000, l_1400, l_2000, l_4000, l_10000, iN_add, iN_sub, iN_mul, iN_le_t, iN_le_f, iN_lt_t, iN_lt_f, iN_eq_f, inb_iN, ix_iN, isZ_0, isZ_1, ↓reduceIte, eq_self, mbegins_ok h hn, e']
  · intro f j s h3 h5 ⟨i0, W1, e⟩
    subst e
    obtain ⟨W', g⟩ := mwayT_ok (W := W1) (k := j) (q := q) (t := t) h (okN_way (k := j) (q := q) (t := t) hb) ht
    have g' : f_X8_wayTick (iN j) q t (stM m (wayS q t (bgS D) j) W1 G) = some (stM m (wayS q t (bgS D) (j + 1)) W' G) := g
    have hn1 := okN_way (k := j + 1) (q := q) (t := t) hb
    rw [show 200 - j = (200 - (j + 1)) + 1 by omega] at i0
    unfold tillF at i0
    by_cases c : midM (wayS q t (bgS D) (j + 1)) < v
    · left
      refine ⟨_, ⟨?_, W', rfl⟩, ?_⟩
      · rw [if_neg (by rw [decide_eq_true c]; decide)] at i0
        exact i0
      · show f_X8_ticksTill_l7_5 q t v (f + 1) (iN j) _ = f_X8_ticksTill_l7_5 q t v f (iN (j + 1)) (stM m (wayS q t (bgS D) (j + 1)) W' G)
        conv => lhs; unfold f_X8_ticksTill_l7_5
        simp (disch := omega) only [chk_t, beq_self_eq_true, nm_s, bj1_s, bj2_s, bj3_s, mo_1, mo_0, l_0, l_1, l_2, l_3, l_4, l_5, l_6, l_7, l_8, l_9, l_10, l_11, l_12, l_13, l_14, l_15, l_16, l_17, l_18, l_19, l_20, l_21, l_30, l_31, l_32, l_36, l_40, l_41, l_42, l_43, l_44, l_45, l_46, l_47, l_48, l_49, l_50, l_51, l_52, l_57, l_58, l_60, l_64, l_72, l_80, l_92, l_98, l_99, l_100, l_102, l_105, l_111, l_112, l_114, l_115, l_116, l_117, l_120, l_144, l_200, l_201, l_240, l_300, l_320, l_400, l_500, l_550, l_560, l_649, l_650, l_1000, l_1400, l_2000, l_4000, l_10000, iN_add, iN_sub, iN_mul, iN_le_t, iN_le_f, iN_lt_t, iN_lt_f, iN_eq_f, inb_iN, ix_iN, isZ_0, isZ_1, ↓reduceIte, eq_self, g', mmid_ok h hn1, midMv h hn1, if_pos c]
    · right
      rw [if_pos (by rw [decide_eq_false c]; decide)] at i0
      refine ⟨_, W', ?_, fun p hp => (way_lo (k := j + 1) (q := q) (t := t) hb hp).trans (bg_keep hp)⟩
      show f_X8_ticksTill_l7_5 q t v (f + 1) (iN j) _ = _
      unfold f_X8_ticksTill_l7_5
      simp (disch := omega) only [chk_t, beq_self_eq_true, nm_s, bj1_s, bj2_s, bj3_s, mo_1, mo_0, l_0, l_1, l_2, l_3, l_4, l_5, l_6, l_7, l_8, l_9, l_10, l_11, l_12, l_13, l_14, l_15, l_16, l_17, l_18, l_19, l_20, l_21, l_30, l_31, l_32, l_36, l_40, l_41, l_42, l_43, l_44, l_45, l_46, l_47, l_48, l_49, l_50, l_51, l_52, l_57, l_58, l_60, l_64, l_72, l_80, l_92, l_98, l_99, l_100, l_102, l_105, l_111, l_112, l_114, l_115, l_116, l_117, l_120, l_144, l_200, l_201, l_240, l_300, l_320, l_400, l_500, l_550, l_560, l_649, l_650, l_1000, l_1400, l_2000, l_4000, l_10000, iN_add, iN_sub, iN_mul, iN_le_t, iN_le_f, iN_lt_t, iN_lt_f, iN_eq_f, inb_iN, ix_iN, isZ_0, isZ_1, ↓reduceIte, eq_self, g', mmid_ok h hn1, midMv h hn1, if_neg c]
      rw [i0]
  · intro f s ⟨i0, W1, e⟩
    subst e
    refine ⟨_, W1, ?_, fun p hp => (way_lo (k := 200) (q := q) (t := t) hb hp).trans (bg_keep hp)⟩
    show f_X8_ticksTill_l7_5 q t v (f + 1) (iN 200) _ = _
    rw [← i0]
    unfold f_X8_ticksTill_l7_5
    simp (disch := omega) only [chk_t, beq_self_eq_true, nm_s, bj1_s, bj2_s, bj3_s, mo_1, mo_0, l_0, l_1, l_2, l_3, l_4, l_5, l_6, l_7, l_8, l_9, l_10, l_11, l_12, l_13, l_14, l_15, l_16, l_17, l_18, l_19, l_20, l_21, l_30, l_31, l_32, l_36, l_40, l_41, l_42, l_43, l_44, l_45, l_46, l_47, l_48, l_49, l_50, l_51, l_52, l_57, l_58, l_60, l_64, l_72, l_80, l_92, l_98, l_99, l_100, l_102, l_105, l_111, l_112, l_114, l_115, l_116, l_117, l_120, l_144, l_200, l_201, l_240, l_300, l_320, l_400, l_500, l_550, l_560, l_649, l_650, l_1000, l_1400, l_2000, l_4000, l_10000, iN_add, iN_sub, iN_mul, iN_le_t, iN_le_f, iN_lt_t, iN_lt_f, iN_eq_f, inb_iN, ix_iN, isZ_0, isZ_1, ↓reduceIte, eq_self]
    rfl

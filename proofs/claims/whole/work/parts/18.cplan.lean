/-! the class: plans copied, what comes at once, going by steps, made by a plan, a dish copied -/
theorem phas_t {p mm i : Nat} {G : G_} (hp : kd p = 2) (hc : G.1 p 4 = iN mm) (hm : mm ≤ 12) (hi : i < mm) : f_X2_has p (iN i) G = some (iN 1) := by
  unfold f_X2_has
  simp (disch := omega) only [chk_t, beq_self_eq_true, nm_s, bj1_s, bj2_s, bj3_s, mo_1, mo_0, l_0, l_1, l_2, l_3, l_4, l_5, l_6, l_7, l_8, l_9, l_10, l_11, l_12, l_13, l_14, l_15, l_16, l_17, l_18, l_19, l_20, l_21, l_30, l_31, l_32, l_36, l_40, l_41, l_42, l_43, l_44, l_45, l_46, l_47, l_48, l_49, l_50, l_51, l_52, l_57, l_58, l_60, l_64, l_72, l_80, l_92, l_98, l_99, l_100, l_102, l_105, l_111, l_112, l_114, l_115, l_116, l_117, l_120, l_144, l_200, l_201, l_240, l_300, l_320, l_400, l_500, l_550, l_560, l_649, l_650, l_1000, l_1400, l_2000, l_4000, l_10000, iN_add, iN_sub, iN_mul, iN_le_t, iN_le_f, iN_lt_t, iN_lt_f, iN_eq_f, inb_iN, ix_iN, isZ_0, isZ_1, ↓reduceIte, eq_self, kd_b hp, hc]
theorem phas_f {p mm i : Nat} {G : G_} (hp : kd p = 2) (hc : G.1 p 4 = iN mm) (hm : mm ≤ 12) (hi : mm ≤ i) (h2 : i ≤ 1000) : f_X2_has p (iN i) G = some (iN 0) := by
  unfold f_X2_has
  simp (disch := omega) only [chk_t, beq_self_eq_true, nm_s, bj1_s, bj2_s, bj3_s, mo_1, mo_0, l_0, l_1, l_2, l_3, l_4, l_5, l_6, l_7, l_8, l_9, l_10, l_11, l_12, l_13, l_14, l_15, l_16, l_17, l_18, l_19, l_20, l_21, l_30, l_31, l_32, l_36, l_40, l_41, l_42, l_43, l_44, l_45, l_46, l_47, l_48, l_49, l_50, l_51, l_52, l_57, l_58, l_60, l_64, l_72, l_80, l_92, l_98, l_99, l_100, l_102, l_105, l_111, l_112, l_114, l_115, l_116, l_117, l_120, l_144, l_200, l_201, l_240, l_300, l_320, l_400, l_500, l_550, l_560, l_649, l_650, l_1000, l_1400, l_2000, l_4000, l_10000, iN_add, iN_sub, iN_mul, iN_le_t, iN_le_f, iN_lt_t, iN_lt_f, iN_eq_f, inb_iN, ix_iN, isZ_0, isZ_1, ↓reduceIte, eq_self, kd_b hp, hc]
theorem pkind_t {p mm i : Nat} {G : G_} (hp : kd p = 2) (hc : G.1 p 4 = iN mm) (hm : mm ≤ 12) (hi : i < mm) : f_X2_kindAt p (iN i) G = some (G.1 (p + 1) i) := by
  unfold f_X2_kindAt
  simp (disch := omega) only [chk_t, beq_self_eq_true, nm_s, bj1_s, bj2_s, bj3_s, mo_1, mo_0, l_0, l_1, l_2, l_3, l_4, l_5, l_6, l_7, l_8, l_9, l_10, l_11, l_12, l_13, l_14, l_15, l_16, l_17, l_18, l_19, l_20, l_21, l_30, l_31, l_32, l_36, l_40, l_41, l_42, l_43, l_44, l_45, l_46, l_47, l_48, l_49, l_50, l_51, l_52, l_57, l_58, l_60, l_64, l_72, l_80, l_92, l_98, l_99, l_100, l_102, l_105, l_111, l_112, l_114, l_115, l_116, l_117, l_120, l_144, l_200, l_201, l_240, l_300, l_320, l_400, l_500, l_550, l_560, l_649, l_650, l_1000, l_1400, l_2000, l_4000, l_10000, iN_add, iN_sub, iN_mul, iN_le_t, iN_le_f, iN_lt_t, iN_lt_f, iN_eq_f, inb_iN, ix_iN, isZ_0, isZ_1, ↓reduceIte, eq_self, kd_b hp, phas_t hp hc hm hi]
theorem pkind_f {p mm i : Nat} {G : G_} (hp : kd p = 2) (hc : G.1 p 4 = iN mm) (hm : mm ≤ 12) (hi : mm ≤ i) (h2 : i ≤ 1000) : f_X2_kindAt p (iN i) G = some (iN 4) := by
  unfold f_X2_kindAt
  simp (disch := omega) only [chk_t, beq_self_eq_true, nm_s, bj1_s, bj2_s, bj3_s, mo_1, mo_0, l_0, l_1, l_2, l_3, l_4, l_5, l_6, l_7, l_8, l_9, l_10, l_11, l_12, l_13, l_14, l_15, l_16, l_17, l_18, l_19, l_20, l_21, l_30, l_31, l_32, l_36, l_40, l_41, l_42, l_43, l_44, l_45, l_46, l_47, l_48, l_49, l_50, l_51, l_52, l_57, l_58, l_60, l_64, l_72, l_80, l_92, l_98, l_99, l_100, l_102, l_105, l_111, l_112, l_114, l_115, l_116, l_117, l_120, l_144, l_200, l_201, l_240, l_300, l_320, l_400, l_500, l_550, l_560, l_649, l_650, l_1000, l_1400, l_2000, l_4000, l_10000, iN_add, iN_sub, iN_mul, iN_le_t, iN_le_f, iN_lt_t, iN_lt_f, iN_eq_f, inb_iN, ix_iN, isZ_0, isZ_1, ↓reduceIte, eq_self, kd_b hp, phas_f hp hc hm hi h2]
theorem pheat_t {p mm i : Nat} {G : G_} (hp : kd p = 2) (hc : G.1 p 4 = iN mm) (hm : mm ≤ 12) (hi : i < mm) : f_X2_heatAt p (iN i) G = some (G.1 (p + 2) i) := by
  unfold f_X2_heatAt
  simp (disch := omega) only [chk_t, beq_self_eq_true, nm_s, bj1_s, bj2_s, bj3_s, mo_1, mo_0, l_0, l_1, l_2, l_3, l_4, l_5, l_6, l_7, l_8, l_9, l_10, l_11, l_12, l_13, l_14, l_15, l_16, l_17, l_18, l_19, l_20, l_21, l_30, l_31, l_32, l_36, l_40, l_41, l_42, l_43, l_44, l_45, l_46, l_47, l_48, l_49, l_50, l_51, l_52, l_57, l_58, l_60, l_64, l_72, l_80, l_92, l_98, l_99, l_100, l_102, l_105, l_111, l_112, l_114, l_115, l_116, l_117, l_120, l_144, l_200, l_201, l_240, l_300, l_320, l_400, l_500, l_550, l_560, l_649, l_650, l_1000, l_1400, l_2000, l_4000, l_10000, iN_add, iN_sub, iN_mul, iN_le_t, iN_le_f, iN_lt_t, iN_lt_f, iN_eq_f, inb_iN, ix_iN, isZ_0, isZ_1, ↓reduceIte, eq_self, kd_b hp, phas_t hp hc hm hi]
theorem plen_t {p mm i : Nat} {G : G_} (hp : kd p = 2) (hc : G.1 p 4 = iN mm) (hm : mm ≤ 12) (hi : i < mm) : f_X2_lengthAt p (iN i) G = some (G.1 (p + 3) i) := by
  unfold f_X2_lengthAt
  simp (disch := omega) only [chk_t, beq_self_eq_true, nm_s, bj1_s, bj2_s, bj3_s, mo_1, mo_0, l_0, l_1, l_2, l_3, l_4, l_5, l_6, l_7, l_8, l_9, l_10, l_11, l_12, l_13, l_14, l_15, l_16, l_17, l_18, l_19, l_20, l_21, l_30, l_31, l_32, l_36, l_40, l_41, l_42, l_43, l_44, l_45, l_46, l_47, l_48, l_49, l_50, l_51, l_52, l_57, l_58, l_60, l_64, l_72, l_80, l_92, l_98, l_99, l_100, l_102, l_105, l_111, l_112, l_114, l_115, l_116, l_117, l_120, l_144, l_200, l_201, l_240, l_300, l_320, l_400, l_500, l_550, l_560, l_649, l_650, l_1000, l_1400, l_2000, l_4000, l_10000, iN_add, iN_sub, iN_mul, iN_le_t, iN_le_f, iN_lt_t, iN_lt_f, iN_eq_f, inb_iN, ix_iN, isZ_0, isZ_1, ↓reduceIte, eq_self, kd_b hp, phas_t hp hc hm hi]
/-- a plan copied -/
theorem pbecome_ok {o a mm : Nat} {G : G_} (ho : kd o = 2) (ha : kd a = 2) (hd : a + 4 ≤ o ∨ o + 4 ≤ a) (hc : G.1 a 4 = iN mm) (hm : mm ≤ 12) :
    ∃ G', f_X2_become o a G = some G' ∧ G'.1 o 3 = iN 1 ∧ G'.1 o 4 = iN mm ∧ G'.1 o 5 = sumS (fun i => G.1 (a + 3) i) mm ∧ (∀ i, i < mm → G'.1 (o + 1) i = G.1 (a + 1) i ∧ G'.1 (o + 2) i = G.1 (a + 2) i ∧ G'.1 (o + 3) i = G.1 (a + 3) i) ∧ (∀ q, (q < o ∨ o + 4 ≤ q) → G'.1 q = G.1 q) ∧ G'.2 = G.2 := by
  have hL : ∃ G', f_X2_become_l6_5 o a FU (iN 0) (sI (sI (sI G o 3 (iN 1)) o 4 (iN 0)) o 5 (iN 0)) = some G' ∧ G'.1 o 3 = iN 1 ∧ G'.1 o 4 = iN mm ∧ G'.1 o 5 = sumS (fun i => G.1 (a + 3) i) mm ∧ (∀ i, i < mm → G'.1 (o + 1) i = G.1 (a + 1) i ∧ G'.1 (o + 2) i = G.1 (a + 2) i ∧ G'.1 (o + 3) i = G.1 (a + 3) i) ∧ (∀ q, (q < o ∨ o + 4 ≤ q) → G'.1 q = G.1 q) ∧ G'.2 = G.2 := by
    refine loop_h (fun n v s => f_X2_become_l6_5 o a n v s) (fun j G' => G'.1 o 3 = iN 1 ∧ G'.1 o 4 = iN j ∧ G'.1 o 5 = sumS (fun i => G.1 (a + 3) i) j ∧ (∀ i, i < j → G'.1 (o + 1) i = G.1 (a + 1) i ∧ G'.1 (o + 2) i = G.1 (a + 2) i ∧ G'.1 (o + 3) i = G.1 (a + 3) i) ∧ (∀ q, (q < o ∨ o + 4 ≤ q) → G'.1 q = G.1 q) ∧ G'.2 = G.2) _ 0 mm ?_ ?_ (by omega) (n := FU) (fu_lt (by omega)) ?_
    · intro f j G2 h3 h5 ⟨i0, i1, i2, i3, i4, i5⟩
      have c : G2.1 a 4 = iN mm := by rw [i4 a (by omega)]; exact hc
      refine ⟨sI (sI (sI (sI (sI G2 (o + 1) j (G.1 (a + 1) j)) (o + 2) j (G.1 (a + 2) j)) (o + 3) j (G.1 (a + 3) j)) o 4 (iN (j + 1))) o 5 (sumS (fun i => G.1 (a + 3) i) j + G.1 (a + 3) j), ⟨?_, ?_, ?_, fun i hi => ?_, fun q hq => ?_, i5⟩, ?_⟩
      · simp (disch := omega) only [chk_t, beq_self_eq_true, nm_s, bj1_s, bj2_s, bj3_s, mo_1, mo_0, l_0, l_1, l_2, l_3, l_4, l_5, l_6, l_7, l_8, l_9, l_10, l_11, l_12, l_13, l_14, l_15, l_16, l_17, l_18, l_19, l_20, l_21, l_30, l_31, l_32, l_36, l_40, l_41, l_42, l_43, l_44, l_45, l_46, l_47, l_48, l_49, l_50, l_51, l_52, l_57, l_58, l_60, l_64, l_72, l_80, l_92, l_98, l_99, l_100, l_102, l_105, l_111, l_112, l_114, l_115, l_116, l_117, l_120, l_144, l_200, l_201, l_240, l_300, l_320, l_400, l_500, l_550, l_560, l_649, l_650, l_1000, l_1400, l_2000, l_4000, l_10000, iN_add, iN_sub, iN_mul, iN_le_t, iN_le_f, iN_lt_t, iN_lt_f, iN_eq_f, inb_iN, ix_iN, isZ_0, isZ_1, ↓reduceIte, eq_self, sI_eq, sI_j, sI_p]; exact i0
      · simp (disch := omega) only [chk_t, beq_self_eq_true, nm_s, bj1_s, bj2_s, bj3_s, mo_1, mo_0, l_0, l_1, l_2, l_3, l_4, l_5, l_6, l_7, l_8, l_9, l_10, l_11, l_12, l_13, l_14, l_15, l_16, l_17, l_18, l_19, l_20, l_21, l_30, l_31, l_32, l_36, l_40, l_41, l_42, l_43, l_44, l_45, l_46, l_47, l_48, l_49, l_50, l_51, l_52, l_57, l_58, l_60, l_64, l_72, l_80, l_92, l_98, l_99, l_100, l_102, l_105, l_111, l_112, l_114, l_115, l_116, l_117, l_120, l_144, l_200, l_201, l_240, l_300, l_320, l_400, l_500, l_550, l_560, l_649, l_650, l_1000, l_1400, l_2000, l_4000, l_10000, iN_add, iN_sub, iN_mul, iN_le_t, iN_le_f, iN_lt_t, iN_lt_f, iN_eq_f, inb_iN, ix_iN, isZ_0, isZ_1, ↓reduceIte, eq_self, sI_eq, sI_j, sI_p]
      · simp (disch := omega) only [chk_t, beq_self_eq_true, nm_s, bj1_s, bj2_s, bj3_s, mo_1, mo_0, l_0, l_1, l_2, l_3, l_4, l_5, l_6, l_7, l_8, l_9, l_10, l_11, l_12, l_13, l_14, l_15, l_16, l_17, l_18, l_19, l_20, l_21, l_30, l_31, l_32, l_36, l_40, l_41, l_42, l_43, l_44, l_45, l_46, l_47, l_48, l_49, l_50, l_51, l_52, l_57, l_58, l_60, l_64, l_72, l_80, l_92, l_98, l_99, l_100, l_102, l_105, l_111, l_112, l_114, l_115, l_116, l_117, l_120, l_144, l_200, l_201, l_240, l_300, l_320, l_400, l_500, l_550, l_560, l_649, l_650, l_1000, l_1400, l_2000, l_4000, l_10000, iN_add, iN_sub, iN_mul, iN_le_t, iN_le_f, iN_lt_t, iN_lt_f, iN_eq_f, inb_iN, ix_iN, isZ_0, isZ_1, ↓reduceIte, eq_self, sI_eq, sI_j, sI_p]; rfl
      · by_cases c : i = j
        · subst c
          simp (disch := omega) only [chk_t, beq_self_eq_true, nm_s, bj1_s, bj2_s, bj3_s, mo_1, mo_0, l_0, l_1, l_2, l_3, l_4, l_5, l_6, l_7, l_8, l_9, l_10, l_11, l_12, l_13, l_14, l_15, l_16, l_17, l_18, l_19, l_20, l_21, l_30, l_31, l_32, l_36, l_40, l_41, l_42, l_43, l_44, l_45, l_46, l_47, l_48, l_49, l_50, l_51, l_52, l_57, l_58, l_60, l_64, l_72, l_80, l_92, l_98, l_99, l_100, l_102, l_105, l_111, l_112, l_114, l_115, l_116, l_117, l_120, l_144, l_200, l_201, l_240, l_300, l_320, l_400, l_500, l_550, l_560, l_649, l_650, l_1000, l_1400, l_2000, l_4000, l_10000, iN_add, iN_sub, iN_mul, iN_le_t, iN_le_f, iN_lt_t, iN_lt_f, iN_eq_f, inb_iN, ix_iN, isZ_0, isZ_1, ↓reduceIte, eq_self, sI_eq, sI_j, sI_p, and_self]
        · simp (disch := omega) only [chk_t, beq_self_eq_true, nm_s, bj1_s, bj2_s, bj3_s, mo_1, mo_0, l_0, l_1, l_2, l_3, l_4, l_5, l_6, l_7, l_8, l_9, l_10, l_11, l_12, l_13, l_14, l_15, l_16, l_17, l_18, l_19, l_20, l_21, l_30, l_31, l_32, l_36, l_40, l_41, l_42, l_43, l_44, l_45, l_46, l_47, l_48, l_49, l_50, l_51, l_52, l_57, l_58, l_60, l_64, l_72, l_80, l_92, l_98, l_99, l_100, l_102, l_105, l_111, l_112, l_114, l_115, l_116, l_117, l_120, l_144, l_200, l_201, l_240, l_300, l_320, l_400, l_500, l_550, l_560, l_649, l_650, l_1000, l_1400, l_2000, l_4000, l_10000, iN_add, iN_sub, iN_mul, iN_le_t, iN_le_f, iN_lt_t, iN_lt_f, iN_eq_f, inb_iN, ix_iN, isZ_0, isZ_1, ↓reduceIte, eq_self, sI_j c, sI_p]
          exact i3 i (by omega)
      · rw [sI_p (by omega), sI_p (by omega), sI_p (by omega), sI_p (by omega), sI_p (by omega)]
        exact i4 q hq
      · show f_X2_become_l6_5 o a (f + 1) (iN j) G2 = _
        conv => lhs; unfold f_X2_become_l6_5
        unfold f_X2_add
        have r1 : G2.1 (a + 1) = G.1 (a + 1) := i4 _ (by omega)
        have r2 : G2.1 (a + 2) = G.1 (a + 2) := i4 _ (by omega)
        have r3 : G2.1 (a + 3) = G.1 (a + 3) := i4 _ (by omega)
        simp (disch := omega) only [chk_t, beq_self_eq_true, nm_s, bj1_s, bj2_s, bj3_s, mo_1, mo_0, l_0, l_1, l_2, l_3, l_4, l_5, l_6, l_7, l_8, l_9, l_10, l_11, l_12, l_13, l_14, l_15, l_16, l_17, l_18, l_19, l_20, l_21, l_30, l_31, l_32, l_36, l_40, l_41, l_42, l_43, l_44, l_45, l_46, l_47, l_48, l_49, l_50, l_51, l_52, l_57, l_58, l_60, l_64, l_72, l_80, l_92, l_98, l_99, l_100, l_102, l_105, l_111, l_112, l_114, l_115, l_116, l_117, l_120, l_144, l_200, l_201, l_240, l_300, l_320, l_400, l_500, l_550, l_560, l_649, l_650, l_1000, l_1400, l_2000, l_4000, l_10000, iN_add, iN_sub, iN_mul, iN_le_t, iN_le_f, iN_lt_t, iN_lt_f, iN_eq_f, inb_iN, ix_iN, isZ_0, isZ_1, ↓reduceIte, eq_self, c, pkind_t ha c hm h5, pheat_t ha c hm h5, plen_t ha c hm h5, r1, r2, r3, kd_b ho, i1, i2, sI_eq, sI_j, sI_p]
    · intro f G2 ⟨i0, i1, i2, i3, i4, i5⟩
      refine ⟨G2, ?_, i0, i1, i2, i3, i4, i5⟩
      have c : G2.1 a 4 = iN mm := by rw [i4 a (by omega)]; exact hc
      show f_X2_become_l6_5 o a (f + 1) (iN mm) G2 = _
      unfold f_X2_become_l6_5
      simp (disch := omega) only [chk_t, beq_self_eq_true, nm_s, bj1_s, bj2_s, bj3_s, mo_1, mo_0, l_0, l_1, l_2, l_3, l_4, l_5, l_6, l_7, l_8, l_9, l_10, l_11, l_12, l_13, l_14, l_15, l_16, l_17, l_18, l_19, l_20, l_21, l_30, l_31, l_32, l_36, l_40, l_41, l_42, l_43, l_44, l_45, l_46, l_47, l_48, l_49, l_50, l_51, l_52, l_57, l_58, l_60, l_64, l_72, l_80, l_92, l_98, l_99, l_100, l_102, l_105, l_111, l_112, l_114, l_115, l_116, l_117, l_120, l_144, l_200, l_201, l_240, l_300, l_320, l_400, l_500, l_550, l_560, l_649, l_650, l_1000, l_1400, l_2000, l_4000, l_10000, iN_add, iN_sub, iN_mul, iN_le_t, iN_le_f, iN_lt_t, iN_lt_f, iN_eq_f, inb_iN, ix_iN, isZ_0, isZ_1, ↓reduceIte, eq_self, c]
    · refine ⟨?_, ?_, ?_, fun i hi => by omega, fun q hq => by rw [sI_p (by omega), sI_p (by omega), sI_p (by omega)], rfl⟩
      · simp (disch := omega) only [chk_t, beq_self_eq_true, nm_s, bj1_s, bj2_s, bj3_s, mo_1, mo_0, l_0, l_1, l_2, l_3, l_4, l_5, l_6, l_7, l_8, l_9, l_10, l_11, l_12, l_13, l_14, l_15, l_16, l_17, l_18, l_19, l_20, l_21, l_30, l_31, l_32, l_36, l_40, l_41, l_42, l_43, l_44, l_45, l_46, l_47, l_48, l_49, l_50, l_51, l_52, l_57, l_58, l_60, l_64, l_72, l_80, l_92, l_98, l_99, l_100, l_102, l_105, l_111, l_112, l_114, l_115, l_116, l_117, l_120, l_144, l_200, l_201, l_240, l_300, l_320, l_400, l_500, l_550, l_560, l_649, l_650, l_1000, l_1400, l_2000, l_4000, l_10000, iN_add, iN_sub, iN_mul, iN_le_t, iN_le_f, iN_lt_t, iN_lt_f, iN_eq_f, inb_iN, ix_iN, isZ_0, isZ_1, ↓reduceIte, eq_self, sI_eq, sI_j, sI_p]
      · simp (disch := omega) only [chk_t, beq_self_eq_true, nm_s, bj1_s, bj2_s, bj3_s, mo_1, mo_0, l_0, l_1, l_2, l_3, l_4, l_5, l_6, l_7, l_8, l_9, l_10, l_11, l_12, l_13, l_14, l_15, l_16, l_17, l_18, l_19, l_20, l_21, l_30, l_31, l_32, l_36, l_40, l_41, l_42, l_43, l_44, l_45, l_46, l_47, l_48, l_49, l_50, l_51, l_52, l_57, l_58, l_60, l_64, l_72, l_80, l_92, l_98, l_99, l_100, l_102, l_105, l_111, l_112, l_114, l_115, l_116, l_117, l_120, l_144, l_200, l_201, l_240, l_300, l_320, l_400, l_500, l_550, l_560, l_649, l_650, l_1000, l_1400, l_2000, l_4000, l_10000, iN_add, iN_sub, iN_mul, iN_le_t, iN_le_f, iN_lt_t, iN_lt_f, iN_eq_f, inb_iN, ix_iN, isZ_0, isZ_1, ↓reduceIte, eq_self, sI_eq, sI_j, sI_p]
      · simp (disch := omega) only [chk_t, beq_self_eq_true, nm_s, bj1_s, bj2_s, bj3_s, mo_1, mo_0, l_0, l_1, l_2, l_3, l_4, l_5, l_6, l_7, l_8, l_9, l_10, l_11, l_12, l_13, l_14, l_15, l_16, l_17, l_18, l_19, l_20, l_21, l_30, l_31, l_32, l_36, l_40, l_41, l_42, l_43, l_44, l_45, l_46, l_47, l_48, l_49, l_50, l_51, l_52, l_57, l_58, l_60, l_64, l_72, l_80, l_92, l_98, l_99, l_100, l_102, l_105, l_111, l_112, l_114, l_115, l_116, l_117, l_120, l_144, l_200, l_201, l_240, l_300, l_320, l_400, l_500, l_550, l_560, l_649, l_650, l_1000, l_1400, l_2000, l_4000, l_10000, iN_add, iN_sub, iN_mul, iN_le_t, iN_le_f, iN_lt_t, iN_lt_f, iN_eq_f, inb_iN, ix_iN, isZ_0, isZ_1, ↓reduceIte, eq_self, sI_eq, sI_j, sI_p]; rfl
  obtain ⟨G', g, r⟩ := hL
  refine ⟨G', ?_, r⟩
  unfold f_X2_become f_X2_begin
  simp (disch := omega) only [chk_t, beq_self_eq_true, nm_s, bj1_s, bj2_s, bj3_s, mo_1, mo_0, l_0, l_1, l_2, l_3, l_4, l_5, l_6, l_7, l_8, l_9, l_10, l_11, l_12, l_13, l_14, l_15, l_16, l_17, l_18, l_19, l_20, l_21, l_30, l_31, l_32, l_36, l_40, l_41, l_42, l_43, l_44, l_45, l_46, l_47, l_48, l_49, l_50, l_51, l_52, l_57, l_58, l_60, l_64, l_72, l_80, l_92, l_98, l_99, l_100, l_102, l_105, l_111, l_112, l_114, l_115, l_116, l_117, l_120, l_144, l_200, l_201, l_240, l_300, l_320, l_400, l_500, l_550, l_560, l_649, l_650, l_1000, l_1400, l_2000, l_4000, l_10000, iN_add, iN_sub, iN_mul, iN_le_t, iN_le_f, iN_lt_t, iN_lt_f, iN_eq_f, inb_iN, ix_iN, isZ_0, isZ_1, ↓reduceIte, eq_self, kd_b ho, kd_b ha, g]
theorem mD_N {D : Nat → Int32} {mm : Nat} (h : D 4 = iN mm) (hm : mm ≤ 12) : mD D = mm := by
  unfold mD
  rw [h, ix_iN (by omega)]
theorem sumS_congr {f g : Nat → Int32} {n : Nat} (h : ∀ i, i < n → f i = g i) : sumS f n = sumS g n := by
  induction n with
  | zero => rfl
  | succ n ih =>
    show sumS f n + f n = sumS g n + g n
    rw [ih (fun i hi => h i (by omega)), h n (by omega)]
/-- the plan of a dish, at a place of its own -/
def tkS (X : Nat → Int32) : Int32 := sumS (fun i => X (5 + 3 * i + 2)) (mD X)
def cPl (p : Nat) (X : Nat → Int32) (G : G_) : Prop := G.1 p 4 = X 4 ∧ G.1 p 5 = tkS X ∧ ∀ i, i < mD X → G.1 (p + 1) i = X (5 + 3 * i) ∧ G.1 (p + 2) i = X (5 + 3 * i + 1) ∧ G.1 (p + 3) i = X (5 + 3 * i + 2)
theorem cturn_ok {o n mm at_ g : Nat} {D : Nat → Int32} {G : G_} (ho : kd o = 0) (hw : wfD D n) (hp : plD D mm at_ g) (h : cD o D G) : ∃ G', f_X0_turnAndDry o G = some G' ∧ cD o (onceS 12 D) G' ∧ fr o G G' := by
  have hk : kd (o + 7) = 2 := sh_X0_plan ho
  have key : ∀ (d k fu : Nat) (D : Nat → Int32) (at_ : Nat) (G : G_), k + d = 12 → d < fu → wfD D n → plD D mm at_ g → cD o D G → ∃ G', f_X0_turnAndDry_l2_3 o fu (iN k) G = some G' ∧ cD o (onceS d D) G' ∧ fr o G G' := by
    intro d
    induction d with
    | zero =>
      intro k fu D at_ G h1 h2 hw hp h
      obtain ⟨fu, rfl⟩ : ∃ k, fu = k + 1 := ⟨fu - 1, by omega⟩
      refine ⟨G, ?_, h, fr_refl⟩
      unfold f_X0_turnAndDry_l2_3
      simp (disch := omega) only [chk_t, beq_self_eq_true, nm_s, bj1_s, bj2_s, bj3_s, mo_1, mo_0, l_0, l_1, l_2, l_3, l_4, l_5, l_6, l_7, l_8, l_9, l_10, l_11, l_12, l_13, l_14, l_15, l_16, l_17, l_18, l_19, l_20, l_21, l_30, l_31, l_32, l_36, l_40, l_41, l_42, l_43, l_44, l_45, l_46, l_47, l_48, l_49, l_50, l_51, l_52, l_57, l_58, l_60, l_64, l_72, l_80, l_92, l_98, l_99, l_100, l_102, l_105, l_111, l_112, l_114, l_115, l_116, l_117, l_120, l_144, l_200, l_201, l_240, l_300, l_320, l_400, l_500, l_550, l_560, l_649, l_650, l_1000, l_1400, l_2000, l_4000, l_10000, iN_add, iN_sub, iN_mul, iN_le_t, iN_le_f, iN_lt_t, iN_lt_f, iN_eq_f, inb_iN, ix_iN, isZ_0, isZ_1, ↓reduceIte, eq_self]
    | succ d ih =>
      intro k fu D at_ G h1 h2 hw hp h
      obtain ⟨fu, rfl⟩ : ∃ k, fu = k + 1 := ⟨fu - 1, by omega⟩
      have p1 := hp.1
      have p2 := hp.2.1
      have p3 := hp.2.2.1
      have p4 := hp.2.2.2.1
      have hz := dz_of hw.1 hw.2.1
      have r13 : G.1 o 13 = iN at_ := (c_13 h).trans p3
      have rc : G.1 (o + 7) 4 = iN mm := (c_cnt h).trans p1
      have em := mD_N p1 p2
      unfold f_X0_turnAndDry_l2_3
      rcases pl_cases hp with ⟨c, e⟩ | ⟨c, e, a, e1, e2, e3, e4⟩
      · have eo : onceS (d + 1) D = D := by
          unfold onceS
          rw [if_pos (of_eq_true e)]
        refine ⟨G, ?_, by rw [eo]; exact h, fr_refl⟩
        simp (disch := omega) only [chk_t, beq_self_eq_true, nm_s, bj1_s, bj2_s, bj3_s, mo_1, mo_0, l_0, l_1, l_2, l_3, l_4, l_5, l_6, l_7, l_8, l_9, l_10, l_11, l_12, l_13, l_14, l_15, l_16, l_17, l_18, l_19, l_20, l_21, l_30, l_31, l_32, l_36, l_40, l_41, l_42, l_43, l_44, l_45, l_46, l_47, l_48, l_49, l_50, l_51, l_52, l_57, l_58, l_60, l_64, l_72, l_80, l_92, l_98, l_99, l_100, l_102, l_105, l_111, l_112, l_114, l_115, l_116, l_117, l_120, l_144, l_200, l_201, l_240, l_300, l_320, l_400, l_500, l_550, l_560, l_649, l_650, l_1000, l_1400, l_2000, l_4000, l_10000, iN_add, iN_sub, iN_mul, iN_le_t, iN_le_f, iN_lt_t, iN_lt_f, iN_eq_f, inb_iN, ix_iN, isZ_0, isZ_1, ↓reduceIte, eq_self, r13, pkind_f hk rc p2 (show mm ≤ at_ by omega) (show at_ ≤ 1000 by omega)]
      · have rk : G.1 (o + 7 + 1) at_ = iN a := (c_k h (by rw [em]; exact c)).trans e2
        by_cases c2 : a ≤ 4
        · have e5 : (iN a ≤ iN 4) = True := iN_le_t c2 (by omega)
          have eo : onceS (d + 1) D = D := by
            unfold onceS
            rw [if_neg (of_eq_false e), e1, if_pos (of_eq_true e5)]
          refine ⟨G, ?_, by rw [eo]; exact h, fr_refl⟩
          simp (disch := omega) only [chk_t, beq_self_eq_true, nm_s, bj1_s, bj2_s, bj3_s, mo_1, mo_0, l_0, l_1, l_2, l_3, l_4, l_5, l_6, l_7, l_8, l_9, l_10, l_11, l_12, l_13, l_14, l_15, l_16, l_17, l_18, l_19, l_20, l_21, l_30, l_31, l_32, l_36, l_40, l_41, l_42, l_43, l_44, l_45, l_46, l_47, l_48, l_49, l_50, l_51, l_52, l_57, l_58, l_60, l_64, l_72, l_80, l_92, l_98, l_99, l_100, l_102, l_105, l_111, l_112, l_114, l_115, l_116, l_117, l_120, l_144, l_200, l_201, l_240, l_300, l_320, l_400, l_500, l_550, l_560, l_649, l_650, l_1000, l_1400, l_2000, l_4000, l_10000, iN_add, iN_sub, iN_mul, iN_le_t, iN_le_f, iN_lt_t, iN_lt_f, iN_eq_f, inb_iN, ix_iN, isZ_0, isZ_1, ↓reduceIte, eq_self, r13, pkind_t hk rc p2 c, rk, e5]
        · have e5 : (iN a ≤ iN 4) = False := iN_le_f (by omega) (by omega)
          have hp1 := (plD_onc1 hp c e2 (by omega) e4).1
          have eo : onceS (d + 1) D = onceS d (onc1 D) := by
            conv => lhs; unfold onceS
            rw [if_neg (of_eq_false e), e1, if_neg (of_eq_false e5)]
          rw [eo]
          by_cases c5 : a = 5
          · subst c5
            have e6 : onc1 D = up (up D 44 (iN 1 - D 44)) 41 (iN (at_ + 1)) := by
              unfold onc1
              rw [if_pos e1, p3, iN_add]
            have hc := cD_0 (dz_up (p := 44) (x := iN 1 - D 44) hz (by omega) (by omega)) (cD_0 hz h 11 44 (iN 1 - D 44) (by omega) rfl) 13 41 (iN (at_ + 1)) (by omega) rfl
            rw [← e6] at hc
            obtain ⟨G', g1, g2, g3⟩ := ih (k + 1) fu (onc1 D) (at_ + 1) _ (by omega) (by omega) (wf_onc1 hw) hp1 hc
            refine ⟨G', ?_, g2, fr_tr (fr_sI (fr_sI fr_refl (by omega) (by omega) (Or.inr (by omega))) (by omega) (by omega) (Or.inr (by omega))) g3⟩
            simp (disch := omega) only [chk_t, beq_self_eq_true, nm_s, bj1_s, bj2_s, bj3_s, mo_1, mo_0, l_0, l_1, l_2, l_3, l_4, l_5, l_6, l_7, l_8, l_9, l_10, l_11, l_12, l_13, l_14, l_15, l_16, l_17, l_18, l_19, l_20, l_21, l_30, l_31, l_32, l_36, l_40, l_41, l_42, l_43, l_44, l_45, l_46, l_47, l_48, l_49, l_50, l_51, l_52, l_57, l_58, l_60, l_64, l_72, l_80, l_92, l_98, l_99, l_100, l_102, l_105, l_111, l_112, l_114, l_115, l_116, l_117, l_120, l_144, l_200, l_201, l_240, l_300, l_320, l_400, l_500, l_550, l_560, l_649, l_650, l_1000, l_1400, l_2000, l_4000, l_10000, iN_add, iN_sub, iN_mul, iN_le_t, iN_le_f, iN_lt_t, iN_lt_f, iN_eq_f, inb_iN, ix_iN, isZ_0, isZ_1, ↓reduceIte, eq_self, r13, pkind_t hk rc p2 c, rk, e5, c_11 h, sI_j, g1]
          · have e7 : (iN a = iN 5) = False := iN_eq_f c5 (by omega) (by omega)
            have e6 : onc1 D = up (up (up D 48 (iN 0)) 49 (iN 0)) 41 (iN (at_ + 1)) := by
              unfold onc1
              rw [e1, if_neg (of_eq_false e7), p3, iN_add]
            have hc := cD_0 (dz_up (p := 49) (x := iN 0) (dz_up (p := 48) (x := iN 0) hz (by omega) (by omega)) (by omega) (by omega)) (cD_wet (s := 1) (dz_up (p := 48) (x := iN 0) hz (by omega) (by omega)) (cD_wet (s := 0) hz h (iN 0) (by omega)) (iN 0) (by omega)) 13 41 (iN (at_ + 1)) (by omega) rfl
            rw [← e6] at hc
            obtain ⟨G', g1, g2, g3⟩ := ih (k + 1) fu (onc1 D) (at_ + 1) _ (by omega) (by omega) (wf_onc1 hw) hp1 hc
            refine ⟨G', ?_, g2, fr_tr (fr_sI (fr_sI (fr_sI fr_refl (by omega) (by omega) (Or.inl (by omega))) (by omega) (by omega) (Or.inl (by omega))) (by omega) (by omega) (Or.inr (by omega))) g3⟩
            simp (disch := omega) only [chk_t, beq_self_eq_true, nm_s, bj1_s, bj2_s, bj3_s, mo_1, mo_0, l_0, l_1, l_2, l_3, l_4, l_5, l_6, l_7, l_8, l_9, l_10, l_11, l_12, l_13, l_14, l_15, l_16, l_17, l_18, l_19, l_20, l_21, l_30, l_31, l_32, l_36, l_40, l_41, l_42, l_43, l_44, l_45, l_46, l_47, l_48, l_49, l_50, l_51, l_52, l_57, l_58, l_60, l_64, l_72, l_80, l_92, l_98, l_99, l_100, l_102, l_105, l_111, l_112, l_114, l_115, l_116, l_117, l_120, l_144, l_200, l_201, l_240, l_300, l_320, l_400, l_500, l_550, l_560, l_649, l_650, l_1000, l_1400, l_2000, l_4000, l_10000, iN_add, iN_sub, iN_mul, iN_le_t, iN_le_f, iN_lt_t, iN_lt_f, iN_eq_f, inb_iN, ix_iN, isZ_0, isZ_1, ↓reduceIte, eq_self, r13, pkind_t hk rc p2 c, rk, e5, e7, sI_p, g1]
  obtain ⟨G', g1, g2, g3⟩ := key 12 0 FU D at_ G (by omega) (fu_lt (by omega)) hw hp h
  refine ⟨G', ?_, g2, g3⟩
  unfold f_X0_turnAndDry
  simp (disch := omega) only [chk_t, beq_self_eq_true, nm_s, bj1_s, bj2_s, bj3_s, mo_1, mo_0, l_0, l_1, l_2, l_3, l_4, l_5, l_6, l_7, l_8, l_9, l_10, l_11, l_12, l_13, l_14, l_15, l_16, l_17, l_18, l_19, l_20, l_21, l_30, l_31, l_32, l_36, l_40, l_41, l_42, l_43, l_44, l_45, l_46, l_47, l_48, l_49, l_50, l_51, l_52, l_57, l_58, l_60, l_64, l_72, l_80, l_92, l_98, l_99, l_100, l_102, l_105, l_111, l_112, l_114, l_115, l_116, l_117, l_120, l_144, l_200, l_201, l_240, l_300, l_320, l_400, l_500, l_550, l_560, l_649, l_650, l_1000, l_1400, l_2000, l_4000, l_10000, iN_add, iN_sub, iN_mul, iN_le_t, iN_le_f, iN_lt_t, iN_lt_f, iN_eq_f, inb_iN, ix_iN, isZ_0, isZ_1, ↓reduceIte, eq_self, kd_b ho, g1]
theorem cgo_ok {o n mm c : Nat} {D : Nat → Int32} {G : G_} (ho : kd o = 0) (hg : gD D n mm) (hc : c ≤ 700) (h : cD o D G) : ∃ G', f_X0_goOn o (iN c) G = some G' ∧ cD o (goS D c) G' ∧ fr o G G' := by
  have hk : kd (o + 7) = 2 := sh_X0_plan ho
  have hL : ∃ A, f_X0_goOn_l2_3 o (iN c) FU (iN 0) G = some A ∧ cD o (goS D c) A ∧ fr o G A := by
    refine loop_h (fun n v s => f_X0_goOn_l2_3 o (iN c) n v s) (fun j G2 => cD o (goS D j) G2 ∧ fr o G G2) _ 0 c ?_ ?_ (by omega) (n := FU) (fu_lt (by omega)) ⟨h, fr_refl⟩
    · intro f j G2 h3 h5 ⟨i1, i2⟩
      have hgj := gD_go (k := j) hg
      obtain ⟨at0, g0, hp0⟩ := hgj.2
      obtain ⟨B, hB, cB, fB⟩ := cturn_ok ho hgj.1 hp0 i1
      obtain ⟨E, at_, g, eE, hw, hp, hm, ⟨c1, e, e2⟩ | ⟨c1, a, b, c', h1, h2, h4, h6, h7, h8, h9, h10, e2, e⟩⟩ := go1_cases hgj
      · obtain ⟨p1, p2, p3, p4, p5, p6, p7⟩ := hp
        rw [← eE] at cB
        obtain ⟨A, gA, cA, fA⟩ := heat_ok (k := iN 4) ho hw qR_0 cB
        rw [← e] at cA
        refine ⟨A, ⟨cA, fr_tr i2 (fr_tr fB fA)⟩, ?_⟩
        have r13 : B.1 o 13 = iN at_ := (c_13 cB).trans p3
        have rc : B.1 (o + 7) 4 = iN mm := (c_cnt cB).trans p1
        show f_X0_goOn_l2_3 o (iN c) (f + 1) (iN j) _ = _
        conv => lhs; unfold f_X0_goOn_l2_3
        simp (disch := omega) only [chk_t, beq_self_eq_true, nm_s, bj1_s, bj2_s, bj3_s, mo_1, mo_0, l_0, l_1, l_2, l_3, l_4, l_5, l_6, l_7, l_8, l_9, l_10, l_11, l_12, l_13, l_14, l_15, l_16, l_17, l_18, l_19, l_20, l_21, l_30, l_31, l_32, l_36, l_40, l_41, l_42, l_43, l_44, l_45, l_46, l_47, l_48, l_49, l_50, l_51, l_52, l_57, l_58, l_60, l_64, l_72, l_80, l_92, l_98, l_99, l_100, l_102, l_105, l_111, l_112, l_114, l_115, l_116, l_117, l_120, l_144, l_200, l_201, l_240, l_300, l_320, l_400, l_500, l_550, l_560, l_649, l_650, l_1000, l_1400, l_2000, l_4000, l_10000, iN_add, iN_sub, iN_mul, iN_le_t, iN_le_f, iN_lt_t, iN_lt_f, iN_eq_f, inb_iN, ix_iN, isZ_0, isZ_1, ↓reduceIte, eq_self, hB, r13, phas_f hk rc p2 (show mm ≤ at_ by omega) (show at_ ≤ 1000 by omega), gA]
      · have hp' := plD_tick (k := iN a) (q := iN b) hp
        obtain ⟨p1, p2, p3, p4, p5, p6, p7⟩ := hp
        rw [← eE] at cB
        have em := mD_N p1 p2
        obtain ⟨A, gA, cA, fA⟩ := heat_ok (k := iN a) ho hw (qR_N h8) cB
        have wA := wf_tick (k := iN a) hw (qR_N h8)
        have zA := dz_of wA.1 wA.2.1
        have emA := mD_N hp'.1 p2
        have r13 : B.1 o 13 = iN at_ := (c_13 cB).trans p3
        have rc : B.1 (o + 7) 4 = iN mm := (c_cnt cB).trans p1
        have rk : B.1 (o + 7 + 1) at_ = iN a := (c_k cB (by rw [em]; exact c1)).trans h1
        have rq : B.1 (o + 7 + 2) at_ = iN b := (c_q cB (by rw [em]; exact c1)).trans h2
        have s13 : A.1 o 13 = iN at_ := (c_13 cA).trans hp'.2.2.1
        have s14 : A.1 o 14 = iN g := (c_14 cA).trans hp'.2.2.2.2.1
        have sc : A.1 (o + 7) 4 = iN mm := (c_cnt cA).trans hp'.1
        have sl : A.1 (o + 7 + 3) at_ = iN c' := (c_l cA (by rw [emA]; exact c1)).trans ((tickS_lo (by omega)).trans h4)
        have sc1 : (sI A o 14 (iN (g + 1))).1 (o + 7) 4 = iN mm := by rw [sI_p (by omega)]; exact sc
        have sl1 : (sI A o 14 (iN (g + 1))).1 (o + 7 + 3) at_ = iN c' := by rw [sI_p (by omega)]; exact sl
        by_cases c9 : g + 1 = c'
        · have e10 : (iN (g + 1) < iN c') = False := iN_lt_f (by omega) (by omega)
          refine ⟨sI (sI (sI A o 14 (iN (g + 1))) o 13 (iN (at_ + 1))) o 14 (iN 0), ⟨?_, fr_tr i2 (fr_tr fB (fr_tr fA (fr_sI (fr_sI (fr_sI fr_refl (by omega) (by omega) (Or.inr (by omega))) (by omega) (by omega) (Or.inr (by omega))) (by omega) (by omega) (Or.inr (by omega)))))⟩, ?_⟩
          · show cD o (go1 (goS D j)) _
            rw [e, if_pos c9, up_com (p := 42) (q := 41) (by omega), ← up_up (D := up (tickS (iN a) (iN b) E) 41 (iN (at_ + 1))) (p := 42) (x := iN (g + 1)), up_com (p := 41) (q := 42) (by omega)]
            exact cD_0 (dz_up (dz_up zA (by omega) (by omega)) (by omega) (by omega)) (cD_0 (dz_up zA (by omega) (by omega)) (cD_0 zA cA 14 42 (iN (g + 1)) (by omega) rfl) 13 41 (iN (at_ + 1)) (by omega) rfl) 14 42 (iN 0) (by omega) rfl
          · show f_X0_goOn_l2_3 o (iN c) (f + 1) (iN j) _ = _
            conv => lhs; unfold f_X0_goOn_l2_3
            simp (disch := omega) only [chk_t, beq_self_eq_true, nm_s, bj1_s, bj2_s, bj3_s, mo_1, mo_0, l_0, l_1, l_2, l_3, l_4, l_5, l_6, l_7, l_8, l_9, l_10, l_11, l_12, l_13, l_14, l_15, l_16, l_17, l_18, l_19, l_20, l_21, l_30, l_31, l_32, l_36, l_40, l_41, l_42, l_43, l_44, l_45, l_46, l_47, l_48, l_49, l_50, l_51, l_52, l_57, l_58, l_60, l_64, l_72, l_80, l_92, l_98, l_99, l_100, l_102, l_105, l_111, l_112, l_114, l_115, l_116, l_117, l_120, l_144, l_200, l_201, l_240, l_300, l_320, l_400, l_500, l_550, l_560, l_649, l_650, l_1000, l_1400, l_2000, l_4000, l_10000, iN_add, iN_sub, iN_mul, iN_le_t, iN_le_f, iN_lt_t, iN_lt_f, iN_eq_f, inb_iN, ix_iN, isZ_0, isZ_1, ↓reduceIte, eq_self, hB, r13, phas_t hk rc p2 c1, pkind_t hk rc p2 c1, pheat_t hk rc p2 c1, rk, rq, gA, s14, s13, sI_eq, sI_j, plen_t hk sc1 p2 c1, sl1, e10]
        · have e10 : (iN (g + 1) < iN c') = True := iN_lt_t (by omega) (by omega)
          refine ⟨sI A o 14 (iN (g + 1)), ⟨?_, fr_tr i2 (fr_tr fB (fr_tr fA (fr_sI fr_refl (by omega) (by omega) (Or.inr (by omega)))))⟩, ?_⟩
          · show cD o (go1 (goS D j)) _
            rw [e, if_neg c9]
            exact cD_0 zA cA 14 42 (iN (g + 1)) (by omega) rfl
          · show f_X0_goOn_l2_3 o (iN c) (f + 1) (iN j) _ = _
            conv => lhs; unfold f_X0_goOn_l2_3
            simp (disch := omega) only [chk_t, beq_self_eq_true, nm_s, bj1_s, bj2_s, bj3_s, mo_1, mo_0, l_0, l_1, l_2, l_3, l_4, l_5, l_6, l_7, l_8, l_9, l_10, l_11, l_12, l_13, l_14, l_15, l_16, l_17, l_18, l_19, l_20, l_21, l_30, l_31, l_32, l_36, l_40, l_41, l_42, l_43, l_44, l_45, l_46, l_47, l_48, l_49, l_50, l_51, l_52, l_57, l_58, l_60, l_64, l_72, l_80, l_92, l_98, l_99, l_100, l_102, l_105, l_111, l_112, l_114, l_115, l_116, l_117, l_120, l_144, l_200, l_201, l_240, l_300, l_320, l_400, l_500, l_550, l_560, l_649, l_650, l_1000, l_1400, l_2000, l_4000, l_10000, iN_add, iN_sub, iN_mul, iN_le_t, iN_le_f, iN_lt_t, iN_lt_f, iN_eq_f, inb_iN, ix_iN, isZ_0, isZ_1, ↓reduceIte, eq_self, hB, r13, phas_t hk rc p2 c1, pkind_t hk rc p2 c1, pheat_t hk rc p2 c1, rk, rq, gA, s14, s13, sI_eq, sI_j, plen_t hk sc1 p2 c1, sl1, e10]
    · intro f G2 ⟨i1, i2⟩
      refine ⟨G2, ?_, i1, i2⟩
      show f_X0_goOn_l2_3 o (iN c) (f + 1) (iN c) G2 = _
      unfold f_X0_goOn_l2_3
      simp (disch := omega) only [chk_t, beq_self_eq_true, nm_s, bj1_s, bj2_s, bj3_s, mo_1, mo_0, l_0, l_1, l_2, l_3, l_4, l_5, l_6, l_7, l_8, l_9, l_10, l_11, l_12, l_13, l_14, l_15, l_16, l_17, l_18, l_19, l_20, l_21, l_30, l_31, l_32, l_36, l_40, l_41, l_42, l_43, l_44, l_45, l_46, l_47, l_48, l_49, l_50, l_51, l_52, l_57, l_58, l_60, l_64, l_72, l_80, l_92, l_98, l_99, l_100, l_102, l_105, l_111, l_112, l_114, l_115, l_116, l_117, l_120, l_144, l_200, l_201, l_240, l_300, l_320, l_400, l_500, l_550, l_560, l_649, l_650, l_1000, l_1400, l_2000, l_4000, l_10000, iN_add, iN_sub, iN_mul, iN_le_t, iN_le_f, iN_lt_t, iN_lt_f, iN_eq_f, inb_iN, ix_iN, isZ_0, isZ_1, ↓reduceIte, eq_self]
  obtain ⟨A, hA, cA, fA⟩ := hL
  refine ⟨A, ?_, cA, fA⟩
  unfold f_X0_goOn
  simp (disch := omega) only [chk_t, beq_self_eq_true, nm_s, bj1_s, bj2_s, bj3_s, mo_1, mo_0, l_0, l_1, l_2, l_3, l_4, l_5, l_6, l_7, l_8, l_9, l_10, l_11, l_12, l_13, l_14, l_15, l_16, l_17, l_18, l_19, l_20, l_21, l_30, l_31, l_32, l_36, l_40, l_41, l_42, l_43, l_44, l_45, l_46, l_47, l_48, l_49, l_50, l_51, l_52, l_57, l_58, l_60, l_64, l_72, l_80, l_92, l_98, l_99, l_100, l_102, l_105, l_111, l_112, l_114, l_115, l_116, l_117, l_120, l_144, l_200, l_201, l_240, l_300, l_320, l_400, l_500, l_550, l_560, l_649, l_650, l_1000, l_1400, l_2000, l_4000, l_10000, iN_add, iN_sub, iN_mul, iN_le_t, iN_le_f, iN_lt_t, iN_lt_f, iN_eq_f, inb_iN, ix_iN, isZ_0, isZ_1, ↓reduceIte, eq_self, kd_b ho, hA]
/-- a plan by its row of numbers; what a dish is that is made by it -/
def plR (X : Nat → Int32) (mm : Nat) : Prop := X 4 = iN mm ∧ mm ≤ 12 ∧ (∀ i, i < mm → stOK X i) ∧ ∃ T : Nat, T ≤ 200 ∧ tkS X = iN T
def mkS (X : Nat → Int32) : Nat → Int32 := onceS 12 (goS (bgS X) (ix (tkS X)))
theorem pl_bg {X : Nat → Int32} {mm : Nat} (h : plR X mm) : plD (bgS X) mm 0 0 := by
  obtain ⟨h1, h2, h3, -⟩ := h
  exact ⟨(bg_lo (by omega)).trans h1, h2, bg_41 (by omega) (by omega), by omega, bg_41 (by omega) (by omega), fun i hi => stOK_keep (h3 i hi) (by omega) (fun p hp => bg_lo hp), Or.inl rfl⟩
theorem gD_bg {X : Nat → Int32} {n mm : Nat} (hs : slR X n) (h : plR X mm) : gD (bgS X) n mm := ⟨wf_bg hs (by rw [mD_N h.1 h.2.1]; exact h.2.1), 0, 0, pl_bg h⟩
theorem wf_mk {X : Nat → Int32} {n mm : Nat} (hs : slR X n) (h : plR X mm) : wfD (mkS X) n := wf_once (gD_go (gD_bg hs h)).1
theorem bg_x4 {X : Nat → Int32} {p : Nat} {x : Int32} (h : p ≠ 4) : bgS (up X 4 x) p = bgS X p := by
  have e : nD (up X 4 x) = nD X := nD_of (up_ne (by omega))
  unfold bgS
  rw [e, up_ne (show 2 ≠ 4 by omega), up_ne (show 1 ≠ 4 by omega), up_ne h]
/-- a dish begun, with a plan -/
theorem beginP_ok {o a b n mm : Nat} {X : Nat → Int32} {G : G_} (ho : kd o = 0) (ha : kd a = 5) (hd : a < o ∨ o + 11 ≤ a) (hb : kd b = 2) (hdb : b + 4 ≤ o ∨ o + 11 ≤ b) (hn : okN X n) (h1 : G.1 a 2 = X 1) (h3 : G.1 a 4 = X 3) (hp : X 4 = iN mm) (hm : mm ≤ 12) (hP : cPl b X G) :
    ∃ G1 G2, f_X0_begin o a (iN n) (X 2) G = some G1 ∧ f_X2_become (o + 7) b G1 = some G2 ∧ cD o (bgS X) G2 ∧ fr o G G1 ∧ fr o G1 G2 := by
  have hk : kd (o + 7) = 2 := sh_X0_plan ho
  have h2 := hn.2
  have hnn := okN_n hn
  obtain ⟨G1, g1, c1, f1⟩ := begin_ok (X := up X 4 (iN 0)) ho ha hd (okN_keep hn (up_ne (by omega))) (by rw [up_ne (by omega)]; exact h1) (by rw [up_ne (by omega)]; exact h3) up_eq
  rw [up_ne (by omega)] at g1
  have eb : ∀ q, q = b ∨ q = b + 1 ∨ q = b + 2 ∨ q = b + 3 → G1.1 q = G.1 q := fun q hq => f1.1.1 q (by omega)
  have hc : G1.1 b 4 = iN mm := by rw [eb b (by omega)]; exact hP.1.trans hp
  obtain ⟨G2, g2, -, d4, -, d6, d7, d8⟩ := pbecome_ok hk hb (by omega) hc hm
  refine ⟨G1, G2, g1, g2, ?_, f1, ⟨fun q hq => d7 q (by omega), d8⟩, by rw [d7 o (by omega)]⟩
  have em := mD_N hp hm
  have en2 : nD (bgS X) = n := by rw [nD_of (bg_lo (by omega))]; exact hnn
  have em2 : mD (bgS X) = mm := by rw [mD_of (bg_lo (by omega))]; exact em
  have en1 : nD (bgS (up X 4 (iN 0))) = n := by rw [nD_of (bg_lo (by omega)), nD_of (up_ne (by omega))]; exact hnn
  intro d j hcok
  rw [en2, em2] at hcok
  have stp : ∀ p, p < 41 → bgS X p = X p := fun p hp => bg_lo hp
  by_cases c : d ≤ 6
  · have e : cok (nD (bgS (up X 4 (iN 0)))) (mD (bgS (up X 4 (iN 0)))) d j := by
      rw [en1]
      unfold cok at hcok ⊢
      omega
    have hne : ci d j ≠ 4 := by
      intro e4
      have a := ci_inv h2.2 hm hcok
      rw [e4] at a
      have : icd 4 = 7 := rfl
      omega
    rw [d7 (o + d) (by omega), c1 d j e, bg_x4 hne]
  · have hcc : (d = 7 ∧ j = 4) ∨ (d = 8 ∧ j < mm) ∨ (d = 9 ∧ j < mm) ∨ (d = 10 ∧ j < mm) := by unfold cok at hcok; omega
    rcases hcc with ⟨rfl, rfl⟩ | ⟨rfl, hj⟩ | ⟨rfl, hj⟩ | ⟨rfl, hj⟩
    · show G2.1 (o + 7) 4 = bgS X 4
      rw [stp 4 (by omega), hp]; exact d4
    · show G2.1 (o + 7 + 1) j = bgS X (5 + 3 * j)
      rw [stp _ (by omega), (d6 j hj).1, eb _ (by omega)]
      exact (hP.2.2 j (by rw [em]; exact hj)).1
    · show G2.1 (o + 7 + 2) j = bgS X (5 + 3 * j + 1)
      rw [stp _ (by omega), (d6 j hj).2.1, eb _ (by omega)]
      exact (hP.2.2 j (by rw [em]; exact hj)).2.1
    · show G2.1 (o + 7 + 3) j = bgS X (5 + 3 * j + 2)
      rw [stp _ (by omega), (d6 j hj).2.2, eb _ (by omega)]
      exact (hP.2.2 j (by rw [em]; exact hj)).2.2
theorem mkPl_ok {o a b n mm : Nat} {X : Nat → Int32} {G : G_} (ho : kd o = 0) (ha : kd a = 5) (hd : a < o ∨ o + 11 ≤ a) (hb : kd b = 2) (hdb : b + 4 ≤ o ∨ o + 11 ≤ b) (hs : slR X n) (h1 : G.1 a 2 = X 1) (h3 : G.1 a 4 = X 3) (hp : plR X mm) (hP : cPl b X G) :
    ∃ G', f_X0_makeByPlan o a (iN n) (X 2) b G = some G' ∧ cD o (mkS X) G' ∧ fr o G G' := by
  obtain ⟨G1, G2, g1, g2, c2, f1, f2⟩ := beginP_ok ho ha hd hb hdb hs.1 h1 h3 hp.1 hp.2.1 hP
  obtain ⟨T, hT, eT⟩ := hp.2.2.2
  have hg := gD_bg hs hp
  have e5 : G2.1 b 5 = iN T := by
    rw [f2.1.1 b (by omega), f1.1.1 b (by omega), hP.2.1, eT]
  have eI : ix (tkS X) = T := by rw [eT, ix_iN (by omega)]
  obtain ⟨G3, g3, c3, f3⟩ := cgo_ok (c := T) ho hg (by omega) c2
  have hg3 := gD_go (k := T) hg
  obtain ⟨at_, g, hp3⟩ := hg3.2
  obtain ⟨G4, g4, c4, f4⟩ := cturn_ok ho hg3.1 hp3 c3
  refine ⟨G4, ?_, ?_, fr_tr f1 (fr_tr f2 (fr_tr f3 f4))⟩
  · unfold f_X0_makeByPlan
    simp (disch := omega) only [chk_t, beq_self_eq_true, nm_s, bj1_s, bj2_s, bj3_s, mo_1, mo_0, l_0, l_1, l_2, l_3, l_4, l_5, l_6, l_7, l_8, l_9, l_10, l_11, l_12, l_13, l_14, l_15, l_16, l_17, l_18, l_19, l_20, l_21, l_30, l_31, l_32, l_36, l_40, l_41, l_42, l_43, l_44, l_45, l_46, l_47, l_48, l_49, l_50, l_51, l_52, l_57, l_58, l_60, l_64, l_72, l_80, l_92, l_98, l_99, l_100, l_102, l_105, l_111, l_112, l_114, l_115, l_116, l_117, l_120, l_144, l_200, l_201, l_240, l_300, l_320, l_400, l_500, l_550, l_560, l_649, l_650, l_1000, l_1400, l_2000, l_4000, l_10000, iN_add, iN_sub, iN_mul, iN_le_t, iN_le_f, iN_lt_t, iN_lt_f, iN_eq_f, inb_iN, ix_iN, isZ_0, isZ_1, ↓reduceIte, eq_self, kd_b ho, kd_b ha, kd_b hb, g1, g2, e5, g3, g4]
  · unfold mkS
    rw [eI]
    exact c4
/-- a dish copied -/
theorem become_ok {o a n mm : Nat} {D : Nat → Int32} {G : G_} (ho : kd o = 0) (ha : kd a = 0) (hd : a + 11 ≤ o ∨ o + 11 ≤ a) (hn : okN D n) (hm : D 4 = iN mm) (hm2 : mm ≤ 12) (hz : isZ (G.1 a 7) = true) (h : cD a D G) :
    ∃ G', f_X0_become o a G = some G' ∧ cD o D G' ∧ fr0 o G G' ∧ G'.1 o 7 = G.1 a 7 := by
  have hk : kd (o + 7) = 2 := sh_X0_plan ho
  have hka : kd (a + 7) = 2 := sh_X0_plan ha
  have h2 := hn.2
  have hnn := okN_n hn
  have em := mD_N hm hm2
  have hL : ∃ A, f_X0_become_l2_3 o a FU (iN 0) G = some A ∧ (∀ i, i < 20 → A.1 (o + 1) i = G.1 (a + 1) i ∧ A.1 (o + 3) i = G.1 (a + 3) i ∧ A.1 (o + 4) i = G.1 (a + 4) i) ∧ (∀ p, p ≠ o + 1 → p ≠ o + 3 → p ≠ o + 4 → A.1 p = G.1 p) ∧ A.2 = G.2 := by
    refine loop_h (fun n v s => f_X0_become_l2_3 o a n v s) (fun j G2 => (∀ i, i < j → G2.1 (o + 1) i = G.1 (a + 1) i ∧ G2.1 (o + 3) i = G.1 (a + 3) i ∧ G2.1 (o + 4) i = G.1 (a + 4) i) ∧ (∀ p, p ≠ o + 1 → p ≠ o + 3 → p ≠ o + 4 → G2.1 p = G.1 p) ∧ G2.2 = G.2) _ 0 20 ?_ ?_ (by omega) (n := FU) (fu_lt (by omega)) ⟨fun i h => by omega, fun _ _ _ _ => rfl, rfl⟩
    · intro f j G2 h3 h4 ⟨i1, i2, i3⟩
      have r1 : G2.1 (a + 1) = G.1 (a + 1) := i2 _ (by omega) (by omega) (by omega)
      have r3 : G2.1 (a + 3) = G.1 (a + 3) := i2 _ (by omega) (by omega) (by omega)
      have r4 : G2.1 (a + 4) = G.1 (a + 4) := i2 _ (by omega) (by omega) (by omega)
      refine ⟨sI (sI (sI G2 (o + 1) j (G.1 (a + 1) j)) (o + 3) j (G.1 (a + 3) j)) (o + 4) j (G.1 (a + 4) j), ⟨fun i h5 => ?_, fun p hp1 hp2 hp3 => ?_, i3⟩, ?_⟩
      · by_cases c : i = j
        · subst c
          simp (disch := omega) only [chk_t, beq_self_eq_true, nm_s, bj1_s, bj2_s, bj3_s, mo_1, mo_0, l_0, l_1, l_2, l_3, l_4, l_5, l_6, l_7, l_8, l_9, l_10, l_11, l_12, l_13, l_14, l_15, l_16, l_17, l_18, l_19, l_20, l_21, l_30, l_31, l_32, l_36, l_40, l_41, l_42, l_43, l_44, l_45, l_46, l_47, l_48, l_49, l_50, l_51, l_52, l_57, l_58, l_60, l_64, l_72, l_80, l_92, l_98, l_99, l_100, l_102, l_105, l_111, l_112, l_114, l_115, l_116, l_117, l_120, l_144, l_200, l_201, l_240, l_300, l_320, l_400, l_500, l_550, l_560, l_649, l_650, l_1000, l_1400, l_2000, l_4000, l_10000, iN_add, iN_sub, iN_mul, iN_le_t, iN_le_f, iN_lt_t, iN_lt_f, iN_eq_f, inb_iN, ix_iN, isZ_0, isZ_1, ↓reduceIte, eq_self, sI_eq, sI_p, and_self]
        · simp (disch := omega) only [chk_t, beq_self_eq_true, nm_s, bj1_s, bj2_s, bj3_s, mo_1, mo_0, l_0, l_1, l_2, l_3, l_4, l_5, l_6, l_7, l_8, l_9, l_10, l_11, l_12, l_13, l_14, l_15, l_16, l_17, l_18, l_19, l_20, l_21, l_30, l_31, l_32, l_36, l_40, l_41, l_42, l_43, l_44, l_45, l_46, l_47, l_48, l_49, l_50, l_51, l_52, l_57, l_58, l_60, l_64, l_72, l_80, l_92, l_98, l_99, l_100, l_102, l_105, l_111, l_112, l_114, l_115, l_116, l_117, l_120, l_144, l_200, l_201, l_240, l_300, l_320, l_400, l_500, l_550, l_560, l_649, l_650, l_1000, l_1400, l_2000, l_4000, l_10000, iN_add, iN_sub, iN_mul, iN_le_t, iN_le_f, iN_lt_t, iN_lt_f, iN_eq_f, inb_iN, ix_iN, isZ_0, isZ_1, ↓reduceIte, eq_self, sI_j c, sI_p]
          exact i1 i (by omega)
      · rw [sI_p hp3, sI_p hp2, sI_p hp1]; exact i2 p hp1 hp2 hp3
      · show f_X0_become_l2_3 o a (f + 1) (iN j) G2 = _
        conv => lhs; unfold f_X0_become_l2_3
        simp (disch := omega) only [chk_t, beq_self_eq_true, nm_s, bj1_s, bj2_s, bj3_s, mo_1, mo_0, l_0, l_1, l_2, l_3, l_4, l_5, l_6, l_7, l_8, l_9, l_10, l_11, l_12, l_13, l_14, l_15, l_16, l_17, l_18, l_19, l_20, l_21, l_30, l_31, l_32, l_36, l_40, l_41, l_42, l_43, l_44, l_45, l_46, l_47, l_48, l_49, l_50, l_51, l_52, l_57, l_58, l_60, l_64, l_72, l_80, l_92, l_98, l_99, l_100, l_102, l_105, l_111, l_112, l_114, l_115, l_116, l_117, l_120, l_144, l_200, l_201, l_240, l_300, l_320, l_400, l_500, l_550, l_560, l_649, l_650, l_1000, l_1400, l_2000, l_4000, l_10000, iN_add, iN_sub, iN_mul, iN_le_t, iN_le_f, iN_lt_t, iN_lt_f, iN_eq_f, inb_iN, ix_iN, isZ_0, isZ_1, ↓reduceIte, eq_self, r1, r3, r4, sI_p]
    · intro f G2 ⟨i1, i2, i3⟩
      refine ⟨G2, ?_, i1, i2, i3⟩
      show f_X0_become_l2_3 o a (f + 1) (iN 20) G2 = _
      unfold f_X0_become_l2_3
      simp (disch := omega) only [chk_t, beq_self_eq_true, nm_s, bj1_s, bj2_s, bj3_s, mo_1, mo_0, l_0, l_1, l_2, l_3, l_4, l_5, l_6, l_7, l_8, l_9, l_10, l_11, l_12, l_13, l_14, l_15, l_16, l_17, l_18, l_19, l_20, l_21, l_30, l_31, l_32, l_36, l_40, l_41, l_42, l_43, l_44, l_45, l_46, l_47, l_48, l_49, l_50, l_51, l_52, l_57, l_58, l_60, l_64, l_72, l_80, l_92, l_98, l_99, l_100, l_102, l_105, l_111, l_112, l_114, l_115, l_116, l_117, l_120, l_144, l_200, l_201, l_240, l_300, l_320, l_400, l_500, l_550, l_560, l_649, l_650, l_1000, l_1400, l_2000, l_4000, l_10000, iN_add, iN_sub, iN_mul, iN_le_t, iN_le_f, iN_lt_t, iN_lt_f, iN_eq_f, inb_iN, ix_iN, isZ_0, isZ_1, ↓reduceIte, eq_self]
  obtain ⟨A, hA, a1, a2, a3⟩ := hL
  have hL2 : ∃ B, f_X0_become_l52_16 o a FU (iN 0) A = some B ∧ (∀ i, i < 2 → B.1 (o + 5) i = G.1 (a + 5) i ∧ B.1 (o + 6) i = G.1 (a + 6) i) ∧ (∀ p, p ≠ o + 5 → p ≠ o + 6 → B.1 p = A.1 p) ∧ B.2 = A.2 := by
    refine loop_h (fun n v s => f_X0_become_l52_16 o a n v s) (fun j G2 => (∀ i, i < j → G2.1 (o + 5) i = G.1 (a + 5) i ∧ G2.1 (o + 6) i = G.1 (a + 6) i) ∧ (∀ p, p ≠ o + 5 → p ≠ o + 6 → G2.1 p = A.1 p) ∧ G2.2 = A.2) _ 0 2 ?_ ?_ (by omega) (n := FU) (fu_lt (by omega)) ⟨fun i h => by omega, fun _ _ _ => rfl, rfl⟩
    · intro f j G2 h3 h4 ⟨i1, i2, i3⟩
      have r5 : G2.1 (a + 5) = G.1 (a + 5) := by rw [i2 _ (by omega) (by omega), a2 _ (by omega) (by omega) (by omega)]
      have r6 : G2.1 (a + 6) = G.1 (a + 6) := by rw [i2 _ (by omega) (by omega), a2 _ (by omega) (by omega) (by omega)]
      refine ⟨sI (sI G2 (o + 5) j (G.1 (a + 5) j)) (o + 6) j (G.1 (a + 6) j), ⟨fun i h5 => ?_, fun p hp1 hp2 => ?_, i3⟩, ?_⟩
      · by_cases c : i = j
        · subst c
          simp (disch := omega) only [chk_t, beq_self_eq_true, nm_s, bj1_s, bj2_s, bj3_s, mo_1, mo_0, l_0, l_1, l_2, l_3, l_4, l_5, l_6, l_7, l_8, l_9, l_10, l_11, l_12, l_13, l_14, l_15, l_16, l_17, l_18, l_19, l_20, l_21, l_30, l_31, l_32, l_36, l_40, l_41, l_42, l_43, l_44, l_45, l_46, l_47, l_48, l_49, l_50, l_51, l_52, l_57, l_58, l_60, l_64, l_72, l_80, l_92, l_98, l_99, l_100, l_102, l_105, l_111, l_112, l_114, l_115, l_116, l_117, l_120, l_144, l_200, l_201, l_240, l_300, l_320, l_400, l_500, l_550, l_560, l_649, l_650, l_1000, l_1400, l_2000, l_4000, l_10000, iN_add, iN_sub, iN_mul, iN_le_t, iN_le_f, iN_lt_t, iN_lt_f, iN_eq_f, inb_iN, ix_iN, isZ_0, isZ_1, ↓reduceIte, eq_self, sI_eq, sI_p, and_self]
        · simp (disch := omega) only [chk_t, beq_self_eq_true, nm_s, bj1_s, bj2_s, bj3_s, mo_1, mo_0, l_0, l_1, l_2, l_3, l_4, l_5, l_6, l_7, l_8, l_9, l_10, l_11, l_12, l_13, l_14, l_15, l_16, l_17, l_18, l_19, l_20, l_21, l_30, l_31, l_32, l_36, l_40, l_41, l_42, l_43, l_44, l_45, l_46, l_47, l_48, l_49, l_50, l_51, l_52, l_57, l_58, l_60, l_64, l_72, l_80, l_92, l_98, l_99, l_100, l_102, l_105, l_111, l_112, l_114, l_115, l_116, l_117, l_120, l_144, l_200, l_201, l_240, l_300, l_320, l_400, l_500, l_550, l_560, l_649, l_650, l_1000, l_1400, l_2000, l_4000, l_10000, iN_add, iN_sub, iN_mul, iN_le_t, iN_le_f, iN_lt_t, iN_lt_f, iN_eq_f, inb_iN, ix_iN, isZ_0, isZ_1, ↓reduceIte, eq_self, sI_j c, sI_p]
          exact i1 i (by omega)
      · rw [sI_p hp2, sI_p hp1]; exact i2 p hp1 hp2
      · show f_X0_become_l52_16 o a (f + 1) (iN j) G2 = _
        conv => lhs; unfold f_X0_become_l52_16
        simp (disch := omega) only [chk_t, beq_self_eq_true, nm_s, bj1_s, bj2_s, bj3_s, mo_1, mo_0, l_0, l_1, l_2, l_3, l_4, l_5, l_6, l_7, l_8, l_9, l_10, l_11, l_12, l_13, l_14, l_15, l_16, l_17, l_18, l_19, l_20, l_21, l_30, l_31, l_32, l_36, l_40, l_41, l_42, l_43, l_44, l_45, l_46, l_47, l_48, l_49, l_50, l_51, l_52, l_57, l_58, l_60, l_64, l_72, l_80, l_92, l_98, l_99, l_100, l_102, l_105, l_111, l_112, l_114, l_115, l_116, l_117, l_120, l_144, l_200, l_201, l_240, l_300, l_320, l_400, l_500, l_550, l_560, l_649, l_650, l_1000, l_1400, l_2000, l_4000, l_10000, iN_add, iN_sub, iN_mul, iN_le_t, iN_le_f, iN_lt_t, iN_lt_f, iN_eq_f, inb_iN, ix_iN, isZ_0, isZ_1, ↓reduceIte, eq_self, r5, r6, sI_p]
    · intro f G2 ⟨i1, i2, i3⟩
      refine ⟨G2, ?_, i1, i2, i3⟩
      show f_X0_become_l52_16 o a (f + 1) (iN 2) G2 = _
      unfold f_X0_become_l52_16
      simp (disch := omega) only [chk_t, beq_self_eq_true, nm_s, bj1_s, bj2_s, bj3_s, mo_1, mo_0, l_0, l_1, l_2, l_3, l_4, l_5, l_6, l_7, l_8, l_9, l_10, l_11, l_12, l_13, l_14, l_15, l_16, l_17, l_18, l_19, l_20, l_21, l_30, l_31, l_32, l_36, l_40, l_41, l_42, l_43, l_44, l_45, l_46, l_47, l_48, l_49, l_50, l_51, l_52, l_57, l_58, l_60, l_64, l_72, l_80, l_92, l_98, l_99, l_100, l_102, l_105, l_111, l_112, l_114, l_115, l_116, l_117, l_120, l_144, l_200, l_201, l_240, l_300, l_320, l_400, l_500, l_550, l_560, l_649, l_650, l_1000, l_1400, l_2000, l_4000, l_10000, iN_add, iN_sub, iN_mul, iN_le_t, iN_le_f, iN_lt_t, iN_lt_f, iN_eq_f, inb_iN, ix_iN, isZ_0, isZ_1, ↓reduceIte, eq_self]
  obtain ⟨B, hB, b1, b2, b3⟩ := hL2
  have eB : ∀ q, q ≠ o + 1 → q ≠ o + 3 → q ≠ o + 4 → q ≠ o + 5 → q ≠ o + 6 → B.1 q = G.1 q := fun q q1 q3 q4 q5 q6 => by rw [b2 q q5 q6, a2 q q1 q3 q4]
  obtain ⟨C, hC, -, d4, -, d6, d7, d8⟩ := pbecome_ok (mm := mm) (G := B) hk hka (by omega) (by rw [eB (a + 7) (by omega) (by omega) (by omega) (by omega) (by omega), c_cnt h, hm]) hm2
  have eC : ∀ q, q ≠ o + 1 → q ≠ o + 3 → q ≠ o + 4 → q ≠ o + 5 → q ≠ o + 6 → (q < o + 7 ∨ o + 11 ≤ q) → C.1 q = G.1 q := fun q q1 q3 q4 q5 q6 q7 => by rw [d7 q (by omega), eB q q1 q3 q4 q5 q6]
  have ea : C.1 a = G.1 a := eC a (by omega) (by omega) (by omega) (by omega) (by omega) (by omega)
  have eo : C.1 o = G.1 o := eC o (by omega) (by omega) (by omega) (by omega) (by omega) (by omega)
  refine ⟨sI (sI (sI (sI (sI (sI (sI (sI (sI (sI C o 7 (G.1 a 7)) o 8 (G.1 a 8)) o 9 (G.1 a 9)) o 10 (G.1 a 10)) o 11 (G.1 a 11)) o 12 (G.1 a 12)) o 13 (G.1 a 13)) o 14 (G.1 a 14)) o 15 (G.1 a 15)) o 16 (G.1 a 16), ?_, ?_, ⟨fun q hq => ?_, d8.trans (b3.trans a3)⟩, ?_⟩
  · unfold f_X0_become
    simp (disch := omega) only [chk_t, beq_self_eq_true, nm_s, bj1_s, bj2_s, bj3_s, mo_1, mo_0, l_0, l_1, l_2, l_3, l_4, l_5, l_6, l_7, l_8, l_9, l_10, l_11, l_12, l_13, l_14, l_15, l_16, l_17, l_18, l_19, l_20, l_21, l_30, l_31, l_32, l_36, l_40, l_41, l_42, l_43, l_44, l_45, l_46, l_47, l_48, l_49, l_50, l_51, l_52, l_57, l_58, l_60, l_64, l_72, l_80, l_92, l_98, l_99, l_100, l_102, l_105, l_111, l_112, l_114, l_115, l_116, l_117, l_120, l_144, l_200, l_201, l_240, l_300, l_320, l_400, l_500, l_550, l_560, l_649, l_650, l_1000, l_1400, l_2000, l_4000, l_10000, iN_add, iN_sub, iN_mul, iN_le_t, iN_le_f, iN_lt_t, iN_lt_f, iN_eq_f, inb_iN, ix_iN, isZ_0, isZ_1, ↓reduceIte, eq_self, kd_b ho, kd_b ha, hA, hB, hC, ea, hz, sI_p]
  · intro d j hc
    rw [hnn, em] at hc
    rcases hc with ⟨rfl, h5, h6⟩ | ⟨rfl, rfl⟩ | ⟨rfl, h5⟩ | ⟨rfl, h5⟩ | ⟨rfl, h5⟩ | ⟨rfl, h5⟩ | ⟨rfl, h5⟩ | ⟨h5, h6, h7⟩
    · rw [← h 0 j (by unfold cok; omega)]
      have : j = 8 ∨ j = 9 ∨ j = 10 ∨ j = 11 ∨ j = 12 ∨ j = 13 ∨ j = 14 ∨ j = 15 ∨ j = 16 := by omega
      rcases this with rfl | rfl | rfl | rfl | rfl | rfl | rfl | rfl | rfl <;> simp (disch := omega) only [chk_t, beq_self_eq_true, nm_s, bj1_s, bj2_s, bj3_s, mo_1, mo_0, l_0, l_1, l_2, l_3, l_4, l_5, l_6, l_7, l_8, l_9, l_10, l_11, l_12, l_13, l_14, l_15, l_16, l_17, l_18, l_19, l_20, l_21, l_30, l_31, l_32, l_36, l_40, l_41, l_42, l_43, l_44, l_45, l_46, l_47, l_48, l_49, l_50, l_51, l_52, l_57, l_58, l_60, l_64, l_72, l_80, l_92, l_98, l_99, l_100, l_102, l_105, l_111, l_112, l_114, l_115, l_116, l_117, l_120, l_144, l_200, l_201, l_240, l_300, l_320, l_400, l_500, l_550, l_560, l_649, l_650, l_1000, l_1400, l_2000, l_4000, l_10000, iN_add, iN_sub, iN_mul, iN_le_t, iN_le_f, iN_lt_t, iN_lt_f, iN_eq_f, inb_iN, ix_iN, isZ_0, isZ_1, ↓reduceIte, eq_self, Nat.add_zero, sI_eq, sI_j]
    · show _ = D 4
      rw [hm, sI_p (by omega), sI_p (by omega), sI_p (by omega), sI_p (by omega), sI_p (by omega), sI_p (by omega), sI_p (by omega), sI_p (by omega), sI_p (by omega), sI_p (by omega)]
      exact d4
    · rw [sI_p (by omega), sI_p (by omega), sI_p (by omega), sI_p (by omega), sI_p (by omega), sI_p (by omega), sI_p (by omega), sI_p (by omega), sI_p (by omega), sI_p (by omega), d7 _ (by omega), (b1 j h5).1]
      exact c_wet h h5
    · rw [sI_p (by omega), sI_p (by omega), sI_p (by omega), sI_p (by omega), sI_p (by omega), sI_p (by omega), sI_p (by omega), sI_p (by omega), sI_p (by omega), sI_p (by omega), d7 _ (by omega), (b1 j h5).2]
      exact c_brn h h5
    · rw [sI_p (by omega), sI_p (by omega), sI_p (by omega), sI_p (by omega), sI_p (by omega), sI_p (by omega), sI_p (by omega), sI_p (by omega), sI_p (by omega), sI_p (by omega), d7 _ (by omega), b2 _ (by omega) (by omega), (a1 j (by omega)).1]
      exact c_w h (by omega)
    · rw [sI_p (by omega), sI_p (by omega), sI_p (by omega), sI_p (by omega), sI_p (by omega), sI_p (by omega), sI_p (by omega), sI_p (by omega), sI_p (by omega), sI_p (by omega), d7 _ (by omega), b2 _ (by omega) (by omega), (a1 j (by omega)).2.1]
      exact c_m h (by omega)
    · rw [sI_p (by omega), sI_p (by omega), sI_p (by omega), sI_p (by omega), sI_p (by omega), sI_p (by omega), sI_p (by omega), sI_p (by omega), sI_p (by omega), sI_p (by omega), d7 _ (by omega), b2 _ (by omega) (by omega), (a1 j (by omega)).2.2]
      exact c_j h (by omega)
    · rw [sI_p (by omega), sI_p (by omega), sI_p (by omega), sI_p (by omega), sI_p (by omega), sI_p (by omega), sI_p (by omega), sI_p (by omega), sI_p (by omega), sI_p (by omega)]
      have hcc : d = 8 ∨ d = 9 ∨ d = 10 := by omega
      rcases hcc with rfl | rfl | rfl
      · show C.1 (o + 7 + 1) j = D (5 + 3 * j)
        rw [(d6 j h7).1, eB _ (by omega) (by omega) (by omega) (by omega) (by omega)]
        exact c_k h (by rw [em]; exact h7)
      · show C.1 (o + 7 + 2) j = D (5 + 3 * j + 1)
        rw [(d6 j h7).2.1, eB _ (by omega) (by omega) (by omega) (by omega) (by omega)]
        exact c_q h (by rw [em]; exact h7)
      · show C.1 (o + 7 + 3) j = D (5 + 3 * j + 2)
        rw [(d6 j h7).2.2, eB _ (by omega) (by omega) (by omega) (by omega) (by omega)]
        exact c_l h (by rw [em]; exact h7)
  · rw [sI_p (by omega), sI_p (by omega), sI_p (by omega), sI_p (by omega), sI_p (by omega), sI_p (by omega), sI_p (by omega), sI_p (by omega), sI_p (by omega), sI_p (by omega)]
    exact eC q (by omega) (by omega) (by omega) (by omega) (by omega) (by omega)
  · simp (disch := omega) only [chk_t, beq_self_eq_true, nm_s, bj1_s, bj2_s, bj3_s, mo_1, mo_0, l_0, l_1, l_2, l_3, l_4, l_5, l_6, l_7, l_8, l_9, l_10, l_11, l_12, l_13, l_14, l_15, l_16, l_17, l_18, l_19, l_20, l_21, l_30, l_31, l_32, l_36, l_40, l_41, l_42, l_43, l_44, l_45, l_46, l_47, l_48, l_49, l_50, l_51, l_52, l_57, l_58, l_60, l_64, l_72, l_80, l_92, l_98, l_99, l_100, l_102, l_105, l_111, l_112, l_114, l_115, l_116, l_117, l_120, l_144, l_200, l_201, l_240, l_300, l_320, l_400, l_500, l_550, l_560, l_649, l_650, l_1000, l_1400, l_2000, l_4000, l_10000, iN_add, iN_sub, iN_mul, iN_le_t, iN_le_f, iN_lt_t, iN_lt_f, iN_eq_f, inb_iN, ix_iN, isZ_0, isZ_1, ↓reduceIte, eq_self, sI_eq, sI_j]

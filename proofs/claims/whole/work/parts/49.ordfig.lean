/-! order: figures, the first least -/
theorem clossO {m c a : Nat} {G : G_} (hm : m < 5) (hc : c < 256) (ha : a < 16) : f_X1_lossOfOrder (iN a) (iN c) (iN m) G = some (if okC c m a = true then suC (G.1 46) c m a (iN 0) else -iN 1) := by
  have h := clo_ok (G := G) hm hc m FU a 0 (iN 0) (fu_lt (by omega)) (by omega) ha
  unfold f_X1_lossOfOrder
  simp (disch := omega) only [chk_t, beq_self_eq_true, nm_s, bj1_s, bj2_s, bj3_s, mo_1, mo_0, l_0, l_1, l_2, l_3, l_4, l_5, l_6, l_7, l_8, l_9, l_10, l_11, l_12, l_13, l_14, l_15, l_16, l_17, l_18, l_19, l_20, l_21, l_30, l_31, l_32, l_36, l_40, l_41, l_42, l_43, l_44, l_45, l_46, l_47, l_48, l_49, l_50, l_51, l_52, l_57, l_58, l_60, l_64, l_72, l_80, l_92, l_98, l_99, l_100, l_102, l_105, l_111, l_112, l_114, l_115, l_116, l_117, l_120, l_144, l_200, l_201, l_240, l_300, l_320, l_400, l_500, l_550, l_560, l_649, l_650, l_1000, l_1400, l_2000, l_4000, l_10000, iN_add, iN_sub, iN_mul, iN_le_t, iN_le_f, iN_lt_t, iN_lt_f, iN_eq_f, inb_iN, ix_iN, isZ_0, isZ_1, ↓reduceIte, eq_self, h]
def figS (c m i : Nat) : Int32 := iN (c / 4 ^ (m - 1 - i) % 4)
theorem cfig1 {a m c : Nat} {x : Int32} {G : G_} (hm : m < 5) (hc : c < 256) : ∃ H, f_X1_findBest_l60_13 x (iN m) (iN c) FU (iN 0) G = some H ∧ (∀ i, i < m → H.1 47 i = figS c m i) ∧ (∀ q, q ≠ 47 → H.1 q = G.1 q) ∧ H.2 = G.2 := by
  refine loop_h (fun f v s => f_X1_findBest_l60_13 x (iN m) (iN c) f v s) (fun j H => (∀ i, i < j → H.1 47 i = figS c m i) ∧ (∀ q, q ≠ 47 → H.1 q = G.1 q) ∧ H.2 = G.2) _ 0 m ?_ ?_ (by omega) (n := FU) (fu_lt (by omega)) ⟨fun i hi => by omega, fun _ _ => rfl, rfl⟩
  · intro f j A h3 h4 ⟨i0, i1, i2⟩
    have fg := t_fig m hm j h4 c hc
    refine ⟨sI A 47 j (figS c m j), ⟨fun i hi => ?_, fun q hq => by rw [sI_p hq]; exact i1 q hq, i2⟩, ?_⟩
    · by_cases c' : i = j
      · subst c'
        exact sI_eq
      · rw [sI_j c']
        exact i0 i (by omega)
    · show f_X1_findBest_l60_13 x (iN m) (iN c) (f + 1) (iN j) A = _
      conv => lhs; unfold f_X1_findBest_l60_13
      unfold figS
      simp (disch := omega) only [chk_t, beq_self_eq_true, nm_s, bj1_s, bj2_s, bj3_s, mo_1, mo_0, l_0, l_1, l_2, l_3, l_4, l_5, l_6, l_7, l_8, l_9, l_10, l_11, l_12, l_13, l_14, l_15, l_16, l_17, l_18, l_19, l_20, l_21, l_30, l_31, l_32, l_36, l_40, l_41, l_42, l_43, l_44, l_45, l_46, l_47, l_48, l_49, l_50, l_51, l_52, l_57, l_58, l_60, l_64, l_72, l_80, l_92, l_98, l_99, l_100, l_102, l_105, l_111, l_112, l_114, l_115, l_116, l_117, l_120, l_144, l_200, l_201, l_240, l_300, l_320, l_400, l_500, l_550, l_560, l_649, l_650, l_1000, l_1400, l_2000, l_4000, l_10000, iN_add, iN_sub, iN_mul, iN_le_t, iN_le_f, iN_lt_t, iN_lt_f, iN_eq_f, inb_iN, ix_iN, isZ_0, isZ_1, ↓reduceIte, eq_self, fg]
  · intro f A hI
    refine ⟨A, ?_, hI⟩
    show f_X1_findBest_l60_13 x (iN m) (iN c) (f + 1) (iN m) A = _
    unfold f_X1_findBest_l60_13
    simp (disch := omega) only [chk_t, beq_self_eq_true, nm_s, bj1_s, bj2_s, bj3_s, mo_1, mo_0, l_0, l_1, l_2, l_3, l_4, l_5, l_6, l_7, l_8, l_9, l_10, l_11, l_12, l_13, l_14, l_15, l_16, l_17, l_18, l_19, l_20, l_21, l_30, l_31, l_32, l_36, l_40, l_41, l_42, l_43, l_44, l_45, l_46, l_47, l_48, l_49, l_50, l_51, l_52, l_57, l_58, l_60, l_64, l_72, l_80, l_92, l_98, l_99, l_100, l_102, l_105, l_111, l_112, l_114, l_115, l_116, l_117, l_120, l_144, l_200, l_201, l_240, l_300, l_320, l_400, l_500, l_550, l_560, l_649, l_650, l_1000, l_1400, l_2000, l_4000, l_10000, iN_add, iN_sub, iN_mul, iN_le_t, iN_le_f, iN_lt_t, iN_lt_f, iN_eq_f, inb_iN, ix_iN, isZ_0, isZ_1, ↓reduceIte, eq_self]
theorem cfig2 {m c : Nat} {x : Int32} {G : G_} (hm : m < 5) (hc : c < 256) : ∃ H, f_X1_findBest_l60_22 x (iN m) (iN c) FU (iN 0) G = some H ∧ (∀ i, i < m → H.1 47 i = figS c m i) ∧ (∀ q, q ≠ 47 → H.1 q = G.1 q) ∧ H.2 = G.2 := by
  refine loop_h (fun f v s => f_X1_findBest_l60_22 x (iN m) (iN c) f v s) (fun j H => (∀ i, i < j → H.1 47 i = figS c m i) ∧ (∀ q, q ≠ 47 → H.1 q = G.1 q) ∧ H.2 = G.2) _ 0 m ?_ ?_ (by omega) (n := FU) (fu_lt (by omega)) ⟨fun i hi => by omega, fun _ _ => rfl, rfl⟩
  · intro f j A h3 h4 ⟨i0, i1, i2⟩
    have fg := t_fig m hm j h4 c hc
    refine ⟨sI A 47 j (figS c m j), ⟨fun i hi => ?_, fun q hq => by rw [sI_p hq]; exact i1 q hq, i2⟩, ?_⟩
    · by_cases c' : i = j
      · subst c'
        exact sI_eq
      · rw [sI_j c']
        exact i0 i (by omega)
    · show f_X1_findBest_l60_22 x (iN m) (iN c) (f + 1) (iN j) A = _
      conv => lhs; unfold f_X1_findBest_l60_22
      unfold figS
      simp (disch := omega) only [chk_t, beq_self_eq_true, nm_s, bj1_s, bj2_s, bj3_s, mo_1, mo_0, l_0, l_1, l_2, l_3, l_4, l_5, l_6, l_7, l_8, l_9, l_10, l_11, l_12, l_13, l_14, l_15, l_16, l_17, l_18, l_19, l_20, l_21, l_30, l_31, l_32, l_36, l_40, l_41, l_42, l_43, l_44, l_45, l_46, l_47, l_48, l_49, l_50, l_51, l_52, l_57, l_58, l_60, l_64, l_72, l_80, l_92, l_98, l_99, l_100, l_102, l_105, l_111, l_112, l_114, l_115, l_116, l_117, l_120, l_144, l_200, l_201, l_240, l_300, l_320, l_400, l_500, l_550, l_560, l_649, l_650, l_1000, l_1400, l_2000, l_4000, l_10000, iN_add, iN_sub, iN_mul, iN_le_t, iN_le_f, iN_lt_t, iN_lt_f, iN_eq_f, inb_iN, ix_iN, isZ_0, isZ_1, ↓reduceIte, eq_self, fg]
  · intro f A hI
    refine ⟨A, ?_, hI⟩
    show f_X1_findBest_l60_22 x (iN m) (iN c) (f + 1) (iN m) A = _
    unfold f_X1_findBest_l60_22
    simp (disch := omega) only [chk_t, beq_self_eq_true, nm_s, bj1_s, bj2_s, bj3_s, mo_1, mo_0, l_0, l_1, l_2, l_3, l_4, l_5, l_6, l_7, l_8, l_9, l_10, l_11, l_12, l_13, l_14, l_15, l_16, l_17, l_18, l_19, l_20, l_21, l_30, l_31, l_32, l_36, l_40, l_41, l_42, l_43, l_44, l_45, l_46, l_47, l_48, l_49, l_50, l_51, l_52, l_57, l_58, l_60, l_64, l_72, l_80, l_92, l_98, l_99, l_100, l_102, l_105, l_111, l_112, l_114, l_115, l_116, l_117, l_120, l_144, l_200, l_201, l_240, l_300, l_320, l_400, l_500, l_550, l_560, l_649, l_650, l_1000, l_1400, l_2000, l_4000, l_10000, iN_add, iN_sub, iN_mul, iN_le_t, iN_le_f, iN_lt_t, iN_lt_f, iN_eq_f, inb_iN, ix_iN, isZ_0, isZ_1, ↓reduceIte, eq_self]

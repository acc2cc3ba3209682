/-! slab -/
def V0s (j : Nat) : Int32 := if j = 0 then iN 10 else if j = 1 then iN 5 else if j = 2 then iN 0 else iN 2
theorem V0s_ok : slR V0s 10 := ⟨⟨rfl, by omega, by omega⟩, by decide, by decide⟩
theorem slab_read {t z : Nat} {B : Nat → Int32} (ht : t < 4) (hz : z ≤ 80) : ∃ (e : Int32) (c' : Nat) (V' : Nat → Int32), (e = -iN 9 → ∃ n, slR V' n) ∧
    (∀ G : G_, cT t z B G → ∃ x G', f_X3_readSlab (63 + 2 * t) 40 G = some (x, G') ∧ cc G G' ∧ G'.1 39 1 = e ∧ (e = -iN 9 → x = iN c' ∧ G'.1 40 0 = iN 1 ∧ ∀ j, j < 4 → G'.1 40 (j + 1) = V' j)) ∧
    (∀ H : G_, mT t z B H → ∃ H', f_X8_slabFault (iN t) H = some (e, H') ∧ mf H H' ∧ (e = -iN 9 → H'.1 124 17 = iN c' ∧ ∀ j, j < 4 → H'.1 136 j = V' j)) := by
  obtain ⟨e, c', V', h1, h2, h3⟩ := slab_all (B := B) ht hz z 0 0 V0s (by omega) (by omega) (by omega) ⟨10, V0s_ok⟩
  have ho := (rtk t ht).2
  have hk40 : kd 40 = 5 := rfl
  refine ⟨e, c', V', h1, fun G hG => ?_, fun H hH => ?_⟩
  · obtain ⟨A, hA⟩ : ∃ A, A = sI (sI (sI (sI (sI (sI (sI G 39 0 (iN 0)) 39 1 (-iN 9)) 40 0 (iN 1)) 40 1 (iN 10)) 40 2 (iN 5)) 40 3 (iN 0)) 40 4 (iN 2) := ⟨_, rfl⟩
    have hc : CSs t z B 0 V0s A := by
      rw [hA]
      refine ⟨?_, ?_, ?_, ?_, fun j hj => ?_⟩
      · exact cT_sI ht (cT_sI ht (cT_sI ht (cT_sI ht (cT_sI ht (cT_sI ht (cT_sI ht hG (by omega)) (by omega)) (by omega)) (by omega)) (by omega)) (by omega)) (by omega)
      · simp (disch := omega) only [chk_t, beq_self_eq_true, nm_s, bj1_s, bj2_s, bj3_s, mo_1, mo_0, l_0, l_1, l_2, l_3, l_4, l_5, l_6, l_7, l_8, l_9, l_10, l_11, l_12, l_13, l_14, l_15, l_16, l_17, l_18, l_19, l_20, l_21, l_30, l_31, l_32, l_36, l_40, l_41, l_42, l_43, l_44, l_45, l_46, l_47, l_48, l_49, l_50, l_51, l_52, l_57, l_58, l_60, l_64, l_72, l_80, l_92, l_98, l_99, l_100, l_102, l_105, l_111, l_112, l_114, l_115, l_116, l_117, l_120, l_144, l_200, l_201, l_240, l_300, l_320, l_400, l_500, l_550, l_560, l_649, l_650, l_1000, l_1400, l_2000, l_4000, l_10000, iN_add, iN_sub, iN_mul, iN_le_t, iN_le_f, iN_lt_t, iN_lt_f, iN_eq_f, inb_iN, ix_iN, isZ_0, isZ_1, ↓reduceIte, eq_self, sI_p, sI_j, sI_eq]
      · simp (disch := omega) only [chk_t, beq_self_eq_true, nm_s, bj1_s, bj2_s, bj3_s, mo_1, mo_0, l_0, l_1, l_2, l_3, l_4, l_5, l_6, l_7, l_8, l_9, l_10, l_11, l_12, l_13, l_14, l_15, l_16, l_17, l_18, l_19, l_20, l_21, l_30, l_31, l_32, l_36, l_40, l_41, l_42, l_43, l_44, l_45, l_46, l_47, l_48, l_49, l_50, l_51, l_52, l_57, l_58, l_60, l_64, l_72, l_80, l_92, l_98, l_99, l_100, l_102, l_105, l_111, l_112, l_114, l_115, l_116, l_117, l_120, l_144, l_200, l_201, l_240, l_300, l_320, l_400, l_500, l_550, l_560, l_649, l_650, l_1000, l_1400, l_2000, l_4000, l_10000, iN_add, iN_sub, iN_mul, iN_le_t, iN_le_f, iN_lt_t, iN_lt_f, iN_eq_f, inb_iN, ix_iN, isZ_0, isZ_1, ↓reduceIte, eq_self, sI_p, sI_eq]
      · simp (disch := omega) only [chk_t, beq_self_eq_true, nm_s, bj1_s, bj2_s, bj3_s, mo_1, mo_0, l_0, l_1, l_2, l_3, l_4, l_5, l_6, l_7, l_8, l_9, l_10, l_11, l_12, l_13, l_14, l_15, l_16, l_17, l_18, l_19, l_20, l_21, l_30, l_31, l_32, l_36, l_40, l_41, l_42, l_43, l_44, l_45, l_46, l_47, l_48, l_49, l_50, l_51, l_52, l_57, l_58, l_60, l_64, l_72, l_80, l_92, l_98, l_99, l_100, l_102, l_105, l_111, l_112, l_114, l_115, l_116, l_117, l_120, l_144, l_200, l_201, l_240, l_300, l_320, l_400, l_500, l_550, l_560, l_649, l_650, l_1000, l_1400, l_2000, l_4000, l_10000, iN_add, iN_sub, iN_mul, iN_le_t, iN_le_f, iN_lt_t, iN_lt_f, iN_eq_f, inb_iN, ix_iN, isZ_0, isZ_1, ↓reduceIte, eq_self, sI_j, sI_eq]
      · have : j = 0 ∨ j = 1 ∨ j = 2 ∨ j = 3 := by omega
        rcases this with rfl | rfl | rfl | rfl
        · simp (disch := omega) only [chk_t, beq_self_eq_true, nm_s, bj1_s, bj2_s, bj3_s, mo_1, mo_0, l_0, l_1, l_2, l_3, l_4, l_5, l_6, l_7, l_8, l_9, l_10, l_11, l_12, l_13, l_14, l_15, l_16, l_17, l_18, l_19, l_20, l_21, l_30, l_31, l_32, l_36, l_40, l_41, l_42, l_43, l_44, l_45, l_46, l_47, l_48, l_49, l_50, l_51, l_52, l_57, l_58, l_60, l_64, l_72, l_80, l_92, l_98, l_99, l_100, l_102, l_105, l_111, l_112, l_114, l_115, l_116, l_117, l_120, l_144, l_200, l_201, l_240, l_300, l_320, l_400, l_500, l_550, l_560, l_649, l_650, l_1000, l_1400, l_2000, l_4000, l_10000, iN_add, iN_sub, iN_mul, iN_le_t, iN_le_f, iN_lt_t, iN_lt_f, iN_eq_f, inb_iN, ix_iN, isZ_0, isZ_1, ↓reduceIte, eq_self, sI_j, sI_eq]
          rfl
        · simp (disch := omega) only [chk_t, beq_self_eq_true, nm_s, bj1_s, bj2_s, bj3_s, mo_1, mo_0, l_0, l_1, l_2, l_3, l_4, l_5, l_6, l_7, l_8, l_9, l_10, l_11, l_12, l_13, l_14, l_15, l_16, l_17, l_18, l_19, l_20, l_21, l_30, l_31, l_32, l_36, l_40, l_41, l_42, l_43, l_44, l_45, l_46, l_47, l_48, l_49, l_50, l_51, l_52, l_57, l_58, l_60, l_64, l_72, l_80, l_92, l_98, l_99, l_100, l_102, l_105, l_111, l_112, l_114, l_115, l_116, l_117, l_120, l_144, l_200, l_201, l_240, l_300, l_320, l_400, l_500, l_550, l_560, l_649, l_650, l_1000, l_1400, l_2000, l_4000, l_10000, iN_add, iN_sub, iN_mul, iN_le_t, iN_le_f, iN_lt_t, iN_lt_f, iN_eq_f, inb_iN, ix_iN, isZ_0, isZ_1, ↓reduceIte, eq_self, sI_j, sI_eq]
          rfl
        · simp (disch := omega) only [chk_t, beq_self_eq_true, nm_s, bj1_s, bj2_s, bj3_s, mo_1, mo_0, l_0, l_1, l_2, l_3, l_4, l_5, l_6, l_7, l_8, l_9, l_10, l_11, l_12, l_13, l_14, l_15, l_16, l_17, l_18, l_19, l_20, l_21, l_30, l_31, l_32, l_36, l_40, l_41, l_42, l_43, l_44, l_45, l_46, l_47, l_48, l_49, l_50, l_51, l_52, l_57, l_58, l_60, l_64, l_72, l_80, l_92, l_98, l_99, l_100, l_102, l_105, l_111, l_112, l_114, l_115, l_116, l_117, l_120, l_144, l_200, l_201, l_240, l_300, l_320, l_400, l_500, l_550, l_560, l_649, l_650, l_1000, l_1400, l_2000, l_4000, l_10000, iN_add, iN_sub, iN_mul, iN_le_t, iN_le_f, iN_lt_t, iN_lt_f, iN_eq_f, inb_iN, ix_iN, isZ_0, isZ_1, ↓reduceIte, eq_self, sI_j, sI_eq]
          rfl
        · simp (disch := omega) only [chk_t, beq_self_eq_true, nm_s, bj1_s, bj2_s, bj3_s, mo_1, mo_0, l_0, l_1, l_2, l_3, l_4, l_5, l_6, l_7, l_8, l_9, l_10, l_11, l_12, l_13, l_14, l_15, l_16, l_17, l_18, l_19, l_20, l_21, l_30, l_31, l_32, l_36, l_40, l_41, l_42, l_43, l_44, l_45, l_46, l_47, l_48, l_49, l_50, l_51, l_52, l_57, l_58, l_60, l_64, l_72, l_80, l_92, l_98, l_99, l_100, l_102, l_105, l_111, l_112, l_114, l_115, l_116, l_117, l_120, l_144, l_200, l_201, l_240, l_300, l_320, l_400, l_500, l_550, l_560, l_649, l_650, l_1000, l_1400, l_2000, l_4000, l_10000, iN_add, iN_sub, iN_mul, iN_le_t, iN_le_f, iN_lt_t, iN_lt_f, iN_eq_f, inb_iN, ix_iN, isZ_0, isZ_1, ↓reduceIte, eq_self, sI_j, sI_eq]
          rfl
    have ccA : cc G A := by
      rw [hA]
      exact cc_sI (cc_sI (cc_sI (cc_sI (cc_sI (cc_sI (cc_sI cc_refl (by omega) (by omega)) (by omega) (by omega)) (by omega) (by omega)) (by omega) (by omega)) (by omega) (by omega)) (by omega) (by omega)) (by omega) (by omega)
    obtain ⟨x, G', g1, g2, g3⟩ := h2 FU A (by have : 100 < FU := fu_lt (by omega); omega) hc
    refine ⟨x, G', ?_, cc_tr ccA g2, g3⟩
    rw [hA] at g1
    unfold f_X3_readSlab f_X5_begin
    simp (disch := omega) only [chk_t, beq_self_eq_true, nm_s, bj1_s, bj2_s, bj3_s, mo_1, mo_0, l_0, l_1, l_2, l_3, l_4, l_5, l_6, l_7, l_8, l_9, l_10, l_11, l_12, l_13, l_14, l_15, l_16, l_17, l_18, l_19, l_20, l_21, l_30, l_31, l_32, l_36, l_40, l_41, l_42, l_43, l_44, l_45, l_46, l_47, l_48, l_49, l_50, l_51, l_52, l_57, l_58, l_60, l_64, l_72, l_80, l_92, l_98, l_99, l_100, l_102, l_105, l_111, l_112, l_114, l_115, l_116, l_117, l_120, l_144, l_200, l_201, l_240, l_300, l_320, l_400, l_500, l_550, l_560, l_649, l_650, l_1000, l_1400, l_2000, l_4000, l_10000, iN_add, iN_sub, iN_mul, iN_le_t, iN_le_f, iN_lt_t, iN_lt_f, iN_eq_f, inb_iN, ix_iN, isZ_0, isZ_1, ↓reduceIte, eq_self, kd_b ho, kd_b hk40]
    exact g1
  · obtain ⟨A, hA⟩ : ∃ A, A = sI (sI (sI (sI (sI (sI H 124 15 (iN 0)) 124 17 (iN 0)) 136 0 (iN 10)) 136 1 (iN 5)) 136 2 (iN 0)) 136 3 (iN 2) := ⟨_, rfl⟩
    have hm : MSs t z B 0 0 V0s A := by
      rw [hA]
      refine ⟨?_, ?_, ?_, fun j hj => ?_⟩
      · exact mT_sI (mT_sI (mT_sI (mT_sI (mT_sI (mT_sI hH (by omega)) (by omega)) (by omega)) (by omega)) (by omega)) (by omega)
      · simp (disch := omega) only [chk_t, beq_self_eq_true, nm_s, bj1_s, bj2_s, bj3_s, mo_1, mo_0, l_0, l_1, l_2, l_3, l_4, l_5, l_6, l_7, l_8, l_9, l_10, l_11, l_12, l_13, l_14, l_15, l_16, l_17, l_18, l_19, l_20, l_21, l_30, l_31, l_32, l_36, l_40, l_41, l_42, l_43, l_44, l_45, l_46, l_47, l_48, l_49, l_50, l_51, l_52, l_57, l_58, l_60, l_64, l_72, l_80, l_92, l_98, l_99, l_100, l_102, l_105, l_111, l_112, l_114, l_115, l_116, l_117, l_120, l_144, l_200, l_201, l_240, l_300, l_320, l_400, l_500, l_550, l_560, l_649, l_650, l_1000, l_1400, l_2000, l_4000, l_10000, iN_add, iN_sub, iN_mul, iN_le_t, iN_le_f, iN_lt_t, iN_lt_f, iN_eq_f, inb_iN, ix_iN, isZ_0, isZ_1, ↓reduceIte, eq_self, sI_p, sI_j, sI_eq]
      · simp (disch := omega) only [chk_t, beq_self_eq_true, nm_s, bj1_s, bj2_s, bj3_s, mo_1, mo_0, l_0, l_1, l_2, l_3, l_4, l_5, l_6, l_7, l_8, l_9, l_10, l_11, l_12, l_13, l_14, l_15, l_16, l_17, l_18, l_19, l_20, l_21, l_30, l_31, l_32, l_36, l_40, l_41, l_42, l_43, l_44, l_45, l_46, l_47, l_48, l_49, l_50, l_51, l_52, l_57, l_58, l_60, l_64, l_72, l_80, l_92, l_98, l_99, l_100, l_102, l_105, l_111, l_112, l_114, l_115, l_116, l_117, l_120, l_144, l_200, l_201, l_240, l_300, l_320, l_400, l_500, l_550, l_560, l_649, l_650, l_1000, l_1400, l_2000, l_4000, l_10000, iN_add, iN_sub, iN_mul, iN_le_t, iN_le_f, iN_lt_t, iN_lt_f, iN_eq_f, inb_iN, ix_iN, isZ_0, isZ_1, ↓reduceIte, eq_self, sI_p, sI_eq]
      · have : j = 0 ∨ j = 1 ∨ j = 2 ∨ j = 3 := by omega
        rcases this with rfl | rfl | rfl | rfl
        · simp (disch := omega) only [chk_t, beq_self_eq_true, nm_s, bj1_s, bj2_s, bj3_s, mo_1, mo_0, l_0, l_1, l_2, l_3, l_4, l_5, l_6, l_7, l_8, l_9, l_10, l_11, l_12, l_13, l_14, l_15, l_16, l_17, l_18, l_19, l_20, l_21, l_30, l_31, l_32, l_36, l_40, l_41, l_42, l_43, l_44, l_45, l_46, l_47, l_48, l_49, l_50, l_51, l_52, l_57, l_58, l_60, l_64, l_72, l_80, l_92, l_98, l_99, l_100, l_102, l_105, l_111, l_112, l_114, l_115, l_116, l_117, l_120, l_144, l_200, l_201, l_240, l_300, l_320, l_400, l_500, l_550, l_560, l_649, l_650, l_1000, l_1400, l_2000, l_4000, l_10000, iN_add, iN_sub, iN_mul, iN_le_t, iN_le_f, iN_lt_t, iN_lt_f, iN_eq_f, inb_iN, ix_iN, isZ_0, isZ_1, ↓reduceIte, eq_self, sI_j, sI_eq]
          rfl
        · simp (disch := omega) only [chk_t, beq_self_eq_true, nm_s, bj1_s, bj2_s, bj3_s, mo_1, mo_0, l_0, l_1, l_2, l_3, l_4, l_5, l_6, l_7, l_8, l_9, l_10, l_11, l_12, l_13, l_14, l_15, l_16, l_17, l_18, l_19, l_20, l_21, l_30, l_31, l_32, l_36, l_40, l_41, l_42, l_43, l_44, l_45, l_46, l_47, l_48, l_49, l_50, l_51, l_52, l_57, l_58, l_60, l_64, l_72, l_80, l_92, l_98, l_99, l_100, l_102, l_105, l_111, l_112, l_114, l_115, l_116, l_117, l_120, l_144, l_200, l_201, l_240, l_300, l_320, l_400, l_500, l_550, l_560, l_649, l_650, l_1000, l_1400, l_2000, l_4000, l_10000, iN_add, iN_sub, iN_mul, iN_le_t, iN_le_f, iN_lt_t, iN_lt_f, iN_eq_f, inb_iN, ix_iN, isZ_0, isZ_1, ↓reduceIte, eq_self, sI_j, sI_eq]
          rfl
        · simp (disch := omega) only [chk_t, beq_self_eq_true, nm_s, bj1_s, bj2_s, bj3_s, mo_1, mo_0, l_0, l_1, l_2, l_3, l_4, l_5, l_6, l_7, l_8, l_9, l_10, l_11, l_12, l_13, l_14, l_15, l_16, l_17, l_18, l_19, l_20, l_21, l_30, l_31, l_32, l_36, l_40, l_41, l_42, l_43, l_44, l_45, l_46, l_47, l_48, l_49, l_50, l_51, l_52, l_57, l_58, l_60, l_64, l_72, l_80, l_92, l_98, l_99, l_100, l_102, l_105, l_111, l_112, l_114, l_115, l_116, l_117, l_120, l_144, l_200, l_201, l_240, l_300, l_320, l_400, l_500, l_550, l_560, l_649, l_650, l_1000, l_1400, l_2000, l_4000, l_10000, iN_add, iN_sub, iN_mul, iN_le_t, iN_le_f, iN_lt_t, iN_lt_f, iN_eq_f, inb_iN, ix_iN, isZ_0, isZ_1, ↓reduceIte, eq_self, sI_j, sI_eq]
          rfl
        · simp (disch := omega) only [chk_t, beq_self_eq_true, nm_s, bj1_s, bj2_s, bj3_s, mo_1, mo_0, l_0, l_1, l_2, l_3, l_4, l_5, l_6, l_7, l_8, l_9, l_10, l_11, l_12, l_13, l_14, l_15, l_16, l_17, l_18, l_19, l_20, l_21, l_30, l_31, l_32, l_36, l_40, l_41, l_42, l_43, l_44, l_45, l_46, l_47, l_48, l_49, l_50, l_51, l_52, l_57, l_58, l_60, l_64, l_72, l_80, l_92, l_98, l_99, l_100, l_102, l_105, l_111, l_112, l_114, l_115, l_116, l_117, l_120, l_144, l_200, l_201, l_240, l_300, l_320, l_400, l_500, l_550, l_560, l_649, l_650, l_1000, l_1400, l_2000, l_4000, l_10000, iN_add, iN_sub, iN_mul, iN_le_t, iN_le_f, iN_lt_t, iN_lt_f, iN_eq_f, inb_iN, ix_iN, isZ_0, isZ_1, ↓reduceIte, eq_self, sI_j, sI_eq]
          rfl
    have mfA : mf H A := by
      rw [hA]
      exact mf_sI (mf_sI (mf_sI (mf_sI (mf_124 (mf_124 mf_refl (by omega)) (by omega)) (by omega)) (by omega)) (by omega)) (by omega)
    obtain ⟨H', g1, g2, g3⟩ := h3 FU A (by have : 100 < FU := fu_lt (by omega); omega) hm
    refine ⟨H', ?_, mf_tr mfA g2, g3⟩
    rw [hA] at g1
    unfold f_X8_slabFault
    simp (disch := omega) only [chk_t, beq_self_eq_true, nm_s, bj1_s, bj2_s, bj3_s, mo_1, mo_0, l_0, l_1, l_2, l_3, l_4, l_5, l_6, l_7, l_8, l_9, l_10, l_11, l_12, l_13, l_14, l_15, l_16, l_17, l_18, l_19, l_20, l_21, l_30, l_31, l_32, l_36, l_40, l_41, l_42, l_43, l_44, l_45, l_46, l_47, l_48, l_49, l_50, l_51, l_52, l_57, l_58, l_60, l_64, l_72, l_80, l_92, l_98, l_99, l_100, l_102, l_105, l_111, l_112, l_114, l_115, l_116, l_117, l_120, l_144, l_200, l_201, l_240, l_300, l_320, l_400, l_500, l_550, l_560, l_649, l_650, l_1000, l_1400, l_2000, l_4000, l_10000, iN_add, iN_sub, iN_mul, iN_le_t, iN_le_f, iN_lt_t, iN_lt_f, iN_eq_f, inb_iN, ix_iN, isZ_0, isZ_1, ↓reduceIte, eq_self]
    exact g1
theorem cT_R2 {G : G_} {t z : Nat} (h : R2 G) (ht : t < 4) (e : G.1 129 t = iN z) (hz : z ≤ 80) : cT t z (fun i => G.1 130 (80 * t + i)) G := by
  obtain ⟨h1, h2, h3⟩ := h t ht
  exact ⟨h1.trans e, fun i hi => by rw [show 63 + 2 * t + 1 = 64 + 2 * t by omega]; exact h3 i (by omega)⟩
theorem become5 {o : Nat} {G : G_} (ho : kd o = 5) (hd : o ≠ 40) (h0 : G.1 40 0 = iN 1) : ∃ G', f_X5_become o 40 G = some G' ∧ G'.1 o 0 = iN 1 ∧ (∀ j, j < 4 → G'.1 o (j + 1) = G.1 40 (j + 1)) ∧ (∀ q, q ≠ o → G'.1 q = G.1 q) ∧ G'.2 = G.2 := by
  have hk40 : kd 40 = 5 := rfl
  have hd' : 40 ≠ o := fun e => hd e.symm
  refine ⟨sI (sI (sI (sI (sI G o 0 (iN 1)) o 1 (G.1 40 1)) o 2 (G.1 40 2)) o 3 (G.1 40 3)) o 4 (G.1 40 4), ?_, ?_, fun j hj => ?_, fun q hq => ?_, rfl⟩
  · unfold f_X5_become
    simp (disch := omega) only [chk_t, beq_self_eq_true, nm_s, bj1_s, bj2_s, bj3_s, mo_1, mo_0, l_0, l_1, l_2, l_3, l_4, l_5, l_6, l_7, l_8, l_9, l_10, l_11, l_12, l_13, l_14, l_15, l_16, l_17, l_18, l_19, l_20, l_21, l_30, l_31, l_32, l_36, l_40, l_41, l_42, l_43, l_44, l_45, l_46, l_47, l_48, l_49, l_50, l_51, l_52, l_57, l_58, l_60, l_64, l_72, l_80, l_92, l_98, l_99, l_100, l_102, l_105, l_111, l_112, l_114, l_115, l_116, l_117, l_120, l_144, l_200, l_201, l_240, l_300, l_320, l_400, l_500, l_550, l_560, l_649, l_650, l_1000, l_1400, l_2000, l_4000, l_10000, iN_add, iN_sub, iN_mul, iN_le_t, iN_le_f, iN_lt_t, iN_lt_f, iN_eq_f, inb_iN, ix_iN, isZ_0, isZ_1, ↓reduceIte, eq_self, kd_b ho, kd_b hk40, h0, sI_p hd']
  · simp (disch := omega) only [chk_t, beq_self_eq_true, nm_s, bj1_s, bj2_s, bj3_s, mo_1, mo_0, l_0, l_1, l_2, l_3, l_4, l_5, l_6, l_7, l_8, l_9, l_10, l_11, l_12, l_13, l_14, l_15, l_16, l_17, l_18, l_19, l_20, l_21, l_30, l_31, l_32, l_36, l_40, l_41, l_42, l_43, l_44, l_45, l_46, l_47, l_48, l_49, l_50, l_51, l_52, l_57, l_58, l_60, l_64, l_72, l_80, l_92, l_98, l_99, l_100, l_102, l_105, l_111, l_112, l_114, l_115, l_116, l_117, l_120, l_144, l_200, l_201, l_240, l_300, l_320, l_400, l_500, l_550, l_560, l_649, l_650, l_1000, l_1400, l_2000, l_4000, l_10000, iN_add, iN_sub, iN_mul, iN_le_t, iN_le_f, iN_lt_t, iN_lt_f, iN_eq_f, inb_iN, ix_iN, isZ_0, isZ_1, ↓reduceIte, eq_self, sI_j, sI_eq]
  · have : j = 0 ∨ j = 1 ∨ j = 2 ∨ j = 3 := by omega
    rcases this with rfl | rfl | rfl | rfl
    · simp (disch := omega) only [chk_t, beq_self_eq_true, nm_s, bj1_s, bj2_s, bj3_s, mo_1, mo_0, l_0, l_1, l_2, l_3, l_4, l_5, l_6, l_7, l_8, l_9, l_10, l_11, l_12, l_13, l_14, l_15, l_16, l_17, l_18, l_19, l_20, l_21, l_30, l_31, l_32, l_36, l_40, l_41, l_42, l_43, l_44, l_45, l_46, l_47, l_48, l_49, l_50, l_51, l_52, l_57, l_58, l_60, l_64, l_72, l_80, l_92, l_98, l_99, l_100, l_102, l_105, l_111, l_112, l_114, l_115, l_116, l_117, l_120, l_144, l_200, l_201, l_240, l_300, l_320, l_400, l_500, l_550, l_560, l_649, l_650, l_1000, l_1400, l_2000, l_4000, l_10000, iN_add, iN_sub, iN_mul, iN_le_t, iN_le_f, iN_lt_t, iN_lt_f, iN_eq_f, inb_iN, ix_iN, isZ_0, isZ_1, ↓reduceIte, eq_self, sI_j, sI_eq]
    · simp (disch := omega) only [chk_t, beq_self_eq_true, nm_s, bj1_s, bj2_s, bj3_s, mo_1, mo_0, l_0, l_1, l_2, l_3, l_4, l_5, l_6, l_7, l_8, l_9, l_10, l_11, l_12, l_13, l_14, l_15, l_16, l_17, l_18, l_19, l_20, l_21, l_30, l_31, l_32, l_36, l_40, l_41, l_42, l_43, l_44, l_45, l_46, l_47, l_48, l_49, l_50, l_51, l_52, l_57, l_58, l_60, l_64, l_72, l_80, l_92, l_98, l_99, l_100, l_102, l_105, l_111, l_112, l_114, l_115, l_116, l_117, l_120, l_144, l_200, l_201, l_240, l_300, l_320, l_400, l_500, l_550, l_560, l_649, l_650, l_1000, l_1400, l_2000, l_4000, l_10000, iN_add, iN_sub, iN_mul, iN_le_t, iN_le_f, iN_lt_t, iN_lt_f, iN_eq_f, inb_iN, ix_iN, isZ_0, isZ_1, ↓reduceIte, eq_self, sI_j, sI_eq]
    · simp (disch := omega) only [chk_t, beq_self_eq_true, nm_s, bj1_s, bj2_s, bj3_s, mo_1, mo_0, l_0, l_1, l_2, l_3, l_4, l_5, l_6, l_7, l_8, l_9, l_10, l_11, l_12, l_13, l_14, l_15, l_16, l_17, l_18, l_19, l_20, l_21, l_30, l_31, l_32, l_36, l_40, l_41, l_42, l_43, l_44, l_45, l_46, l_47, l_48, l_49, l_50, l_51, l_52, l_57, l_58, l_60, l_64, l_72, l_80, l_92, l_98, l_99, l_100, l_102, l_105, l_111, l_112, l_114, l_115, l_116, l_117, l_120, l_144, l_200, l_201, l_240, l_300, l_320, l_400, l_500, l_550, l_560, l_649, l_650, l_1000, l_1400, l_2000, l_4000, l_10000, iN_add, iN_sub, iN_mul, iN_le_t, iN_le_f, iN_lt_t, iN_lt_f, iN_eq_f, inb_iN, ix_iN, isZ_0, isZ_1, ↓reduceIte, eq_self, sI_j, sI_eq]
    · simp (disch := omega) only [chk_t, beq_self_eq_true, nm_s, bj1_s, bj2_s, bj3_s, mo_1, mo_0, l_0, l_1, l_2, l_3, l_4, l_5, l_6, l_7, l_8, l_9, l_10, l_11, l_12, l_13, l_14, l_15, l_16, l_17, l_18, l_19, l_20, l_21, l_30, l_31, l_32, l_36, l_40, l_41, l_42, l_43, l_44, l_45, l_46, l_47, l_48, l_49, l_50, l_51, l_52, l_57, l_58, l_60, l_64, l_72, l_80, l_92, l_98, l_99, l_100, l_102, l_105, l_111, l_112, l_114, l_115, l_116, l_117, l_120, l_144, l_200, l_201, l_240, l_300, l_320, l_400, l_500, l_550, l_560, l_649, l_650, l_1000, l_1400, l_2000, l_4000, l_10000, iN_add, iN_sub, iN_mul, iN_le_t, iN_le_f, iN_lt_t, iN_lt_f, iN_eq_f, inb_iN, ix_iN, isZ_0, isZ_1, ↓reduceIte, eq_self, sI_j, sI_eq]
  · rw [sI_p hq, sI_p hq, sI_p hq, sI_p hq, sI_p hq]
theorem slabcopy {k : Nat} {H : G_} (hk : k < 4) : ∃ H', f_X8_slab_l46_11 (iN k) FU (iN 0) H = some H' ∧ (∀ j, j < 4 → H'.1 132 (4 * k + j) = H.1 136 j) ∧ (∀ i, i < 4 * k ∨ 4 * k + 4 ≤ i → H'.1 132 i = H.1 132 i) ∧ (∀ q, q ≠ 132 → H'.1 q = H.1 q) ∧ H'.2 = H.2 := by
  refine loop_h (fun f v s => f_X8_slab_l46_11 (iN k) f v s) (fun j H' => (∀ i, i < j → H'.1 132 (4 * k + i) = H.1 136 i) ∧ (∀ i, i < 4 * k ∨ 4 * k + 4 ≤ i → H'.1 132 i = H.1 132 i) ∧ (∀ q, q ≠ 132 → H'.1 q = H.1 q) ∧ H'.2 = H.2) _ 0 4 ?_ ?_ (by omega) (n := FU) (fu_lt (by omega)) ⟨fun i hi => by omega, fun _ _ => rfl, fun _ _ => rfl, rfl⟩
  · intro f j A h3 h4 ⟨i0, i1, i2, i3⟩
    have e := congrFun (i2 136 (by omega)) j
    refine ⟨sI A 132 (4 * k + j) (H.1 136 j), ⟨fun i hi => ?_, fun i hi => by rw [sI_j (by omega)]; exact i1 i hi, fun q hq => by rw [sI_p hq]; exact i2 q hq, i3⟩, ?_⟩
    · by_cases c : i = j
      · subst c
        exact sI_eq
      · rw [sI_j (by omega)]
        exact i0 i (by omega)
    · show f_X8_slab_l46_11 (iN k) (f + 1) (iN j) A = _
      conv => lhs; unfold f_X8_slab_l46_11
      simp (disch := omega) only [chk_t, beq_self_eq_true, nm_s, bj1_s, bj2_s, bj3_s, mo_1, mo_0, l_0, l_1, l_2, l_3, l_4, l_5, l_6, l_7, l_8, l_9, l_10, l_11, l_12, l_13, l_14, l_15, l_16, l_17, l_18, l_19, l_20, l_21, l_30, l_31, l_32, l_36, l_40, l_41, l_42, l_43, l_44, l_45, l_46, l_47, l_48, l_49, l_50, l_51, l_52, l_57, l_58, l_60, l_64, l_72, l_80, l_92, l_98, l_99, l_100, l_102, l_105, l_111, l_112, l_114, l_115, l_116, l_117, l_120, l_144, l_200, l_201, l_240, l_300, l_320, l_400, l_500, l_550, l_560, l_649, l_650, l_1000, l_1400, l_2000, l_4000, l_10000, iN_add, iN_sub, iN_mul, iN_le_t, iN_le_f, iN_lt_t, iN_lt_f, iN_eq_f, inb_iN, ix_iN, isZ_0, isZ_1, ↓reduceIte, eq_self, e]
  · intro f A hI
    refine ⟨A, ?_, hI⟩
    show f_X8_slab_l46_11 (iN k) (f + 1) (iN 4) A = _
    unfold f_X8_slab_l46_11
    simp (disch := omega) only [chk_t, beq_self_eq_true, nm_s, bj1_s, bj2_s, bj3_s, mo_1, mo_0, l_0, l_1, l_2, l_3, l_4, l_5, l_6, l_7, l_8, l_9, l_10, l_11, l_12, l_13, l_14, l_15, l_16, l_17, l_18, l_19, l_20, l_21, l_30, l_31, l_32, l_36, l_40, l_41, l_42, l_43, l_44, l_45, l_46, l_47, l_48, l_49, l_50, l_51, l_52, l_57, l_58, l_60, l_64, l_72, l_80, l_92, l_98, l_99, l_100, l_102, l_105, l_111, l_112, l_114, l_115, l_116, l_117, l_120, l_144, l_200, l_201, l_240, l_300, l_320, l_400, l_500, l_550, l_560, l_649, l_650, l_1000, l_1400, l_2000, l_4000, l_10000, iN_add, iN_sub, iN_mul, iN_le_t, iN_le_f, iN_lt_t, iN_lt_f, iN_eq_f, inb_iN, ix_iN, isZ_0, isZ_1, ↓reduceIte, eq_self]
theorem RR_3 {G G' : G_} (h : RR G) (r3 : R3 G') (e : ∀ q, (1 ≤ q ∧ q ≤ 16) ∨ (50 ≤ q ∧ q < 71) ∨ (75 ≤ q ∧ q < 124) ∨ (125 ≤ q ∧ q ≤ 130 ∧ q ≠ 128) ∨ (133 ≤ q ∧ q ≤ 135) ∨ q = 138 → G'.1 q = G.1 q) (e9 : ∀ j, j < 448 → G'.1 139 j = G.1 139 j) (ez : isZ (G'.1 17 7) = true) (e0 : G'.1 0 15 = G.1 0 15) (e1 : G'.1 124 0 = G.1 124 0) (e2 : G'.2 = G.2) (ra : G'.1 0 16 = G'.1 124 2) : RR G' := by
  obtain ⟨⟨r1, r2, _, r4, r5, r6⟩, _⟩ := h
  refine ⟨⟨R1_fr r1 (fun q hq => e q (by omega)), R2_fr r2 (fun q hq => e q (by omega)), r3, R4_fr r4 (fun q hq => e q (by omega)), R5_fr r5 (fun q hq => e q (by omega)) e9, ?_⟩, ra⟩
  exact ⟨by rw [e0, e1]; exact r6.1, by rw [e 50 (by omega), e 125 (by omega)]; exact r6.2.1, by rw [e2]; exact r6.2.2.1, by rw [e2]; exact r6.2.2.2.1, ez⟩
theorem op_slab (a1 a2 : Int32) {G : G_} (h : RR G) : pOK (f_X7_slab a1 a2) (f_X8_slab a1 a2) G := by
  rcases slab_cases a1 G with ⟨e1, c1⟩ | ⟨k, hk, rfl, e1, c1, ho⟩
  · refine pOK_same (x := -iN 1) h ?_ (by unfold f_X8_slab; simp (disch := omega) only [chk_t, beq_self_eq_true, nm_s, bj1_s, bj2_s, bj3_s, mo_1, mo_0, l_0, l_1, l_2, l_3, l_4, l_5, l_6, l_7, l_8, l_9, l_10, l_11, l_12, l_13, l_14, l_15, l_16, l_17, l_18, l_19, l_20, l_21, l_30, l_31, l_32, l_36, l_40, l_41, l_42, l_43, l_44, l_45, l_46, l_47, l_48, l_49, l_50, l_51, l_52, l_57, l_58, l_60, l_64, l_72, l_80, l_92, l_98, l_99, l_100, l_102, l_105, l_111, l_112, l_114, l_115, l_116, l_117, l_120, l_144, l_200, l_201, l_240, l_300, l_320, l_400, l_500, l_550, l_560, l_649, l_650, l_1000, l_1400, l_2000, l_4000, l_10000, iN_add, iN_sub, iN_mul, iN_le_t, iN_le_f, iN_lt_t, iN_lt_f, iN_eq_f, inb_iN, ix_iN, isZ_0, isZ_1, ↓reduceIte, eq_self, place8, e1])
    rcases text_cases a2 G with ⟨e2, c2⟩ | ⟨t, ht, rfl, e2, c2, ho2⟩
    · unfold f_X7_slab
      simp (disch := omega) only [chk_t, beq_self_eq_true, nm_s, bj1_s, bj2_s, bj3_s, mo_1, mo_0, l_0, l_1, l_2, l_3, l_4, l_5, l_6, l_7, l_8, l_9, l_10, l_11, l_12, l_13, l_14, l_15, l_16, l_17, l_18, l_19, l_20, l_21, l_30, l_31, l_32, l_36, l_40, l_41, l_42, l_43, l_44, l_45, l_46, l_47, l_48, l_49, l_50, l_51, l_52, l_57, l_58, l_60, l_64, l_72, l_80, l_92, l_98, l_99, l_100, l_102, l_105, l_111, l_112, l_114, l_115, l_116, l_117, l_120, l_144, l_200, l_201, l_240, l_300, l_320, l_400, l_500, l_550, l_560, l_649, l_650, l_1000, l_1400, l_2000, l_4000, l_10000, iN_add, iN_sub, iN_mul, iN_le_t, iN_le_f, iN_lt_t, iN_lt_f, iN_eq_f, inb_iN, ix_iN, isZ_0, isZ_1, ↓reduceIte, eq_self, c1, c2]
    · unfold f_X7_slab
      simp (disch := omega) only [chk_t, beq_self_eq_true, nm_s, bj1_s, bj2_s, bj3_s, mo_1, mo_0, l_0, l_1, l_2, l_3, l_4, l_5, l_6, l_7, l_8, l_9, l_10, l_11, l_12, l_13, l_14, l_15, l_16, l_17, l_18, l_19, l_20, l_21, l_30, l_31, l_32, l_36, l_40, l_41, l_42, l_43, l_44, l_45, l_46, l_47, l_48, l_49, l_50, l_51, l_52, l_57, l_58, l_60, l_64, l_72, l_80, l_92, l_98, l_99, l_100, l_102, l_105, l_111, l_112, l_114, l_115, l_116, l_117, l_120, l_144, l_200, l_201, l_240, l_300, l_320, l_400, l_500, l_550, l_560, l_649, l_650, l_1000, l_1400, l_2000, l_4000, l_10000, iN_add, iN_sub, iN_mul, iN_le_t, iN_le_f, iN_lt_t, iN_lt_f, iN_eq_f, inb_iN, ix_iN, isZ_0, isZ_1, ↓reduceIte, eq_self, c1, c2]
  · rcases text_cases a2 G with ⟨e2, c2⟩ | ⟨t, ht, rfl, e2, c2, ho2⟩
    · refine pOK_same (x := -iN 1) h ?_ (by unfold f_X8_slab; simp (disch := omega) only [chk_t, beq_self_eq_true, nm_s, bj1_s, bj2_s, bj3_s, mo_1, mo_0, l_0, l_1, l_2, l_3, l_4, l_5, l_6, l_7, l_8, l_9, l_10, l_11, l_12, l_13, l_14, l_15, l_16, l_17, l_18, l_19, l_20, l_21, l_30, l_31, l_32, l_36, l_40, l_41, l_42, l_43, l_44, l_45, l_46, l_47, l_48, l_49, l_50, l_51, l_52, l_57, l_58, l_60, l_64, l_72, l_80, l_92, l_98, l_99, l_100, l_102, l_105, l_111, l_112, l_114, l_115, l_116, l_117, l_120, l_144, l_200, l_201, l_240, l_300, l_320, l_400, l_500, l_550, l_560, l_649, l_650, l_1000, l_1400, l_2000, l_4000, l_10000, iN_add, iN_sub, iN_mul, iN_le_t, iN_le_f, iN_lt_t, iN_lt_f, iN_eq_f, inb_iN, ix_iN, isZ_0, isZ_1, ↓reduceIte, eq_self, place8, e1, text8, e2])
      unfold f_X7_slab
      simp (disch := omega) only [chk_t, beq_self_eq_true, nm_s, bj1_s, bj2_s, bj3_s, mo_1, mo_0, l_0, l_1, l_2, l_3, l_4, l_5, l_6, l_7, l_8, l_9, l_10, l_11, l_12, l_13, l_14, l_15, l_16, l_17, l_18, l_19, l_20, l_21, l_30, l_31, l_32, l_36, l_40, l_41, l_42, l_43, l_44, l_45, l_46, l_47, l_48, l_49, l_50, l_51, l_52, l_57, l_58, l_60, l_64, l_72, l_80, l_92, l_98, l_99, l_100, l_102, l_105, l_111, l_112, l_114, l_115, l_116, l_117, l_120, l_144, l_200, l_201, l_240, l_300, l_320, l_400, l_500, l_550, l_560, l_649, l_650, l_1000, l_1400, l_2000, l_4000, l_10000, iN_add, iN_sub, iN_mul, iN_le_t, iN_le_f, iN_lt_t, iN_lt_f, iN_eq_f, inb_iN, ix_iN, isZ_0, isZ_1, ↓reduceIte, eq_self, c1, c2, kd_b ho]
    · obtain ⟨t1, t2, t3⟩ := h.1.2.1 t ht
      rcases t2 with t2 | ⟨z, hz, t2⟩
      · have tt := tthere_f ho2 (t1.trans t2)
        refine pOK_found (f := 1) (by omega) h ?_ ?_
        · unfold f_X7_slab
          simp (disch := omega) only [chk_t, beq_self_eq_true, nm_s, bj1_s, bj2_s, bj3_s, mo_1, mo_0, l_0, l_1, l_2, l_3, l_4, l_5, l_6, l_7, l_8, l_9, l_10, l_11, l_12, l_13, l_14, l_15, l_16, l_17, l_18, l_19, l_20, l_21, l_30, l_31, l_32, l_36, l_40, l_41, l_42, l_43, l_44, l_45, l_46, l_47, l_48, l_49, l_50, l_51, l_52, l_57, l_58, l_60, l_64, l_72, l_80, l_92, l_98, l_99, l_100, l_102, l_105, l_111, l_112, l_114, l_115, l_116, l_117, l_120, l_144, l_200, l_201, l_240, l_300, l_320, l_400, l_500, l_550, l_560, l_649, l_650, l_1000, l_1400, l_2000, l_4000, l_10000, iN_add, iN_sub, iN_mul, iN_le_t, iN_le_f, iN_lt_t, iN_lt_f, iN_eq_f, inb_iN, ix_iN, isZ_0, isZ_1, ↓reduceIte, eq_self, c1, c2, kd_b ho, kd_b ho2, tt, found_ok]
        · unfold f_X8_slab
          simp (disch := omega) only [chk_t, beq_self_eq_true, nm_s, bj1_s, bj2_s, bj3_s, mo_1, mo_0, l_0, l_1, l_2, l_3, l_4, l_5, l_6, l_7, l_8, l_9, l_10, l_11, l_12, l_13, l_14, l_15, l_16, l_17, l_18, l_19, l_20, l_21, l_30, l_31, l_32, l_36, l_40, l_41, l_42, l_43, l_44, l_45, l_46, l_47, l_48, l_49, l_50, l_51, l_52, l_57, l_58, l_60, l_64, l_72, l_80, l_92, l_98, l_99, l_100, l_102, l_105, l_111, l_112, l_114, l_115, l_116, l_117, l_120, l_144, l_200, l_201, l_240, l_300, l_320, l_400, l_500, l_550, l_560, l_649, l_650, l_1000, l_1400, l_2000, l_4000, l_10000, iN_add, iN_sub, iN_mul, iN_le_t, iN_le_f, iN_lt_t, iN_lt_f, iN_eq_f, inb_iN, ix_iN, isZ_0, isZ_1, ↓reduceIte, eq_self, place8, e1, text8, e2, fndC_o, t2, le_m1, meets_ok]
      · have tt := tthere_t ho2 (t1.trans t2) hz
        have hcT := cT_R2 h.1.2.1 ht t2 hz
        obtain ⟨e, c', V', r1, r2, r3⟩ := slab_read (B := fun i => G.1 130 (80 * t + i)) ht hz
        obtain ⟨x, A, a1, a2, a3, a4⟩ := r2 G hcT
        by_cases he : e = -iN 9
        · obtain ⟨rfl, b0, b1⟩ := a4 he
          obtain ⟨C, d0, d1, d2, d3, d4⟩ := become5 (o := 71 + k) (G := A) ho (by omega) b0
          have eC : ∀ q, 49 < q → q ≠ 71 + k → C.1 q = G.1 q := fun q h1 h2 => (d3 q h2).trans (cc_at a2 h1)
          obtain ⟨H, m0, m1, m2⟩ := r3 C ⟨by rw [eC 129 (by omega) (by omega)]; exact t2, fun i hi => by rw [eC 130 (by omega) (by omega)]⟩
          obtain ⟨m3, m4⟩ := m2 he
          obtain ⟨H2, n0, n1, n2, n3, n4⟩ := slabcopy (k := k) (H := H) hk
          have n17 : H2.1 124 17 = iN c' := (congrFun (n3 124 (by omega)) 17).trans m3
          refine ⟨iN c', C, sI H2 131 k (iN 1), ?_, ?_, ?_⟩
          · unfold f_X7_slab
            simp (disch := omega) only [chk_t, beq_self_eq_true, nm_s, bj1_s, bj2_s, bj3_s, mo_1, mo_0, l_0, l_1, l_2, l_3, l_4, l_5, l_6, l_7, l_8, l_9, l_10, l_11, l_12, l_13, l_14, l_15, l_16, l_17, l_18, l_19, l_20, l_21, l_30, l_31, l_32, l_36, l_40, l_41, l_42, l_43, l_44, l_45, l_46, l_47, l_48, l_49, l_50, l_51, l_52, l_57, l_58, l_60, l_64, l_72, l_80, l_92, l_98, l_99, l_100, l_102, l_105, l_111, l_112, l_114, l_115, l_116, l_117, l_120, l_144, l_200, l_201, l_240, l_300, l_320, l_400, l_500, l_550, l_560, l_649, l_650, l_1000, l_1400, l_2000, l_4000, l_10000, iN_add, iN_sub, iN_mul, iN_le_t, iN_le_f, iN_lt_t, iN_lt_f, iN_eq_f, inb_iN, ix_iN, isZ_0, isZ_1, ↓reduceIte, eq_self, c1, c2, kd_b ho, kd_b ho2, tt, a1, a3, he, d0]
          · have c129 : C.1 129 t = iN z := by rw [eC 129 (by omega) (by omega)]; exact t2
            unfold f_X8_slab
            simp (disch := omega) only [chk_t, beq_self_eq_true, nm_s, bj1_s, bj2_s, bj3_s, mo_1, mo_0, l_0, l_1, l_2, l_3, l_4, l_5, l_6, l_7, l_8, l_9, l_10, l_11, l_12, l_13, l_14, l_15, l_16, l_17, l_18, l_19, l_20, l_21, l_30, l_31, l_32, l_36, l_40, l_41, l_42, l_43, l_44, l_45, l_46, l_47, l_48, l_49, l_50, l_51, l_52, l_57, l_58, l_60, l_64, l_72, l_80, l_92, l_98, l_99, l_100, l_102, l_105, l_111, l_112, l_114, l_115, l_116, l_117, l_120, l_144, l_200, l_201, l_240, l_300, l_320, l_400, l_500, l_550, l_560, l_649, l_650, l_1000, l_1400, l_2000, l_4000, l_10000, iN_add, iN_sub, iN_mul, iN_le_t, iN_le_f, iN_lt_t, iN_lt_f, iN_eq_f, inb_iN, ix_iN, isZ_0, isZ_1, ↓reduceIte, eq_self, place8, e1, text8, e2, c129, m0, he, n0, sI_p, n17]
          · have eK : ∀ q, relq q → q ≠ 131 → q ≠ 132 → q ≠ 71 + k → 49 < q → (sI H2 131 k (iN 1)).1 q = G.1 q := fun q h1 h2 h3 h4 h5 => by rw [sI_p h2, n3 q h3, m1.1 q (Or.inr h1), eC q h5 h4]
            have eL : ∀ q, q < 124 → (sI H2 131 k (iN 1)).1 q = C.1 q := fun q h1 => by rw [sI_p (by omega), n3 q (by omega), m1.1 q (by omega)]
            have eG : ∀ q, q < 17 → C.1 q = G.1 q := fun q hq => (d3 q (by omega)).trans (a2.1 q (by omega))
            have c124 : C.1 124 = G.1 124 := eC 124 (by omega) (by omega)
            have k124 : ∀ j, (sI H2 131 k (iN 1)).1 124 j = H.1 124 j := fun j => by rw [sI_p (by omega), n3 124 (by omega)]
            refine RR_3 h ?_ (fun q hq => ?_) (fun j hj => ?_) ?_ ?_ ?_ ?_ ?_
            · intro s hs
              have hs' := h.1.2.2.1 s hs
              by_cases c : s = k
              · subst c
                have v : ∀ p, p < 4 → SL s (sI H2 131 s (iN 1)) p = V' p := fun p hp => by
                  unfold SL
                  rw [sI_p (by omega), n1 p hp, m4 p hp]
                obtain ⟨n, o1, o2, o3⟩ := r1 he
                refine ⟨?_, Or.inr ⟨sI_eq, n, ⟨by rw [v 0 (by omega)]; exact o1.1, o1.2⟩, by rw [v 1 (by omega)]; exact o2, by rw [v 1 (by omega)]; exact o3⟩, ?_⟩
                · rw [sI_eq, eL _ (by omega)]
                  exact d1
                · have w : ∀ p, p < 4 → (sI H2 131 s (iN 1)).1 (71 + s) (p + 1) = V' p := fun p hp => by
                    rw [eL _ (by omega), d2 p hp, b1 p hp]
                  exact ⟨(w 0 (by omega)).trans (v 0 (by omega)).symm, (w 1 (by omega)).trans (v 1 (by omega)).symm, (w 2 (by omega)).trans (v 2 (by omega)).symm, (w 3 (by omega)).trans (v 3 (by omega)).symm⟩
              · have v : ∀ p, p < 4 → SL s (sI H2 131 k (iN 1)) p = SL s G p := fun p hp => by
                  unfold SL
                  rw [sI_p (by omega), n2 _ (by omega), m1.1 132 (Or.inr (by unfold relq; omega)), eC 132 (by omega) (by omega)]
                have w : (sI H2 131 k (iN 1)).1 (71 + s) = G.1 (71 + s) := by
                  rw [eL _ (by omega)]
                  exact eC _ (by omega) (by omega)
                have u : (sI H2 131 k (iN 1)).1 131 s = G.1 131 s := by
                  rw [sI_j c, n3 131 (by omega), m1.1 131 (Or.inr (by unfold relq; omega)), eC 131 (by omega) (by omega)]
                rw [w, u]
                refine ⟨hs'.1, ?_, ?_⟩
                · rcases hs'.2.1 with hh | ⟨hh, n, ⟨o1, o1'⟩, o2, o3⟩
                  · exact Or.inl hh
                  · exact Or.inr ⟨hh, n, ⟨by rw [v 0 (by omega)]; exact o1, o1'⟩, by rw [v 1 (by omega)]; exact o2, by rw [v 1 (by omega)]; exact o3⟩
                · obtain ⟨o1, o2, o3, o4⟩ := hs'.2.2
                  unfold cSl
                  rw [w, v 0 (by omega), v 1 (by omega), v 2 (by omega), v 3 (by omega)]
                  exact ⟨o1, o2, o3, o4⟩
            · by_cases h17 : q < 17
              · rw [eL q (by omega)]
                exact eG q h17
              · exact eK q (by unfold relq; omega) (by omega) (by omega) (by omega) (by omega)
            · rw [sI_p (by omega), n3 139 (by omega), m1.2.2.2.1 j hj, eC 139 (by omega) (by omega)]
            · rw [eL 17 (by omega), d3 17 (by omega)]
              exact a2.2.2 h.1.2.2.2.2.2.2.2.2.2
            · rw [eL 0 (by omega), eG 0 (by omega)]
            · rw [k124, m1.2.1, c124]
            · show H2.2 = G.2
              rw [n4, m1.2.2.2.2, d4, a2.2.1]
            · rw [eL 0 (by omega), eG 0 (by omega), k124, m1.2.2.1, c124]
              exact h.2
        · obtain ⟨H, m0, m1, -⟩ := r3 A ⟨by rw [cc_at a2 (by omega)]; exact t2, fun i hi => by rw [cc_at a2 (by omega)]⟩
          have he' := eq_false he
          refine pOK_none (x := -iN 4) (G1 := A) (H := H) h ?_ a2 ?_ m1
          · unfold f_X7_slab
            simp (disch := omega) only [chk_t, beq_self_eq_true, nm_s, bj1_s, bj2_s, bj3_s, mo_1, mo_0, l_0, l_1, l_2, l_3, l_4, l_5, l_6, l_7, l_8, l_9, l_10, l_11, l_12, l_13, l_14, l_15, l_16, l_17, l_18, l_19, l_20, l_21, l_30, l_31, l_32, l_36, l_40, l_41, l_42, l_43, l_44, l_45, l_46, l_47, l_48, l_49, l_50, l_51, l_52, l_57, l_58, l_60, l_64, l_72, l_80, l_92, l_98, l_99, l_100, l_102, l_105, l_111, l_112, l_114, l_115, l_116, l_117, l_120, l_144, l_200, l_201, l_240, l_300, l_320, l_400, l_500, l_550, l_560, l_649, l_650, l_1000, l_1400, l_2000, l_4000, l_10000, iN_add, iN_sub, iN_mul, iN_le_t, iN_le_f, iN_lt_t, iN_lt_f, iN_eq_f, inb_iN, ix_iN, isZ_0, isZ_1, ↓reduceIte, eq_self, c1, c2, kd_b ho, kd_b ho2, tt, a1, a3, he']
          · have c129 : A.1 129 t = iN z := by rw [cc_at a2 (by omega)]; exact t2
            unfold f_X8_slab
            simp (disch := omega) only [chk_t, beq_self_eq_true, nm_s, bj1_s, bj2_s, bj3_s, mo_1, mo_0, l_0, l_1, l_2, l_3, l_4, l_5, l_6, l_7, l_8, l_9, l_10, l_11, l_12, l_13, l_14, l_15, l_16, l_17, l_18, l_19, l_20, l_21, l_30, l_31, l_32, l_36, l_40, l_41, l_42, l_43, l_44, l_45, l_46, l_47, l_48, l_49, l_50, l_51, l_52, l_57, l_58, l_60, l_64, l_72, l_80, l_92, l_98, l_99, l_100, l_102, l_105, l_111, l_112, l_114, l_115, l_116, l_117, l_120, l_144, l_200, l_201, l_240, l_300, l_320, l_400, l_500, l_550, l_560, l_649, l_650, l_1000, l_1400, l_2000, l_4000, l_10000, iN_add, iN_sub, iN_mul, iN_le_t, iN_le_f, iN_lt_t, iN_lt_f, iN_eq_f, inb_iN, ix_iN, isZ_0, isZ_1, ↓reduceIte, eq_self, place8, e1, text8, e2, c129, m0, he']

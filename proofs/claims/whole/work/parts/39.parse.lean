/-! texts read: bytes, numbers, blanks -/
def cT (t z : Nat) (B : Nat → Int32) (G : G_) : Prop := G.1 (63 + 2 * t) 1 = iN z ∧ ∀ i, i < z → G.1 (63 + 2 * t + 1) i = B i
def mT (t z : Nat) (B : Nat → Int32) (H : G_) : Prop := H.1 129 t = iN z ∧ ∀ i, i < z → H.1 130 (80 * t + i) = B i
def bC (z : Nat) (B : Nat → Int32) (p : Nat) : Int32 := if p < z then B p else iN 1000
def bT (z : Nat) (B : Nat → Int32) (p : Nat) : Int32 := if p < z then B p else iN 0
theorem cT_sI {t z q j : Nat} {v : Int32} {B : Nat → Int32} {G : G_} (ht : t < 4) (h : cT t z B G) (hq : q < 63 ∨ 70 < q) : cT t z B (sI G q j v) := by
  unfold cT
  rw [sI_p (by omega), sI_p (by omega)]
  exact h
theorem mT_sI {t z q j : Nat} {v : Int32} {B : Nat → Int32} {G : G_} (h : mT t z B G) (hq : q ≠ 129 ∧ q ≠ 130) : mT t z B (sI G q j v) := by
  unfold mT
  rw [sI_p (by omega), sI_p (by omega)]
  exact h
theorem cval {t z p : Nat} {B : Nat → Int32} {G : G_} (ht : t < 4) (hz : z ≤ 80) (h : cT t z B G) (hp : p ≤ 1000) : f_X6_value (63 + 2 * t) (iN p) G = some (bC z B p) := by
  have ho := (rtk t ht).2
  unfold bC
  by_cases c : p < z
  · rw [if_pos c, tvalue_t ho h.1 hz c, h.2 p c]
  · rw [if_neg c]
    rcases thas_cases ho h.1 hz (iN p) with ⟨c2, -⟩ | ⟨k, hk, ek, -, -⟩
    · unfold f_X6_value
      simp (disch := omega) only [chk_t, beq_self_eq_true, nm_s, bj1_s, bj2_s, bj3_s, mo_1, mo_0, l_0, l_1, l_2, l_3, l_4, l_5, l_6, l_7, l_8, l_9, l_10, l_11, l_12, l_13, l_14, l_15, l_16, l_17, l_18, l_19, l_20, l_21, l_30, l_31, l_32, l_36, l_40, l_41, l_42, l_43, l_44, l_45, l_46, l_47, l_48, l_49, l_50, l_51, l_52, l_57, l_58, l_60, l_64, l_72, l_80, l_92, l_98, l_99, l_100, l_102, l_105, l_111, l_112, l_114, l_115, l_116, l_117, l_120, l_144, l_200, l_201, l_240, l_300, l_320, l_400, l_500, l_550, l_560, l_649, l_650, l_1000, l_1400, l_2000, l_4000, l_10000, iN_add, iN_sub, iN_mul, iN_le_t, iN_le_f, iN_lt_t, iN_lt_f, iN_eq_f, inb_iN, ix_iN, isZ_0, isZ_1, ↓reduceIte, eq_self, kd_b ho, c2]
    · have ek := (iN_inj (by omega) (by omega)).mp ek
      omega
theorem mval {t z p : Nat} {B : Nat → Int32} {H : G_} (ht : t < 4) (hz : z ≤ 80) (h : mT t z B H) (hp : p ≤ 1000) : f_X8_byteAt (iN t) (iN p) H = some (bT z B p) := by
  unfold f_X8_byteAt bT
  by_cases c : p < z
  · simp (disch := omega) only [chk_t, beq_self_eq_true, nm_s, bj1_s, bj2_s, bj3_s, mo_1, mo_0, l_0, l_1, l_2, l_3, l_4, l_5, l_6, l_7, l_8, l_9, l_10, l_11, l_12, l_13, l_14, l_15, l_16, l_17, l_18, l_19, l_20, l_21, l_30, l_31, l_32, l_36, l_40, l_41, l_42, l_43, l_44, l_45, l_46, l_47, l_48, l_49, l_50, l_51, l_52, l_57, l_58, l_60, l_64, l_72, l_80, l_92, l_98, l_99, l_100, l_102, l_105, l_111, l_112, l_114, l_115, l_116, l_117, l_120, l_144, l_200, l_201, l_240, l_300, l_320, l_400, l_500, l_550, l_560, l_649, l_650, l_1000, l_1400, l_2000, l_4000, l_10000, iN_add, iN_sub, iN_mul, iN_le_t, iN_le_f, iN_lt_t, iN_lt_f, iN_eq_f, inb_iN, ix_iN, isZ_0, isZ_1, ↓reduceIte, eq_self, h.1, h.2 p c, if_pos c]
  · simp (disch := omega) only [chk_t, beq_self_eq_true, nm_s, bj1_s, bj2_s, bj3_s, mo_1, mo_0, l_0, l_1, l_2, l_3, l_4, l_5, l_6, l_7, l_8, l_9, l_10, l_11, l_12, l_13, l_14, l_15, l_16, l_17, l_18, l_19, l_20, l_21, l_30, l_31, l_32, l_36, l_40, l_41, l_42, l_43, l_44, l_45, l_46, l_47, l_48, l_49, l_50, l_51, l_52, l_57, l_58, l_60, l_64, l_72, l_80, l_92, l_98, l_99, l_100, l_102, l_105, l_111, l_112, l_114, l_115, l_116, l_117, l_120, l_144, l_200, l_201, l_240, l_300, l_320, l_400, l_500, l_550, l_560, l_649, l_650, l_1000, l_1400, l_2000, l_4000, l_10000, iN_add, iN_sub, iN_mul, iN_le_t, iN_le_f, iN_lt_t, iN_lt_f, iN_eq_f, inb_iN, ix_iN, isZ_0, isZ_1, ↓reduceIte, eq_self, h.1, if_neg c]
theorem dg_cases (z : Nat) (B : Nat → Int32) (p : Nat) : (p < z ∧ ∃ k, 48 ≤ k ∧ k ≤ 57 ∧ bC z B p = iN k ∧ bT z B p = iN k) ∨ (inS (iN 48) (iN 57) (bC z B p) = iN 0 ∧ inS (iN 48) (iN 57) (bT z B p) = iN 0) := by
  unfold bC bT
  by_cases c : p < z
  · rw [if_pos c, if_pos c]
    rcases in_N 48 57 (B p) with h | ⟨-, k, h1, h2, h3⟩
    · exact Or.inr ⟨h, h⟩
    · exact Or.inl ⟨c, k, h2, h3, h1, h1⟩
  · rw [if_neg c, if_neg c]
    exact Or.inr ⟨by decide, by decide⟩
theorem dig_ok {t z p : Nat} {B : Nat → Int32} (ht : t < 4) (hz : z ≤ 80) (hp : p ≤ 100) : ∃ c v : Nat, c ≤ 2 ∧ (1 ≤ c → p + c ≤ z) ∧ v ≤ 99 ∧
    (∀ (G : G_) (a b : Int32), cT t z B G → G.1 39 0 = iN p → f_X3_readNumber_l16_5 (63 + 2 * t) a b FU (iN 0) (iN 0) G = some (iN c, iN v, sI G 39 0 (iN (p + c)))) ∧
    (∀ (H : G_) (a b : Int32), mT t z B H → H.1 124 15 = iN p → f_X8_number_l6_4 (iN t) a b FU (iN 0) (iN 0) H = some (iN c, iN v, sI H 124 15 (iN (p + c)))) := by
  have c3 : ∀ (G : G_), cT t z B G → ∀ q, q ≤ 1000 → f_X6_value (63 + 2 * t) (iN q) G = some (bC z B q) := fun G h q hq => cval ht hz h hq
  have m3 : ∀ (G : G_), mT t z B G → ∀ q, q ≤ 1000 → f_X8_byteAt (iN t) (iN q) G = some (bT z B q) := fun G h q hq => mval ht hz h hq
  rcases dg_cases z B p with ⟨h0, k, k1, k2, k3, k4⟩ | ⟨h1, h2⟩
  · have ik : inS (iN 48) (iN 57) (iN k) = iN 1 := inS_t ⟨k1, k2⟩ (by omega)
    rcases dg_cases z B (p + 1) with ⟨h0', l, l1, l2, l3, l4⟩ | ⟨h1, h2⟩
    · have il : inS (iN 48) (iN 57) (iN l) = iN 1 := inS_t ⟨l1, l2⟩ (by omega)
      refine ⟨2, 10 * (10 * 0 + k - 48) + l - 48, by omega, fun _ => by omega, by omega, fun G a b hG hp => ?_, fun H a b hH hp => ?_⟩
      · have a1 := c3 G hG p (by omega)
        have a2 := c3 (sI G 39 0 (iN (p + 1))) (cT_sI ht hG (by omega)) (p + 1) (by omega)
        rw [k3] at a1
        rw [l3] at a2
        show f_X3_readNumber_l16_5 (63 + 2 * t) a b (997 + 1 + 1 + 1) (iN 0) (iN 0) G = _
        unfold f_X3_readNumber_l16_5
        simp (disch := omega) only [chk_t, beq_self_eq_true, nm_s, bj1_s, bj2_s, bj3_s, mo_1, mo_0, l_0, l_1, l_2, l_3, l_4, l_5, l_6, l_7, l_8, l_9, l_10, l_11, l_12, l_13, l_14, l_15, l_16, l_17, l_18, l_19, l_20, l_21, l_30, l_31, l_32, l_36, l_40, l_41, l_42, l_43, l_44, l_45, l_46, l_47, l_48, l_49, l_50, l_51, l_52, l_57, l_58, l_60, l_64, l_72, l_80, l_92, l_98, l_99, l_100, l_102, l_105, l_111, l_112, l_114, l_115, l_116, l_117, l_120, l_144, l_200, l_201, l_240, l_300, l_320, l_400, l_500, l_550, l_560, l_649, l_650, l_1000, l_1400, l_2000, l_4000, l_10000, iN_add, iN_sub, iN_mul, iN_le_t, iN_le_f, iN_lt_t, iN_lt_f, iN_eq_f, inb_iN, ix_iN, isZ_0, isZ_1, ↓reduceIte, eq_self, hp, a1, in7, ik]
        unfold f_X3_readNumber_l16_5
        simp (disch := omega) only [chk_t, beq_self_eq_true, nm_s, bj1_s, bj2_s, bj3_s, mo_1, mo_0, l_0, l_1, l_2, l_3, l_4, l_5, l_6, l_7, l_8, l_9, l_10, l_11, l_12, l_13, l_14, l_15, l_16, l_17, l_18, l_19, l_20, l_21, l_30, l_31, l_32, l_36, l_40, l_41, l_42, l_43, l_44, l_45, l_46, l_47, l_48, l_49, l_50, l_51, l_52, l_57, l_58, l_60, l_64, l_72, l_80, l_92, l_98, l_99, l_100, l_102, l_105, l_111, l_112, l_114, l_115, l_116, l_117, l_120, l_144, l_200, l_201, l_240, l_300, l_320, l_400, l_500, l_550, l_560, l_649, l_650, l_1000, l_1400, l_2000, l_4000, l_10000, iN_add, iN_sub, iN_mul, iN_le_t, iN_le_f, iN_lt_t, iN_lt_f, iN_eq_f, inb_iN, ix_iN, isZ_0, isZ_1, ↓reduceIte, eq_self, sI_eq, a2, in7, il, sI_sI]
        unfold f_X3_readNumber_l16_5
        simp (disch := omega) only [chk_t, beq_self_eq_true, nm_s, bj1_s, bj2_s, bj3_s, mo_1, mo_0, l_0, l_1, l_2, l_3, l_4, l_5, l_6, l_7, l_8, l_9, l_10, l_11, l_12, l_13, l_14, l_15, l_16, l_17, l_18, l_19, l_20, l_21, l_30, l_31, l_32, l_36, l_40, l_41, l_42, l_43, l_44, l_45, l_46, l_47, l_48, l_49, l_50, l_51, l_52, l_57, l_58, l_60, l_64, l_72, l_80, l_92, l_98, l_99, l_100, l_102, l_105, l_111, l_112, l_114, l_115, l_116, l_117, l_120, l_144, l_200, l_201, l_240, l_300, l_320, l_400, l_500, l_550, l_560, l_649, l_650, l_1000, l_1400, l_2000, l_4000, l_10000, iN_add, iN_sub, iN_mul, iN_le_t, iN_le_f, iN_lt_t, iN_lt_f, iN_eq_f, inb_iN, ix_iN, isZ_0, isZ_1, ↓reduceIte, eq_self]
      · have a1 := m3 H hH p (by omega)
        have a2 := m3 (sI H 124 15 (iN (p + 1))) (mT_sI hH (by omega)) (p + 1) (by omega)
        rw [k4] at a1
        rw [l4] at a2
        show f_X8_number_l6_4 (iN t) a b (997 + 1 + 1 + 1) (iN 0) (iN 0) H = _
        unfold f_X8_number_l6_4
        simp (disch := omega) only [chk_t, beq_self_eq_true, nm_s, bj1_s, bj2_s, bj3_s, mo_1, mo_0, l_0, l_1, l_2, l_3, l_4, l_5, l_6, l_7, l_8, l_9, l_10, l_11, l_12, l_13, l_14, l_15, l_16, l_17, l_18, l_19, l_20, l_21, l_30, l_31, l_32, l_36, l_40, l_41, l_42, l_43, l_44, l_45, l_46, l_47, l_48, l_49, l_50, l_51, l_52, l_57, l_58, l_60, l_64, l_72, l_80, l_92, l_98, l_99, l_100, l_102, l_105, l_111, l_112, l_114, l_115, l_116, l_117, l_120, l_144, l_200, l_201, l_240, l_300, l_320, l_400, l_500, l_550, l_560, l_649, l_650, l_1000, l_1400, l_2000, l_4000, l_10000, iN_add, iN_sub, iN_mul, iN_le_t, iN_le_f, iN_lt_t, iN_lt_f, iN_eq_f, inb_iN, ix_iN, isZ_0, isZ_1, ↓reduceIte, eq_self, hp, a1, in8, ik]
        unfold f_X8_number_l6_4
        simp (disch := omega) only [chk_t, beq_self_eq_true, nm_s, bj1_s, bj2_s, bj3_s, mo_1, mo_0, l_0, l_1, l_2, l_3, l_4, l_5, l_6, l_7, l_8, l_9, l_10, l_11, l_12, l_13, l_14, l_15, l_16, l_17, l_18, l_19, l_20, l_21, l_30, l_31, l_32, l_36, l_40, l_41, l_42, l_43, l_44, l_45, l_46, l_47, l_48, l_49, l_50, l_51, l_52, l_57, l_58, l_60, l_64, l_72, l_80, l_92, l_98, l_99, l_100, l_102, l_105, l_111, l_112, l_114, l_115, l_116, l_117, l_120, l_144, l_200, l_201, l_240, l_300, l_320, l_400, l_500, l_550, l_560, l_649, l_650, l_1000, l_1400, l_2000, l_4000, l_10000, iN_add, iN_sub, iN_mul, iN_le_t, iN_le_f, iN_lt_t, iN_lt_f, iN_eq_f, inb_iN, ix_iN, isZ_0, isZ_1, ↓reduceIte, eq_self, sI_eq, a2, in8, il, sI_sI]
        unfold f_X8_number_l6_4
        simp (disch := omega) only [chk_t, beq_self_eq_true, nm_s, bj1_s, bj2_s, bj3_s, mo_1, mo_0, l_0, l_1, l_2, l_3, l_4, l_5, l_6, l_7, l_8, l_9, l_10, l_11, l_12, l_13, l_14, l_15, l_16, l_17, l_18, l_19, l_20, l_21, l_30, l_31, l_32, l_36, l_40, l_41, l_42, l_43, l_44, l_45, l_46, l_47, l_48, l_49, l_50, l_51, l_52, l_57, l_58, l_60, l_64, l_72, l_80, l_92, l_98, l_99, l_100, l_102, l_105, l_111, l_112, l_114, l_115, l_116, l_117, l_120, l_144, l_200, l_201, l_240, l_300, l_320, l_400, l_500, l_550, l_560, l_649, l_650, l_1000, l_1400, l_2000, l_4000, l_10000, iN_add, iN_sub, iN_mul, iN_le_t, iN_le_f, iN_lt_t, iN_lt_f, iN_eq_f, inb_iN, ix_iN, isZ_0, isZ_1, ↓reduceIte, eq_self]
    · refine ⟨1, 10 * 0 + k - 48, by omega, fun _ => by omega, by omega, fun G a b hG hp => ?_, fun H a b hH hp => ?_⟩
      · have a1 := c3 G hG p (by omega)
        have a2 := c3 (sI G 39 0 (iN (p + 1))) (cT_sI ht hG (by omega)) (p + 1) (by omega)
        rw [k3] at a1
        show f_X3_readNumber_l16_5 (63 + 2 * t) a b (997 + 1 + 1 + 1) (iN 0) (iN 0) G = _
        unfold f_X3_readNumber_l16_5
        simp (disch := omega) only [chk_t, beq_self_eq_true, nm_s, bj1_s, bj2_s, bj3_s, mo_1, mo_0, l_0, l_1, l_2, l_3, l_4, l_5, l_6, l_7, l_8, l_9, l_10, l_11, l_12, l_13, l_14, l_15, l_16, l_17, l_18, l_19, l_20, l_21, l_30, l_31, l_32, l_36, l_40, l_41, l_42, l_43, l_44, l_45, l_46, l_47, l_48, l_49, l_50, l_51, l_52, l_57, l_58, l_60, l_64, l_72, l_80, l_92, l_98, l_99, l_100, l_102, l_105, l_111, l_112, l_114, l_115, l_116, l_117, l_120, l_144, l_200, l_201, l_240, l_300, l_320, l_400, l_500, l_550, l_560, l_649, l_650, l_1000, l_1400, l_2000, l_4000, l_10000, iN_add, iN_sub, iN_mul, iN_le_t, iN_le_f, iN_lt_t, iN_lt_f, iN_eq_f, inb_iN, ix_iN, isZ_0, isZ_1, ↓reduceIte, eq_self, hp, a1, in7, ik]
        unfold f_X3_readNumber_l16_5
        simp (disch := omega) only [chk_t, beq_self_eq_true, nm_s, bj1_s, bj2_s, bj3_s, mo_1, mo_0, l_0, l_1, l_2, l_3, l_4, l_5, l_6, l_7, l_8, l_9, l_10, l_11, l_12, l_13, l_14, l_15, l_16, l_17, l_18, l_19, l_20, l_21, l_30, l_31, l_32, l_36, l_40, l_41, l_42, l_43, l_44, l_45, l_46, l_47, l_48, l_49, l_50, l_51, l_52, l_57, l_58, l_60, l_64, l_72, l_80, l_92, l_98, l_99, l_100, l_102, l_105, l_111, l_112, l_114, l_115, l_116, l_117, l_120, l_144, l_200, l_201, l_240, l_300, l_320, l_400, l_500, l_550, l_560, l_649, l_650, l_1000, l_1400, l_2000, l_4000, l_10000, iN_add, iN_sub, iN_mul, iN_le_t, iN_le_f, iN_lt_t, iN_lt_f, iN_eq_f, inb_iN, ix_iN, isZ_0, isZ_1, ↓reduceIte, eq_self, sI_eq, a2, in7, h1, sI_sI]
      · have a1 := m3 H hH p (by omega)
        have a2 := m3 (sI H 124 15 (iN (p + 1))) (mT_sI hH (by omega)) (p + 1) (by omega)
        rw [k4] at a1
        show f_X8_number_l6_4 (iN t) a b (997 + 1 + 1 + 1) (iN 0) (iN 0) H = _
        unfold f_X8_number_l6_4
        simp (disch := omega) only [chk_t, beq_self_eq_true, nm_s, bj1_s, bj2_s, bj3_s, mo_1, mo_0, l_0, l_1, l_2, l_3, l_4, l_5, l_6, l_7, l_8, l_9, l_10, l_11, l_12, l_13, l_14, l_15, l_16, l_17, l_18, l_19, l_20, l_21, l_30, l_31, l_32, l_36, l_40, l_41, l_42, l_43, l_44, l_45, l_46, l_47, l_48, l_49, l_50, l_51, l_52, l_57, l_58, l_60, l_64, l_72, l_80, l_92, l_98, l_99, l_100, l_102, l_105, l_111, l_112, l_114, l_115, l_116, l_117, l_120, l_144, l_200, l_201, l_240, l_300, l_320, l_400, l_500, l_550, l_560, l_649, l_650, l_1000, l_1400, l_2000, l_4000, l_10000, iN_add, iN_sub, iN_mul, iN_le_t, iN_le_f, iN_lt_t, iN_lt_f, iN_eq_f, inb_iN, ix_iN, isZ_0, isZ_1, ↓reduceIte, eq_self, hp, a1, in8, ik]
        unfold f_X8_number_l6_4
        simp (disch := omega) only [chk_t, beq_self_eq_true, nm_s, bj1_s, bj2_s, bj3_s, mo_1, mo_0, l_0, l_1, l_2, l_3, l_4, l_5, l_6, l_7, l_8, l_9, l_10, l_11, l_12, l_13, l_14, l_15, l_16, l_17, l_18, l_19, l_20, l_21, l_30, l_31, l_32, l_36, l_40, l_41, l_42, l_43, l_44, l_45, l_46, l_47, l_48, l_49, l_50, l_51, l_52, l_57, l_58, l_60, l_64, l_72, l_80, l_92, l_98, l_99, l_100, l_102, l_105, l_111, l_112, l_114, l_115, l_116, l_117, l_120, l_144, l_200, l_201, l_240, l_300, l_320, l_400, l_500, l_550, l_560, l_649, l_650, l_1000, l_1400, l_2000, l_4000, l_10000, iN_add, iN_sub, iN_mul, iN_le_t, iN_le_f, iN_lt_t, iN_lt_f, iN_eq_f, inb_iN, ix_iN, isZ_0, isZ_1, ↓reduceIte, eq_self, sI_eq, a2, in8, h2, sI_sI]
  · refine ⟨0, 0, by omega, fun _ => by omega, by omega, fun G a b hG hp => ?_, fun H a b hH hp => ?_⟩
    · have a1 := c3 G hG p (by omega)
      rw [sI_self (show G.1 39 0 = iN (p + 0) from hp)]
      show f_X3_readNumber_l16_5 (63 + 2 * t) a b (997 + 1 + 1 + 1) (iN 0) (iN 0) G = _
      unfold f_X3_readNumber_l16_5
      simp (disch := omega) only [chk_t, beq_self_eq_true, nm_s, bj1_s, bj2_s, bj3_s, mo_1, mo_0, l_0, l_1, l_2, l_3, l_4, l_5, l_6, l_7, l_8, l_9, l_10, l_11, l_12, l_13, l_14, l_15, l_16, l_17, l_18, l_19, l_20, l_21, l_30, l_31, l_32, l_36, l_40, l_41, l_42, l_43, l_44, l_45, l_46, l_47, l_48, l_49, l_50, l_51, l_52, l_57, l_58, l_60, l_64, l_72, l_80, l_92, l_98, l_99, l_100, l_102, l_105, l_111, l_112, l_114, l_115, l_116, l_117, l_120, l_144, l_200, l_201, l_240, l_300, l_320, l_400, l_500, l_550, l_560, l_649, l_650, l_1000, l_1400, l_2000, l_4000, l_10000, iN_add, iN_sub, iN_mul, iN_le_t, iN_le_f, iN_lt_t, iN_lt_f, iN_eq_f, inb_iN, ix_iN, isZ_0, isZ_1, ↓reduceIte, eq_self, hp, a1, in7, h1]
    · have a1 := m3 H hH p (by omega)
      rw [sI_self (show H.1 124 15 = iN (p + 0) from hp)]
      show f_X8_number_l6_4 (iN t) a b (997 + 1 + 1 + 1) (iN 0) (iN 0) H = _
      unfold f_X8_number_l6_4
      simp (disch := omega) only [chk_t, beq_self_eq_true, nm_s, bj1_s, bj2_s, bj3_s, mo_1, mo_0, l_0, l_1, l_2, l_3, l_4, l_5, l_6, l_7, l_8, l_9, l_10, l_11, l_12, l_13, l_14, l_15, l_16, l_17, l_18, l_19, l_20, l_21, l_30, l_31, l_32, l_36, l_40, l_41, l_42, l_43, l_44, l_45, l_46, l_47, l_48, l_49, l_50, l_51, l_52, l_57, l_58, l_60, l_64, l_72, l_80, l_92, l_98, l_99, l_100, l_102, l_105, l_111, l_112, l_114, l_115, l_116, l_117, l_120, l_144, l_200, l_201, l_240, l_300, l_320, l_400, l_500, l_550, l_560, l_649, l_650, l_1000, l_1400, l_2000, l_4000, l_10000, iN_add, iN_sub, iN_mul, iN_le_t, iN_le_f, iN_lt_t, iN_lt_f, iN_eq_f, inb_iN, ix_iN, isZ_0, isZ_1, ↓reduceIte, eq_self, hp, a1, in8, h2]
/-- a number that stands at p + 1, after a letter at p -/
theorem num_ok {t z p : Nat} {B : Nat → Int32} (lo hi : Nat) (ht : t < 4) (hz : z ≤ 80) (hp : p ≤ 90) (hh : hi ≤ 1000) (hl : lo ≤ 1000) : ∃ p' v : Nat, p < p' ∧ p' ≤ p + 3 ∧ v ≤ 99 ∧
    (((lo ≤ v ∧ v ≤ hi ∧ p' ≤ z ∧ p + 2 ≤ p') ∧
      (∀ (G : G_), cT t z B G → G.1 39 0 = iN p → f_X3_readNumber (63 + 2 * t) (iN lo) (iN hi) G = some (iN v, sI G 39 0 (iN p'))) ∧
      (∀ (H : G_), mT t z B H → H.1 124 15 = iN (p + 1) → f_X8_number (iN t) (iN lo) (iN hi) H = some (iN 1, sI (sI H 124 15 (iN p')) 124 16 (iN v)))) ∨
     ((∀ (G : G_), cT t z B G → G.1 39 0 = iN p → f_X3_readNumber (63 + 2 * t) (iN lo) (iN hi) G = some (iN v, sI (sI G 39 0 (iN p')) 39 1 (iN p'))) ∧
      (∀ (H : G_), mT t z B H → H.1 124 15 = iN (p + 1) → f_X8_number (iN t) (iN lo) (iN hi) H = some (iN 0, sI (sI H 124 15 (iN p')) 124 16 (iN v))))) := by
  obtain ⟨c, v, h1, h2, h3, h4, h5⟩ := dig_ok (B := B) (p := p + 1) ht hz (by omega)
  have ho := (rtk t ht).2
  refine ⟨p + 1 + c, v, by omega, by omega, h3, ?_⟩
  have c4 : ∀ (G : G_), cT t z B G → G.1 39 0 = iN p → ∀ a b, f_X3_readNumber_l16_5 (63 + 2 * t) a b FU (iN 0) (iN 0) (sI G 39 0 (iN (p + 1))) = some (iN c, iN v, sI G 39 0 (iN (p + 1 + c))) := fun G hG hp a b => by
    have := h4 (sI G 39 0 (iN (p + 1))) a b (cT_sI ht hG (by omega)) sI_eq
    rw [sI_sI] at this
    exact this
  by_cases hc : c = 0
  · subst hc
    right
    refine ⟨fun G hG hp => ?_, fun H hH hp => ?_⟩
    · unfold f_X3_readNumber
      simp (disch := omega) only [chk_t, beq_self_eq_true, nm_s, bj1_s, bj2_s, bj3_s, mo_1, mo_0, l_0, l_1, l_2, l_3, l_4, l_5, l_6, l_7, l_8, l_9, l_10, l_11, l_12, l_13, l_14, l_15, l_16, l_17, l_18, l_19, l_20, l_21, l_30, l_31, l_32, l_36, l_40, l_41, l_42, l_43, l_44, l_45, l_46, l_47, l_48, l_49, l_50, l_51, l_52, l_57, l_58, l_60, l_64, l_72, l_80, l_92, l_98, l_99, l_100, l_102, l_105, l_111, l_112, l_114, l_115, l_116, l_117, l_120, l_144, l_200, l_201, l_240, l_300, l_320, l_400, l_500, l_550, l_560, l_649, l_650, l_1000, l_1400, l_2000, l_4000, l_10000, iN_add, iN_sub, iN_mul, iN_le_t, iN_le_f, iN_lt_t, iN_lt_f, iN_eq_f, inb_iN, ix_iN, isZ_0, isZ_1, ↓reduceIte, eq_self, kd_b ho, hp, c4 G hG hp, sI_eq]
    · unfold f_X8_number
      simp (disch := omega) only [chk_t, beq_self_eq_true, nm_s, bj1_s, bj2_s, bj3_s, mo_1, mo_0, l_0, l_1, l_2, l_3, l_4, l_5, l_6, l_7, l_8, l_9, l_10, l_11, l_12, l_13, l_14, l_15, l_16, l_17, l_18, l_19, l_20, l_21, l_30, l_31, l_32, l_36, l_40, l_41, l_42, l_43, l_44, l_45, l_46, l_47, l_48, l_49, l_50, l_51, l_52, l_57, l_58, l_60, l_64, l_72, l_80, l_92, l_98, l_99, l_100, l_102, l_105, l_111, l_112, l_114, l_115, l_116, l_117, l_120, l_144, l_200, l_201, l_240, l_300, l_320, l_400, l_500, l_550, l_560, l_649, l_650, l_1000, l_1400, l_2000, l_4000, l_10000, iN_add, iN_sub, iN_mul, iN_le_t, iN_le_f, iN_lt_t, iN_lt_f, iN_eq_f, inb_iN, ix_iN, isZ_0, isZ_1, ↓reduceIte, eq_self, h5 H _ _ hH hp]
  · have e0 : (iN c = iN 0) = False := iN_eq_f hc (by omega) (by omega)
    have e1 : (iN c ≤ iN 0) = False := iN_le_f (by omega) (by omega)
    by_cases r : lo ≤ v ∧ v ≤ hi
    · have e := inS_t r (by omega)
      left
      refine ⟨⟨r.1, r.2, h2 (by omega), by omega⟩, fun G hG hp => ?_, fun H hH hp => ?_⟩
      · unfold f_X3_readNumber
        simp (disch := omega) only [chk_t, beq_self_eq_true, nm_s, bj1_s, bj2_s, bj3_s, mo_1, mo_0, l_0, l_1, l_2, l_3, l_4, l_5, l_6, l_7, l_8, l_9, l_10, l_11, l_12, l_13, l_14, l_15, l_16, l_17, l_18, l_19, l_20, l_21, l_30, l_31, l_32, l_36, l_40, l_41, l_42, l_43, l_44, l_45, l_46, l_47, l_48, l_49, l_50, l_51, l_52, l_57, l_58, l_60, l_64, l_72, l_80, l_92, l_98, l_99, l_100, l_102, l_105, l_111, l_112, l_114, l_115, l_116, l_117, l_120, l_144, l_200, l_201, l_240, l_300, l_320, l_400, l_500, l_550, l_560, l_649, l_650, l_1000, l_1400, l_2000, l_4000, l_10000, iN_add, iN_sub, iN_mul, iN_le_t, iN_le_f, iN_lt_t, iN_lt_f, iN_eq_f, inb_iN, ix_iN, isZ_0, isZ_1, ↓reduceIte, eq_self, kd_b ho, hp, c4 G hG hp, e0, in7, e]
      · unfold f_X8_number
        simp (disch := omega) only [chk_t, beq_self_eq_true, nm_s, bj1_s, bj2_s, bj3_s, mo_1, mo_0, l_0, l_1, l_2, l_3, l_4, l_5, l_6, l_7, l_8, l_9, l_10, l_11, l_12, l_13, l_14, l_15, l_16, l_17, l_18, l_19, l_20, l_21, l_30, l_31, l_32, l_36, l_40, l_41, l_42, l_43, l_44, l_45, l_46, l_47, l_48, l_49, l_50, l_51, l_52, l_57, l_58, l_60, l_64, l_72, l_80, l_92, l_98, l_99, l_100, l_102, l_105, l_111, l_112, l_114, l_115, l_116, l_117, l_120, l_144, l_200, l_201, l_240, l_300, l_320, l_400, l_500, l_550, l_560, l_649, l_650, l_1000, l_1400, l_2000, l_4000, l_10000, iN_add, iN_sub, iN_mul, iN_le_t, iN_le_f, iN_lt_t, iN_lt_f, iN_eq_f, inb_iN, ix_iN, isZ_0, isZ_1, ↓reduceIte, eq_self, h5 H _ _ hH hp, e1, in8, e]
    · have e := inS_f (a := lo) (b := hi) (k := v) (by omega) (by omega) (by omega) (by omega)
      right
      refine ⟨fun G hG hp => ?_, fun H hH hp => ?_⟩
      · unfold f_X3_readNumber
        simp (disch := omega) only [chk_t, beq_self_eq_true, nm_s, bj1_s, bj2_s, bj3_s, mo_1, mo_0, l_0, l_1, l_2, l_3, l_4, l_5, l_6, l_7, l_8, l_9, l_10, l_11, l_12, l_13, l_14, l_15, l_16, l_17, l_18, l_19, l_20, l_21, l_30, l_31, l_32, l_36, l_40, l_41, l_42, l_43, l_44, l_45, l_46, l_47, l_48, l_49, l_50, l_51, l_52, l_57, l_58, l_60, l_64, l_72, l_80, l_92, l_98, l_99, l_100, l_102, l_105, l_111, l_112, l_114, l_115, l_116, l_117, l_120, l_144, l_200, l_201, l_240, l_300, l_320, l_400, l_500, l_550, l_560, l_649, l_650, l_1000, l_1400, l_2000, l_4000, l_10000, iN_add, iN_sub, iN_mul, iN_le_t, iN_le_f, iN_lt_t, iN_lt_f, iN_eq_f, inb_iN, ix_iN, isZ_0, isZ_1, ↓reduceIte, eq_self, kd_b ho, hp, c4 G hG hp, e0, in7, e, sI_eq]
      · unfold f_X8_number
        simp (disch := omega) only [chk_t, beq_self_eq_true, nm_s, bj1_s, bj2_s, bj3_s, mo_1, mo_0, l_0, l_1, l_2, l_3, l_4, l_5, l_6, l_7, l_8, l_9, l_10, l_11, l_12, l_13, l_14, l_15, l_16, l_17, l_18, l_19, l_20, l_21, l_30, l_31, l_32, l_36, l_40, l_41, l_42, l_43, l_44, l_45, l_46, l_47, l_48, l_49, l_50, l_51, l_52, l_57, l_58, l_60, l_64, l_72, l_80, l_92, l_98, l_99, l_100, l_102, l_105, l_111, l_112, l_114, l_115, l_116, l_117, l_120, l_144, l_200, l_201, l_240, l_300, l_320, l_400, l_500, l_550, l_560, l_649, l_650, l_1000, l_1400, l_2000, l_4000, l_10000, iN_add, iN_sub, iN_mul, iN_le_t, iN_le_f, iN_lt_t, iN_lt_f, iN_eq_f, inb_iN, ix_iN, isZ_0, isZ_1, ↓reduceIte, eq_self, h5 H _ _ hH hp, e1, in8, e]
theorem skp_ex (z : Nat) (B : Nat → Int32) : ∀ (d p : Nat), z - p ≤ d → p ≤ z → ∃ m, p + m ≤ z ∧ (∀ i, i < m → B (p + i) = iN 32) ∧ ¬ (p + m < z ∧ B (p + m) = iN 32) := by
  intro d
  induction d with
  | zero => exact fun p h1 h2 => ⟨0, by omega, fun i hi => by omega, fun h => by omega⟩
  | succ d ih =>
    intro p h1 h2
    by_cases c : p < z ∧ B p = iN 32
    · obtain ⟨m, g1, g2, g3⟩ := ih (p + 1) (by omega) (by omega)
      refine ⟨m + 1, by omega, fun i hi => ?_, ?_⟩
      · cases i with
        | zero => exact c.2
        | succ i =>
          rw [show p + (i + 1) = p + 1 + i by omega]
          exact g2 i (by omega)
      · rw [show p + (m + 1) = p + 1 + m by omega]
        exact g3
    · exact ⟨0, by omega, fun i hi => by omega, c⟩
theorem cskip {t z p m : Nat} {B : Nat → Int32} {G : G_} (ht : t < 4) (hz : z ≤ 80) (h : cT t z B G) (hp : G.1 39 0 = iN p) (hm : p + m ≤ z) (h1 : ∀ i, i < m → B (p + i) = iN 32) (h2 : ¬ (p + m < z ∧ B (p + m) = iN 32)) : f_X3_skipBlanks (63 + 2 * t) G = some (sI G 39 0 (iN (p + m))) := by
  have ho := (rtk t ht).2
  have key := loop_cl (fun n v s => f_X3_skipBlanks_l2_3 (63 + 2 * t) n v s) (fun j => sI G 39 0 (iN (p + j))) 0 m (some (sI G 39 0 (iN (p + m)))) (by
    intro n j g1 g2
    have v := cval (p := p + j) ht hz (cT_sI (q := 39) (j := 0) (v := iN (p + j)) ht h (by omega)) (by omega)
    unfold bC at v
    rw [if_pos (by omega), h1 j g2] at v
    show f_X3_skipBlanks_l2_3 (63 + 2 * t) (n + 1) (iN j) (sI G 39 0 (iN (p + j))) = f_X3_skipBlanks_l2_3 (63 + 2 * t) n (iN (j + 1)) (sI G 39 0 (iN (p + j + 1)))
    conv => lhs; unfold f_X3_skipBlanks_l2_3
    simp (disch := omega) only [chk_t, beq_self_eq_true, nm_s, bj1_s, bj2_s, bj3_s, mo_1, mo_0, l_0, l_1, l_2, l_3, l_4, l_5, l_6, l_7, l_8, l_9, l_10, l_11, l_12, l_13, l_14, l_15, l_16, l_17, l_18, l_19, l_20, l_21, l_30, l_31, l_32, l_36, l_40, l_41, l_42, l_43, l_44, l_45, l_46, l_47, l_48, l_49, l_50, l_51, l_52, l_57, l_58, l_60, l_64, l_72, l_80, l_92, l_98, l_99, l_100, l_102, l_105, l_111, l_112, l_114, l_115, l_116, l_117, l_120, l_144, l_200, l_201, l_240, l_300, l_320, l_400, l_500, l_550, l_560, l_649, l_650, l_1000, l_1400, l_2000, l_4000, l_10000, iN_add, iN_sub, iN_mul, iN_le_t, iN_le_f, iN_lt_t, iN_lt_f, iN_eq_f, inb_iN, ix_iN, isZ_0, isZ_1, ↓reduceIte, eq_self, sI_eq, v, sI_sI]) (by
    intro n
    have v := cval (p := p + m) ht hz (cT_sI (q := 39) (j := 0) (v := iN (p + m)) ht h (by omega)) (by omega)
    have e : (bC z B (p + m) = iN 32) = False := eq_false (fun e => by
      unfold bC at e
      by_cases c : p + m < z
      · rw [if_pos c] at e
        exact h2 ⟨c, e⟩
      · rw [if_neg c] at e
        exact absurd e (by decide))
    show f_X3_skipBlanks_l2_3 (63 + 2 * t) (n + 1) (iN m) (sI G 39 0 (iN (p + m))) = _
    unfold f_X3_skipBlanks_l2_3
    by_cases c : 80 ≤ m
    · simp (disch := omega) only [chk_t, beq_self_eq_true, nm_s, bj1_s, bj2_s, bj3_s, mo_1, mo_0, l_0, l_1, l_2, l_3, l_4, l_5, l_6, l_7, l_8, l_9, l_10, l_11, l_12, l_13, l_14, l_15, l_16, l_17, l_18, l_19, l_20, l_21, l_30, l_31, l_32, l_36, l_40, l_41, l_42, l_43, l_44, l_45, l_46, l_47, l_48, l_49, l_50, l_51, l_52, l_57, l_58, l_60, l_64, l_72, l_80, l_92, l_98, l_99, l_100, l_102, l_105, l_111, l_112, l_114, l_115, l_116, l_117, l_120, l_144, l_200, l_201, l_240, l_300, l_320, l_400, l_500, l_550, l_560, l_649, l_650, l_1000, l_1400, l_2000, l_4000, l_10000, iN_add, iN_sub, iN_mul, iN_le_t, iN_le_f, iN_lt_t, iN_lt_f, iN_eq_f, inb_iN, ix_iN, isZ_0, isZ_1, ↓reduceIte, eq_self]
    · simp (disch := omega) only [chk_t, beq_self_eq_true, nm_s, bj1_s, bj2_s, bj3_s, mo_1, mo_0, l_0, l_1, l_2, l_3, l_4, l_5, l_6, l_7, l_8, l_9, l_10, l_11, l_12, l_13, l_14, l_15, l_16, l_17, l_18, l_19, l_20, l_21, l_30, l_31, l_32, l_36, l_40, l_41, l_42, l_43, l_44, l_45, l_46, l_47, l_48, l_49, l_50, l_51, l_52, l_57, l_58, l_60, l_64, l_72, l_80, l_92, l_98, l_99, l_100, l_102, l_105, l_111, l_112, l_114, l_115, l_116, l_117, l_120, l_144, l_200, l_201, l_240, l_300, l_320, l_400, l_500, l_550, l_560, l_649, l_650, l_1000, l_1400, l_2000, l_4000, l_10000, iN_add, iN_sub, iN_mul, iN_le_t, iN_le_f, iN_lt_t, iN_lt_f, iN_eq_f, inb_iN, ix_iN, isZ_0, isZ_1, ↓reduceIte, eq_self, sI_eq, v, e]) (by omega) (n := FU) (fu_lt (by omega))
  rw [show p + 0 = p from rfl, sI_self hp] at key
  have key : f_X3_skipBlanks_l2_3 (63 + 2 * t) FU (iN 0) G = _ := key
  unfold f_X3_skipBlanks
  simp (disch := omega) only [chk_t, beq_self_eq_true, nm_s, bj1_s, bj2_s, bj3_s, mo_1, mo_0, l_0, l_1, l_2, l_3, l_4, l_5, l_6, l_7, l_8, l_9, l_10, l_11, l_12, l_13, l_14, l_15, l_16, l_17, l_18, l_19, l_20, l_21, l_30, l_31, l_32, l_36, l_40, l_41, l_42, l_43, l_44, l_45, l_46, l_47, l_48, l_49, l_50, l_51, l_52, l_57, l_58, l_60, l_64, l_72, l_80, l_92, l_98, l_99, l_100, l_102, l_105, l_111, l_112, l_114, l_115, l_116, l_117, l_120, l_144, l_200, l_201, l_240, l_300, l_320, l_400, l_500, l_550, l_560, l_649, l_650, l_1000, l_1400, l_2000, l_4000, l_10000, iN_add, iN_sub, iN_mul, iN_le_t, iN_le_f, iN_lt_t, iN_lt_f, iN_eq_f, inb_iN, ix_iN, isZ_0, isZ_1, ↓reduceIte, eq_self, kd_b ho, key]
theorem itemOf_m9 {x : Int32} (h1 : (x = iN 116) = False) (h2 : (x = iN 99) = False) (h3 : (x = iN 115) = False) (h4 : (x = iN 102) = False) : f_X8_itemOf x = some (-iN 9) := by
  unfold f_X8_itemOf
  simp (disch := omega) only [chk_t, beq_self_eq_true, nm_s, bj1_s, bj2_s, bj3_s, mo_1, mo_0, l_0, l_1, l_2, l_3, l_4, l_5, l_6, l_7, l_8, l_9, l_10, l_11, l_12, l_13, l_14, l_15, l_16, l_17, l_18, l_19, l_20, l_21, l_30, l_31, l_32, l_36, l_40, l_41, l_42, l_43, l_44, l_45, l_46, l_47, l_48, l_49, l_50, l_51, l_52, l_57, l_58, l_60, l_64, l_72, l_80, l_92, l_98, l_99, l_100, l_102, l_105, l_111, l_112, l_114, l_115, l_116, l_117, l_120, l_144, l_200, l_201, l_240, l_300, l_320, l_400, l_500, l_550, l_560, l_649, l_650, l_1000, l_1400, l_2000, l_4000, l_10000, iN_add, iN_sub, iN_mul, iN_le_t, iN_le_f, iN_lt_t, iN_lt_f, iN_eq_f, inb_iN, ix_iN, isZ_0, isZ_1, ↓reduceIte, eq_self, h1, h2, h3, h4]
theorem msskip {t z : Nat} {B : Nat → Int32} (ht : t < 4) (hz : z ≤ 80) : ∀ (m n p : Nat) (H : G_), mT t z B H → H.1 124 15 = iN p → p + m ≤ z → (∀ i, i < m → B (p + i) = iN 32) → f_X8_slabFault_l39_12 (iN t) (n + m) H = f_X8_slabFault_l39_12 (iN t) n (sI H 124 15 (iN (p + m))) := by
  intro m
  induction m with
  | zero =>
    intro n p H hH hp _ _
    rw [show p + 0 = p from rfl, sI_self hp]
    rfl
  | succ m ih =>
    intro n p H hH hp hm h1
    have v := mval (p := p) ht hz hH (by omega)
    have h0 := h1 0 (by omega)
    unfold bT at v
    rw [if_pos (by omega), show B p = iN 32 from h0] at v
    have i32 : f_X8_itemOf (iN 32) = some (-iN 9) := itemOf_m9 (by decide) (by decide) (by decide) (by decide)
    have e := ih n (p + 1) (sI H 124 15 (iN (p + 1))) (mT_sI hH (by omega)) sI_eq (by omega) (fun i hi => by
      rw [show p + 1 + i = p + (i + 1) by omega]
      exact h1 (i + 1) (by omega))
    rw [sI_sI, show p + 1 + m = p + (m + 1) by omega] at e
    rw [← e, show n + (m + 1) = n + m + 1 by omega]
    conv => lhs; unfold f_X8_slabFault_l39_12
    simp (disch := omega) only [chk_t, beq_self_eq_true, nm_s, bj1_s, bj2_s, bj3_s, mo_1, mo_0, l_0, l_1, l_2, l_3, l_4, l_5, l_6, l_7, l_8, l_9, l_10, l_11, l_12, l_13, l_14, l_15, l_16, l_17, l_18, l_19, l_20, l_21, l_30, l_31, l_32, l_36, l_40, l_41, l_42, l_43, l_44, l_45, l_46, l_47, l_48, l_49, l_50, l_51, l_52, l_57, l_58, l_60, l_64, l_72, l_80, l_92, l_98, l_99, l_100, l_102, l_105, l_111, l_112, l_114, l_115, l_116, l_117, l_120, l_144, l_200, l_201, l_240, l_300, l_320, l_400, l_500, l_550, l_560, l_649, l_650, l_1000, l_1400, l_2000, l_4000, l_10000, iN_add, iN_sub, iN_mul, iN_le_t, iN_le_f, iN_lt_t, iN_lt_f, iN_eq_f, inb_iN, ix_iN, isZ_0, isZ_1, ↓reduceIte, eq_self, hH.1, hp, v, i32]
theorem mpskip {t z : Nat} {B : Nat → Int32} (ht : t < 4) (hz : z ≤ 80) : ∀ (m n p : Nat) (H : G_), mT t z B H → H.1 124 15 = iN p → p + m ≤ z → (∀ i, i < m → B (p + i) = iN 32) → f_X8_planFault_l15_5 (iN t) (n + m) H = f_X8_planFault_l15_5 (iN t) n (sI H 124 15 (iN (p + m))) := by
  intro m
  induction m with
  | zero =>
    intro n p H hH hp _ _
    rw [show p + 0 = p from rfl, sI_self hp]
    rfl
  | succ m ih =>
    intro n p H hH hp hm h1
    have v := mval (p := p) ht hz hH (by omega)
    have h0 := h1 0 (by omega)
    unfold bT at v
    rw [if_pos (by omega), show B p = iN 32 from h0] at v
    have e := ih n (p + 1) (sI H 124 15 (iN (p + 1))) (mT_sI hH (by omega)) sI_eq (by omega) (fun i hi => by
      rw [show p + 1 + i = p + (i + 1) by omega]
      exact h1 (i + 1) (by omega))
    rw [sI_sI, show p + 1 + m = p + (m + 1) by omega] at e
    rw [← e, show n + (m + 1) = n + m + 1 by omega]
    conv => lhs; unfold f_X8_planFault_l15_5
    simp (disch := omega) only [chk_t, beq_self_eq_true, nm_s, bj1_s, bj2_s, bj3_s, mo_1, mo_0, l_0, l_1, l_2, l_3, l_4, l_5, l_6, l_7, l_8, l_9, l_10, l_11, l_12, l_13, l_14, l_15, l_16, l_17, l_18, l_19, l_20, l_21, l_30, l_31, l_32, l_36, l_40, l_41, l_42, l_43, l_44, l_45, l_46, l_47, l_48, l_49, l_50, l_51, l_52, l_57, l_58, l_60, l_64, l_72, l_80, l_92, l_98, l_99, l_100, l_102, l_105, l_111, l_112, l_114, l_115, l_116, l_117, l_120, l_144, l_200, l_201, l_240, l_300, l_320, l_400, l_500, l_550, l_560, l_649, l_650, l_1000, l_1400, l_2000, l_4000, l_10000, iN_add, iN_sub, iN_mul, iN_le_t, iN_le_f, iN_lt_t, iN_lt_f, iN_eq_f, inb_iN, ix_iN, isZ_0, isZ_1, ↓reduceIte, eq_self, hH.1, hp, v]

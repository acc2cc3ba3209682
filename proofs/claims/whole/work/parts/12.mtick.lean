theorem ite_so {α : Type} {b : Prop} [Decidable b] {x y : α} : (if b then some x else some y) = some (if b then x else y) := by split <;> rfl
/-! the reference's tick -/
theorem depthOf0 {G : G_} : f_X8_depthOf (iN 0) G = some (iN 0) := rfl
theorem depthOf1 {m n : Nat} {D W : Nat → Int32} {G : G_} (h : bM m G) (hn : okN D n) : f_X8_depthOf (iN 1) (stM m D W G) = some (iN (n - 1)) := by
  have h2 := hn.2
  unfold f_X8_depthOf
  simp (disch := omega) only [chk_t, beq_self_eq_true, nm_s, bj1_s, bj2_s, bj3_s, mo_1, mo_0, l_0, l_1, l_2, l_3, l_4, l_5, l_6, l_7, l_8, l_9, l_10, l_11, l_12, l_13, l_14, l_15, l_16, l_17, l_18, l_19, l_20, l_21, l_30, l_31, l_32, l_36, l_40, l_41, l_42, l_43, l_44, l_45, l_46, l_47, l_48, l_49, l_50, l_51, l_52, l_57, l_58, l_60, l_64, l_72, l_80, l_92, l_98, l_99, l_100, l_102, l_105, l_111, l_112, l_114, l_115, l_116, l_117, l_120, l_144, l_200, l_201, l_240, l_300, l_320, l_400, l_500, l_550, l_560, l_649, l_650, l_1000, l_1400, l_2000, l_4000, l_10000, iN_add, iN_sub, iN_mul, iN_le_t, iN_le_f, iN_lt_t, iN_lt_f, iN_eq_f, inb_iN, ix_iN, isZ_0, isZ_1, ↓reduceIte, eq_self, v_ok h, hn.1]
theorem without_ok {m n : Nat} {D W : Nat → Int32} {G : G_} {k q : Int32} {s i : Nat} (h : bM m G) (hn : okN D n) (hs : f_X8_depthOf (iN s) (stM m D W G) = some (iN i)) (hi : i < 20) : f_X8_without k q (iN s) (stM m D W G) = some (outS k q (D 44 = iN s) (D (52 + i))) := by
  unfold f_X8_without outS
  simp (disch := omega) only [chk_t, beq_self_eq_true, nm_s, bj1_s, bj2_s, bj3_s, mo_1, mo_0, l_0, l_1, l_2, l_3, l_4, l_5, l_6, l_7, l_8, l_9, l_10, l_11, l_12, l_13, l_14, l_15, l_16, l_17, l_18, l_19, l_20, l_21, l_30, l_31, l_32, l_36, l_40, l_41, l_42, l_43, l_44, l_45, l_46, l_47, l_48, l_49, l_50, l_51, l_52, l_57, l_58, l_60, l_64, l_72, l_80, l_92, l_98, l_99, l_100, l_102, l_105, l_111, l_112, l_114, l_115, l_116, l_117, l_120, l_144, l_200, l_201, l_240, l_300, l_320, l_400, l_500, l_550, l_560, l_649, l_650, l_1000, l_1400, l_2000, l_4000, l_10000, iN_add, iN_sub, iN_mul, iN_le_t, iN_le_f, iN_lt_t, iN_lt_f, iN_eq_f, inb_iN, ix_iN, isZ_0, isZ_1, ↓reduceIte, eq_self, v_ok h, hs]
  by_cases h1 : k = iN 1
  · rw [if_pos h1, if_pos h1]
    split <;> rfl
  · rw [if_neg h1, if_neg h1]
    split
    · rfl
    · split <;> rfl
theorem warms1 {m n : Nat} {D : Nat → Int32} {G : G_} {k q : Int32} (h : bM m G) (hn : okN D n) (W : Nat → Int32) : f_X8_warms_l11_5 k q (iN n) FU (iN 0) (stM m D W G) = some (stM m D (spD W 0 n (warmS k q D)) G) := by
  have h2 := hn.2
  have hnn := okN_n hn
  have key := loop_cl (fun n' v s => f_X8_warms_l11_5 k q (iN n) n' v s) (fun j => stM m D (spD W 0 j (warmS k q D)) G) 0 n (some (stM m D (spD W 0 n (warmS k q D)) G)) ?_ ?_ (Nat.zero_le n) (fu_lt (by omega))
  · rw [spD_nil] at key
    exact key
  · intro f j h3 h4
    show f_X8_warms_l11_5 k q (iN n) (f + 1) (iN j) _ = f_X8_warms_l11_5 k q (iN n) f (iN (j + 1)) _
    conv => lhs; unfold f_X8_warms_l11_5
    rw [← spD_up (b := j) (x := warmS k q D j) (by omega) rfl]
    by_cases c0 : j = 0
    · subst c0
      have e : warmS k q D 0 = D 52 + (iN 0 + (D 53 - D 52)) / iN 4 + outS k q (D 44 = iN 0) (D 52) := by
        unfold warmS
        rw [if_pos rfl, show iN 0 + (D 53 - D 52) = D 53 - D 52 from Int32.zero_add _]
      simp (disch := omega) only [chk_t, beq_self_eq_true, nm_s, bj1_s, bj2_s, bj3_s, mo_1, mo_0, l_0, l_1, l_2, l_3, l_4, l_5, l_6, l_7, l_8, l_9, l_10, l_11, l_12, l_13, l_14, l_15, l_16, l_17, l_18, l_19, l_20, l_21, l_30, l_31, l_32, l_36, l_40, l_41, l_42, l_43, l_44, l_45, l_46, l_47, l_48, l_49, l_50, l_51, l_52, l_57, l_58, l_60, l_64, l_72, l_80, l_92, l_98, l_99, l_100, l_102, l_105, l_111, l_112, l_114, l_115, l_116, l_117, l_120, l_144, l_200, l_201, l_240, l_300, l_320, l_400, l_500, l_550, l_560, l_649, l_650, l_1000, l_1400, l_2000, l_4000, l_10000, iN_add, iN_sub, iN_mul, iN_le_t, iN_le_f, iN_lt_t, iN_lt_f, iN_eq_f, inb_iN, ix_iN, isZ_0, isZ_1, ↓reduceIte, eq_self, v_ok h, without_ok h hn depthOf0 (i := 0), w_ok, e]
    · by_cases c1 : j + 1 = n
      · have e : warmS k q D j = D (52 + j) + (D (52 + j - 1) - D (52 + j) + iN 0) / iN 4 + outS k q (D 44 = iN 1) (D (52 + j)) := by
          unfold warmS
          rw [if_neg c0, hnn, if_pos c1, show D (52 + j - 1) - D (52 + j) + iN 0 = D (52 + j - 1) - D (52 + j) from Int32.add_zero _]
        have e2 : n - 1 = j := by omega
        have hd := depthOf1 (W := spD W 0 j (warmS k q D)) h hn
        rw [e2] at hd
        simp (disch := omega) only [chk_t, beq_self_eq_true, nm_s, bj1_s, bj2_s, bj3_s, mo_1, mo_0, l_0, l_1, l_2, l_3, l_4, l_5, l_6, l_7, l_8, l_9, l_10, l_11, l_12, l_13, l_14, l_15, l_16, l_17, l_18, l_19, l_20, l_21, l_30, l_31, l_32, l_36, l_40, l_41, l_42, l_43, l_44, l_45, l_46, l_47, l_48, l_49, l_50, l_51, l_52, l_57, l_58, l_60, l_64, l_72, l_80, l_92, l_98, l_99, l_100, l_102, l_105, l_111, l_112, l_114, l_115, l_116, l_117, l_120, l_144, l_200, l_201, l_240, l_300, l_320, l_400, l_500, l_550, l_560, l_649, l_650, l_1000, l_1400, l_2000, l_4000, l_10000, iN_add, iN_sub, iN_mul, iN_le_t, iN_le_f, iN_lt_t, iN_lt_f, iN_eq_f, inb_iN, ix_iN, isZ_0, isZ_1, ↓reduceIte, eq_self, v_ok h, without_ok h hn hd, w_ok, e, e2]
      · have e : warmS k q D j = D (52 + j) + (D (52 + j - 1) - D (52 + j) + (D (52 + j + 1) - D (52 + j))) / iN 4 + iN 0 := by
          unfold warmS
          rw [if_neg c0, hnn, if_neg c1, show ∀ x : Int32, x + iN 0 = x from Int32.add_zero]
        simp (disch := omega) only [chk_t, beq_self_eq_true, nm_s, bj1_s, bj2_s, bj3_s, mo_1, mo_0, l_0, l_1, l_2, l_3, l_4, l_5, l_6, l_7, l_8, l_9, l_10, l_11, l_12, l_13, l_14, l_15, l_16, l_17, l_18, l_19, l_20, l_21, l_30, l_31, l_32, l_36, l_40, l_41, l_42, l_43, l_44, l_45, l_46, l_47, l_48, l_49, l_50, l_51, l_52, l_57, l_58, l_60, l_64, l_72, l_80, l_92, l_98, l_99, l_100, l_102, l_105, l_111, l_112, l_114, l_115, l_116, l_117, l_120, l_144, l_200, l_201, l_240, l_300, l_320, l_400, l_500, l_550, l_560, l_649, l_650, l_1000, l_1400, l_2000, l_4000, l_10000, iN_add, iN_sub, iN_mul, iN_le_t, iN_le_f, iN_lt_t, iN_lt_f, iN_eq_f, inb_iN, ix_iN, isZ_0, isZ_1, ↓reduceIte, eq_self, v_ok h, w_ok, e]
  · intro f
    show f_X8_warms_l11_5 k q (iN n) (f + 1) (iN n) _ = _
    unfold f_X8_warms_l11_5
    simp (disch := omega) only [chk_t, beq_self_eq_true, nm_s, bj1_s, bj2_s, bj3_s, mo_1, mo_0, l_0, l_1, l_2, l_3, l_4, l_5, l_6, l_7, l_8, l_9, l_10, l_11, l_12, l_13, l_14, l_15, l_16, l_17, l_18, l_19, l_20, l_21, l_30, l_31, l_32, l_36, l_40, l_41, l_42, l_43, l_44, l_45, l_46, l_47, l_48, l_49, l_50, l_51, l_52, l_57, l_58, l_60, l_64, l_72, l_80, l_92, l_98, l_99, l_100, l_102, l_105, l_111, l_112, l_114, l_115, l_116, l_117, l_120, l_144, l_200, l_201, l_240, l_300, l_320, l_400, l_500, l_550, l_560, l_649, l_650, l_1000, l_1400, l_2000, l_4000, l_10000, iN_add, iN_sub, iN_mul, iN_le_t, iN_le_f, iN_lt_t, iN_lt_f, iN_eq_f, inb_iN, ix_iN, isZ_0, isZ_1, ↓reduceIte, eq_self]
theorem warms2 {m n : Nat} {D : Nat → Int32} {G : G_} {x : Nat → Int32} (h : bM m G) (h3 : 3 ≤ n) (h20 : n ≤ 20) (W : Nat → Int32) : f_X8_warms_l134_27 (iN n) FU (iN 0) (stM m D (spD W 0 n x) G) = some (stM m (spD D 52 (52 + n) (fun p => x (p - 52))) (spD W 0 n x) G) := by
  have key := loop_cl (fun n' v s => f_X8_warms_l134_27 (iN n) n' v s) (fun j => stM m (spD D 52 (52 + j) (fun p => x (p - 52))) (spD W 0 n x) G) 0 n (some (stM m (spD D 52 (52 + n) (fun p => x (p - 52))) (spD W 0 n x) G)) ?_ ?_ (Nat.zero_le n) (fu_lt (by omega))
  · rw [spD_nil] at key
    exact key
  · intro f j h4 h5
    show f_X8_warms_l134_27 (iN n) (f + 1) (iN j) _ = f_X8_warms_l134_27 (iN n) f (iN (j + 1)) _
    conv => lhs; unfold f_X8_warms_l134_27
    have e : spD W 0 n x j = (fun p => x (p - 52)) (52 + j) := by
      show _ = x (52 + j - 52)
      rw [spD_in (Nat.zero_le _) h5, show 52 + j - 52 = j by omega]
    rw [show 52 + (j + 1) = 52 + j + 1 by omega, ← spD_up (b := 52 + j) (x := spD W 0 n x j) (by omega) e]
    simp (disch := omega) only [chk_t, beq_self_eq_true, nm_s, bj1_s, bj2_s, bj3_s, mo_1, mo_0, l_0, l_1, l_2, l_3, l_4, l_5, l_6, l_7, l_8, l_9, l_10, l_11, l_12, l_13, l_14, l_15, l_16, l_17, l_18, l_19, l_20, l_21, l_30, l_31, l_32, l_36, l_40, l_41, l_42, l_43, l_44, l_45, l_46, l_47, l_48, l_49, l_50, l_51, l_52, l_57, l_58, l_60, l_64, l_72, l_80, l_92, l_98, l_99, l_100, l_102, l_105, l_111, l_112, l_114, l_115, l_116, l_117, l_120, l_144, l_200, l_201, l_240, l_300, l_320, l_400, l_500, l_550, l_560, l_649, l_650, l_1000, l_1400, l_2000, l_4000, l_10000, iN_add, iN_sub, iN_mul, iN_le_t, iN_le_f, iN_lt_t, iN_lt_f, iN_eq_f, inb_iN, ix_iN, isZ_0, isZ_1, ↓reduceIte, eq_self, put_ok h, wr_ok]
  · intro f
    show f_X8_warms_l134_27 (iN n) (f + 1) (iN n) _ = _
    unfold f_X8_warms_l134_27
    simp (disch := omega) only [chk_t, beq_self_eq_true, nm_s, bj1_s, bj2_s, bj3_s, mo_1, mo_0, l_0, l_1, l_2, l_3, l_4, l_5, l_6, l_7, l_8, l_9, l_10, l_11, l_12, l_13, l_14, l_15, l_16, l_17, l_18, l_19, l_20, l_21, l_30, l_31, l_32, l_36, l_40, l_41, l_42, l_43, l_44, l_45, l_46, l_47, l_48, l_49, l_50, l_51, l_52, l_57, l_58, l_60, l_64, l_72, l_80, l_92, l_98, l_99, l_100, l_102, l_105, l_111, l_112, l_114, l_115, l_116, l_117, l_120, l_144, l_200, l_201, l_240, l_300, l_320, l_400, l_500, l_550, l_560, l_649, l_650, l_1000, l_1400, l_2000, l_4000, l_10000, iN_add, iN_sub, iN_mul, iN_le_t, iN_le_f, iN_lt_t, iN_lt_f, iN_eq_f, inb_iN, ix_iN, isZ_0, isZ_1, ↓reduceIte, eq_self]
theorem mwarms_ok {m n : Nat} {D W : Nat → Int32} {G : G_} {k q : Int32} (h : bM m G) (hn : okN D n) : ∃ W', f_X8_warms k q (stM m D W G) = some (stM m (warmsS k q D) W' G) := by
  have h2 := hn.2
  refine ⟨spD W 0 n (warmS k q D), ?_⟩
  unfold f_X8_warms warmsS
  rw [okN_n hn]
  have w1 := warms1 (k := k) (q := q) h hn W
  have w2 := warms2 (D := D) (x := warmS k q D) h h2.1 h2.2 W
  simp (disch := omega) only [chk_t, beq_self_eq_true, nm_s, bj1_s, bj2_s, bj3_s, mo_1, mo_0, l_0, l_1, l_2, l_3, l_4, l_5, l_6, l_7, l_8, l_9, l_10, l_11, l_12, l_13, l_14, l_15, l_16, l_17, l_18, l_19, l_20, l_21, l_30, l_31, l_32, l_36, l_40, l_41, l_42, l_43, l_44, l_45, l_46, l_47, l_48, l_49, l_50, l_51, l_52, l_57, l_58, l_60, l_64, l_72, l_80, l_92, l_98, l_99, l_100, l_102, l_105, l_111, l_112, l_114, l_115, l_116, l_117, l_120, l_144, l_200, l_201, l_240, l_300, l_320, l_400, l_500, l_550, l_560, l_649, l_650, l_1000, l_1400, l_2000, l_4000, l_10000, iN_add, iN_sub, iN_mul, iN_le_t, iN_le_f, iN_lt_t, iN_lt_f, iN_eq_f, inb_iN, ix_iN, isZ_0, isZ_1, ↓reduceIte, eq_self, v_ok h, hn.1, w1, w2]
theorem mdries_ok {m : Nat} {D W : Nat → Int32} {G : G_} {s i : Nat} (h : bM m G) (hs2 : s < 2) (hs : f_X8_depthOf (iN s) (stM m D W G) = some (iN i)) (hi : i < 20) : f_X8_dries (iN s) (stM m D W G) = some (stM m (dryS s i D) W G) := by
  unfold f_X8_dries dryS
  simp (disch := omega) only [chk_t, beq_self_eq_true, nm_s, bj1_s, bj2_s, bj3_s, mo_1, mo_0, l_0, l_1, l_2, l_3, l_4, l_5, l_6, l_7, l_8, l_9, l_10, l_11, l_12, l_13, l_14, l_15, l_16, l_17, l_18, l_19, l_20, l_21, l_30, l_31, l_32, l_36, l_40, l_41, l_42, l_43, l_44, l_45, l_46, l_47, l_48, l_49, l_50, l_51, l_52, l_57, l_58, l_60, l_64, l_72, l_80, l_92, l_98, l_99, l_100, l_102, l_105, l_111, l_112, l_114, l_115, l_116, l_117, l_120, l_144, l_200, l_201, l_240, l_300, l_320, l_400, l_500, l_550, l_560, l_649, l_650, l_1000, l_1400, l_2000, l_4000, l_10000, iN_add, iN_sub, iN_mul, iN_le_t, iN_le_f, iN_lt_t, iN_lt_f, iN_eq_f, inb_iN, ix_iN, isZ_0, isZ_1, ↓reduceIte, eq_self, v_ok h, hs, greater_ok]
  by_cases c1 : D (48 + s) ≤ iN 0
  · rw [if_pos c1, if_pos c1]
  · rw [if_neg c1, if_neg c1]
    by_cases c2 : D (52 + i) - iN 1000 ≤ iN 0
    · rw [if_pos c2, if_pos c2]
    · rw [if_neg c2, if_neg c2]
      simp (disch := omega) only [chk_t, beq_self_eq_true, nm_s, bj1_s, bj2_s, bj3_s, mo_1, mo_0, l_0, l_1, l_2, l_3, l_4, l_5, l_6, l_7, l_8, l_9, l_10, l_11, l_12, l_13, l_14, l_15, l_16, l_17, l_18, l_19, l_20, l_21, l_30, l_31, l_32, l_36, l_40, l_41, l_42, l_43, l_44, l_45, l_46, l_47, l_48, l_49, l_50, l_51, l_52, l_57, l_58, l_60, l_64, l_72, l_80, l_92, l_98, l_99, l_100, l_102, l_105, l_111, l_112, l_114, l_115, l_116, l_117, l_120, l_144, l_200, l_201, l_240, l_300, l_320, l_400, l_500, l_550, l_560, l_649, l_650, l_1000, l_1400, l_2000, l_4000, l_10000, iN_add, iN_sub, iN_mul, iN_le_t, iN_le_f, iN_lt_t, iN_lt_f, iN_eq_f, inb_iN, ix_iN, isZ_0, isZ_1, ↓reduceIte, eq_self, put_ok h]
theorem mbrowns_ok {m : Nat} {D W : Nat → Int32} {G : G_} {s i : Nat} (h : bM m G) (hs2 : s < 2) (hs : f_X8_depthOf (iN s) (stM m D W G) = some (iN i)) (hi : i < 20) : f_X8_browns (iN s) (stM m D W G) = some (stM m (brownS s i D) W G) := by
  unfold f_X8_browns brownS
  simp (disch := omega) only [chk_t, beq_self_eq_true, nm_s, bj1_s, bj2_s, bj3_s, mo_1, mo_0, l_0, l_1, l_2, l_3, l_4, l_5, l_6, l_7, l_8, l_9, l_10, l_11, l_12, l_13, l_14, l_15, l_16, l_17, l_18, l_19, l_20, l_21, l_30, l_31, l_32, l_36, l_40, l_41, l_42, l_43, l_44, l_45, l_46, l_47, l_48, l_49, l_50, l_51, l_52, l_57, l_58, l_60, l_64, l_72, l_80, l_92, l_98, l_99, l_100, l_102, l_105, l_111, l_112, l_114, l_115, l_116, l_117, l_120, l_144, l_200, l_201, l_240, l_300, l_320, l_400, l_500, l_550, l_560, l_649, l_650, l_1000, l_1400, l_2000, l_4000, l_10000, iN_add, iN_sub, iN_mul, iN_le_t, iN_le_f, iN_lt_t, iN_lt_f, iN_eq_f, inb_iN, ix_iN, isZ_0, isZ_1, ↓reduceIte, eq_self, v_ok h, hs]
  by_cases c1 : D (48 + s) = iN 0
  · rw [if_pos c1, if_pos c1]
    by_cases c2 : D (52 + i) - iN 1400 < iN 0
    · rw [if_pos c2, if_pos c2]
    · rw [if_neg c2, if_neg c2]
      simp (disch := omega) only [chk_t, beq_self_eq_true, nm_s, bj1_s, bj2_s, bj3_s, mo_1, mo_0, l_0, l_1, l_2, l_3, l_4, l_5, l_6, l_7, l_8, l_9, l_10, l_11, l_12, l_13, l_14, l_15, l_16, l_17, l_18, l_19, l_20, l_21, l_30, l_31, l_32, l_36, l_40, l_41, l_42, l_43, l_44, l_45, l_46, l_47, l_48, l_49, l_50, l_51, l_52, l_57, l_58, l_60, l_64, l_72, l_80, l_92, l_98, l_99, l_100, l_102, l_105, l_111, l_112, l_114, l_115, l_116, l_117, l_120, l_144, l_200, l_201, l_240, l_300, l_320, l_400, l_500, l_550, l_560, l_649, l_650, l_1000, l_1400, l_2000, l_4000, l_10000, iN_add, iN_sub, iN_mul, iN_le_t, iN_le_f, iN_lt_t, iN_lt_f, iN_eq_f, inb_iN, ix_iN, isZ_0, isZ_1, ↓reduceIte, eq_self, put_ok h]
  · rw [if_neg c1, if_neg c1]
theorem okN_keep {D D' : Nat → Int32} {n : Nat} (h : okN D n) (e : D' 0 = D 0) : okN D' n := ⟨e.trans h.1, h.2⟩
theorem mtick1 {m n : Nat} {D W : Nat → Int32} {G : G_} {k : Int32} (h : bM m G) (hn : okN D n) : f_X8_tick_l8_5 k FU (iN 0) (stM m D W G) = some (stM m (bathS k 1 (dryS 1 (n - 1) (bathS k 0 (dryS 0 0 D)))) W G) := by
  have h2 := hn.2
  have n1 : okN (bathS k 0 (dryS 0 0 D)) n := okN_keep hn (by rw [bathS_0 (by omega), dryS_0 (by omega) (by omega)])
  have d0 := mdries_ok (W := W) (D := D) (G := G) (s := 0) (i := 0) h (by omega) depthOf0 (by omega)
  have d1 := mdries_ok (W := W) (D := bathS k 0 (dryS 0 0 D)) (G := G) (s := 1) h (by omega) (depthOf1 h n1) (by omega)
  show f_X8_tick_l8_5 k 1000 (iN 0) (stM m D W G) = _
  unfold f_X8_tick_l8_5
  simp (disch := omega) only [chk_t, beq_self_eq_true, nm_s, bj1_s, bj2_s, bj3_s, mo_1, mo_0, l_0, l_1, l_2, l_3, l_4, l_5, l_6, l_7, l_8, l_9, l_10, l_11, l_12, l_13, l_14, l_15, l_16, l_17, l_18, l_19, l_20, l_21, l_30, l_31, l_32, l_36, l_40, l_41, l_42, l_43, l_44, l_45, l_46, l_47, l_48, l_49, l_50, l_51, l_52, l_57, l_58, l_60, l_64, l_72, l_80, l_92, l_98, l_99, l_100, l_102, l_105, l_111, l_112, l_114, l_115, l_116, l_117, l_120, l_144, l_200, l_201, l_240, l_300, l_320, l_400, l_500, l_550, l_560, l_649, l_650, l_1000, l_1400, l_2000, l_4000, l_10000, iN_add, iN_sub, iN_mul, iN_le_t, iN_le_f, iN_lt_t, iN_lt_f, iN_eq_f, inb_iN, ix_iN, isZ_0, isZ_1, ↓reduceIte, eq_self, d0]
  have b0 : (if k = iN 3 then bj1 (f_X8_put_ (iN 48) (iN 30) (stM m (dryS 0 0 D) W G)) fun G9 => some G9 else some (stM m (dryS 0 0 D) W G)) = some (stM m (bathS k 0 (dryS 0 0 D)) W G) := by
    unfold bathS
    by_cases c : k = iN 3
    · rw [if_pos c, if_pos c]
      simp (disch := omega) only [chk_t, beq_self_eq_true, nm_s, bj1_s, bj2_s, bj3_s, mo_1, mo_0, l_0, l_1, l_2, l_3, l_4, l_5, l_6, l_7, l_8, l_9, l_10, l_11, l_12, l_13, l_14, l_15, l_16, l_17, l_18, l_19, l_20, l_21, l_30, l_31, l_32, l_36, l_40, l_41, l_42, l_43, l_44, l_45, l_46, l_47, l_48, l_49, l_50, l_51, l_52, l_57, l_58, l_60, l_64, l_72, l_80, l_92, l_98, l_99, l_100, l_102, l_105, l_111, l_112, l_114, l_115, l_116, l_117, l_120, l_144, l_200, l_201, l_240, l_300, l_320, l_400, l_500, l_550, l_560, l_649, l_650, l_1000, l_1400, l_2000, l_4000, l_10000, iN_add, iN_sub, iN_mul, iN_le_t, iN_le_f, iN_lt_t, iN_lt_f, iN_eq_f, inb_iN, ix_iN, isZ_0, isZ_1, ↓reduceIte, eq_self, put_ok h]
    · rw [if_neg c, if_neg c]
  rw [b0]
  unfold f_X8_tick_l8_5
  simp (disch := omega) only [chk_t, beq_self_eq_true, nm_s, bj1_s, bj2_s, bj3_s, mo_1, mo_0, l_0, l_1, l_2, l_3, l_4, l_5, l_6, l_7, l_8, l_9, l_10, l_11, l_12, l_13, l_14, l_15, l_16, l_17, l_18, l_19, l_20, l_21, l_30, l_31, l_32, l_36, l_40, l_41, l_42, l_43, l_44, l_45, l_46, l_47, l_48, l_49, l_50, l_51, l_52, l_57, l_58, l_60, l_64, l_72, l_80, l_92, l_98, l_99, l_100, l_102, l_105, l_111, l_112, l_114, l_115, l_116, l_117, l_120, l_144, l_200, l_201, l_240, l_300, l_320, l_400, l_500, l_550, l_560, l_649, l_650, l_1000, l_1400, l_2000, l_4000, l_10000, iN_add, iN_sub, iN_mul, iN_le_t, iN_le_f, iN_lt_t, iN_lt_f, iN_eq_f, inb_iN, ix_iN, isZ_0, isZ_1, ↓reduceIte, eq_self, d1]
  have b1 : (if k = iN 3 then bj1 (f_X8_put_ (iN 49) (iN 30) (stM m (dryS 1 (n - 1) (bathS k 0 (dryS 0 0 D))) W G)) fun G9 => some G9 else some (stM m (dryS 1 (n - 1) (bathS k 0 (dryS 0 0 D))) W G)) = some (stM m (bathS k 1 (dryS 1 (n - 1) (bathS k 0 (dryS 0 0 D)))) W G) := by
    show _ = some (stM m (if k = iN 3 then up (dryS 1 (n - 1) (bathS k 0 (dryS 0 0 D))) 49 (iN 30) else dryS 1 (n - 1) (bathS k 0 (dryS 0 0 D))) W G)
    by_cases c : k = iN 3
    · rw [if_pos c, if_pos c]
      simp (disch := omega) only [chk_t, beq_self_eq_true, nm_s, bj1_s, bj2_s, bj3_s, mo_1, mo_0, l_0, l_1, l_2, l_3, l_4, l_5, l_6, l_7, l_8, l_9, l_10, l_11, l_12, l_13, l_14, l_15, l_16, l_17, l_18, l_19, l_20, l_21, l_30, l_31, l_32, l_36, l_40, l_41, l_42, l_43, l_44, l_45, l_46, l_47, l_48, l_49, l_50, l_51, l_52, l_57, l_58, l_60, l_64, l_72, l_80, l_92, l_98, l_99, l_100, l_102, l_105, l_111, l_112, l_114, l_115, l_116, l_117, l_120, l_144, l_200, l_201, l_240, l_300, l_320, l_400, l_500, l_550, l_560, l_649, l_650, l_1000, l_1400, l_2000, l_4000, l_10000, iN_add, iN_sub, iN_mul, iN_le_t, iN_le_f, iN_lt_t, iN_lt_f, iN_eq_f, inb_iN, ix_iN, isZ_0, isZ_1, ↓reduceIte, eq_self, put_ok h]
    · rw [if_neg c, if_neg c]
  rw [b1]
  unfold f_X8_tick_l8_5
  simp (disch := omega) only [chk_t, beq_self_eq_true, nm_s, bj1_s, bj2_s, bj3_s, mo_1, mo_0, l_0, l_1, l_2, l_3, l_4, l_5, l_6, l_7, l_8, l_9, l_10, l_11, l_12, l_13, l_14, l_15, l_16, l_17, l_18, l_19, l_20, l_21, l_30, l_31, l_32, l_36, l_40, l_41, l_42, l_43, l_44, l_45, l_46, l_47, l_48, l_49, l_50, l_51, l_52, l_57, l_58, l_60, l_64, l_72, l_80, l_92, l_98, l_99, l_100, l_102, l_105, l_111, l_112, l_114, l_115, l_116, l_117, l_120, l_144, l_200, l_201, l_240, l_300, l_320, l_400, l_500, l_550, l_560, l_649, l_650, l_1000, l_1400, l_2000, l_4000, l_10000, iN_add, iN_sub, iN_mul, iN_le_t, iN_le_f, iN_lt_t, iN_lt_f, iN_eq_f, inb_iN, ix_iN, isZ_0, isZ_1, ↓reduceIte, eq_self]
theorem mostS_up {D : Nat → Int32} {j : Nat} {a b : Int32} (hj : j < 20) (ha : a = if D (52 + j) < D (72 + j) then D (72 + j) else D (52 + j)) (hb : b = juiceS (D (92 + j)) (D (52 + j))) : up (up (mostS D j) (72 + j) a) (92 + j) b = mostS D (j + 1) := by
  funext q
  unfold up mostS spD
  by_cases h1 : q = 92 + j
  · subst h1
    rw [if_pos rfl, if_pos (by omega), hb]
    show _ = juiceS (D (92 + j)) (D (92 + j - 40))
    rw [show 92 + j - 40 = 52 + j by omega]
  · rw [if_neg h1]
    by_cases h2 : q = 72 + j
    · subst h2
      rw [if_pos rfl, if_neg (by omega), if_pos (by omega), ha]
      show _ = if D (72 + j - 20) < D (72 + j) then D (72 + j) else D (72 + j - 20)
      rw [show 72 + j - 20 = 52 + j by omega]
    · rw [if_neg h2]
      by_cases h3 : 92 ≤ q ∧ q < 92 + j
      · simp only [if_pos h3, if_pos (show 92 ≤ q ∧ q < 92 + (j + 1) by omega)]
      · simp only [if_neg h3, if_neg (show ¬ (92 ≤ q ∧ q < 92 + (j + 1)) by omega)]
        by_cases h4 : 72 ≤ q ∧ q < 72 + j
        · simp only [if_pos h4, if_pos (show 72 ≤ q ∧ q < 72 + (j + 1) by omega)]
        · simp only [if_neg h4, if_neg (show ¬ (72 ≤ q ∧ q < 72 + (j + 1)) by omega)]
theorem up_same {D : Nat → Int32} {p : Nat} {x : Int32} (h : D p = x) : up D p x = D := by
  funext q
  unfold up
  split
  · next e => rw [e, h]
  · rfl
theorem mtick2 {m n : Nat} {D W : Nat → Int32} {G : G_} {k : Int32} (h : bM m G) (hn : okN D n) : f_X8_tick_l41_15 k FU (iN 0) (stM m D W G) = some (stM m (mostS D n) W G) := by
  have h2 := hn.2
  have key := loop_cl (fun n' v s => f_X8_tick_l41_15 k n' v s) (fun j => stM m (mostS D j) W G) 0 n (some (stM m (mostS D n) W G)) ?_ ?_ (Nat.zero_le n) (fu_lt (by omega))
  · have e : mostS D 0 = D := by
      unfold mostS
      rw [show 72 + 0 = 72 from rfl, show 92 + 0 = 92 from rfl, spD_nil, spD_nil]
    rw [e] at key
    exact key
  · intro f j h4 h5
    show f_X8_tick_l41_15 k (f + 1) (iN j) _ = f_X8_tick_l41_15 k f (iN (j + 1)) _
    conv => lhs; unfold f_X8_tick_l41_15
    have e0 : mostS D j 0 = iN n := by rw [mostS_lo (by omega)]; exact hn.1
    have e1 : mostS D j (52 + j) = D (52 + j) := mostS_lo (by omega)
    have e2 : mostS D j (72 + j) = D (72 + j) := by unfold mostS; rw [spD_out (by omega), spD_out (by omega)]
    have e3 : mostS D j (92 + j) = D (92 + j) := by unfold mostS; rw [spD_out (by omega), spD_out (by omega)]
    simp (disch := omega) only [chk_t, beq_self_eq_true, nm_s, bj1_s, bj2_s, bj3_s, mo_1, mo_0, l_0, l_1, l_2, l_3, l_4, l_5, l_6, l_7, l_8, l_9, l_10, l_11, l_12, l_13, l_14, l_15, l_16, l_17, l_18, l_19, l_20, l_21, l_30, l_31, l_32, l_36, l_40, l_41, l_42, l_43, l_44, l_45, l_46, l_47, l_48, l_49, l_50, l_51, l_52, l_57, l_58, l_60, l_64, l_72, l_80, l_92, l_98, l_99, l_100, l_102, l_105, l_111, l_112, l_114, l_115, l_116, l_117, l_120, l_144, l_200, l_201, l_240, l_300, l_320, l_400, l_500, l_550, l_560, l_649, l_650, l_1000, l_1400, l_2000, l_4000, l_10000, iN_add, iN_sub, iN_mul, iN_le_t, iN_le_f, iN_lt_t, iN_lt_f, iN_eq_f, inb_iN, ix_iN, isZ_0, isZ_1, ↓reduceIte, eq_self, v_ok h, put_ok h, e0, e1, e2, e3, greater_ok]
    by_cases c : D (52 + j) ≤ iN 550
    · rw [if_pos c]
      simp (disch := omega) only [chk_t, beq_self_eq_true, nm_s, bj1_s, bj2_s, bj3_s, mo_1, mo_0, l_0, l_1, l_2, l_3, l_4, l_5, l_6, l_7, l_8, l_9, l_10, l_11, l_12, l_13, l_14, l_15, l_16, l_17, l_18, l_19, l_20, l_21, l_30, l_31, l_32, l_36, l_40, l_41, l_42, l_43, l_44, l_45, l_46, l_47, l_48, l_49, l_50, l_51, l_52, l_57, l_58, l_60, l_64, l_72, l_80, l_92, l_98, l_99, l_100, l_102, l_105, l_111, l_112, l_114, l_115, l_116, l_117, l_120, l_144, l_200, l_201, l_240, l_300, l_320, l_400, l_500, l_550, l_560, l_649, l_650, l_1000, l_1400, l_2000, l_4000, l_10000, iN_add, iN_sub, iN_mul, iN_le_t, iN_le_f, iN_lt_t, iN_lt_f, iN_eq_f, inb_iN, ix_iN, isZ_0, isZ_1, ↓reduceIte, eq_self]
      rw [← mostS_up (D := D) (j := j) (a := if D (52 + j) < D (72 + j) then D (72 + j) else D (52 + j)) (b := D (92 + j)) (by omega) rfl (by unfold juiceS; rw [if_pos c]), up_same (p := 92 + j) (by rw [up_ne (by omega), e3])]
    · rw [if_neg c]
      simp (disch := omega) only [chk_t, beq_self_eq_true, nm_s, bj1_s, bj2_s, bj3_s, mo_1, mo_0, l_0, l_1, l_2, l_3, l_4, l_5, l_6, l_7, l_8, l_9, l_10, l_11, l_12, l_13, l_14, l_15, l_16, l_17, l_18, l_19, l_20, l_21, l_30, l_31, l_32, l_36, l_40, l_41, l_42, l_43, l_44, l_45, l_46, l_47, l_48, l_49, l_50, l_51, l_52, l_57, l_58, l_60, l_64, l_72, l_80, l_92, l_98, l_99, l_100, l_102, l_105, l_111, l_112, l_114, l_115, l_116, l_117, l_120, l_144, l_200, l_201, l_240, l_300, l_320, l_400, l_500, l_550, l_560, l_649, l_650, l_1000, l_1400, l_2000, l_4000, l_10000, iN_add, iN_sub, iN_mul, iN_le_t, iN_le_f, iN_lt_t, iN_lt_f, iN_eq_f, inb_iN, ix_iN, isZ_0, isZ_1, ↓reduceIte, eq_self, v_ok h, put_ok h, up_ne, e3, greater_ok]
      rw [← mostS_up (D := D) (j := j) (a := if D (52 + j) < D (72 + j) then D (72 + j) else D (52 + j)) (b := juiceS (D (92 + j)) (D (52 + j))) (by omega) rfl rfl]
      unfold juiceS
      rw [if_neg c]
  · intro f
    show f_X8_tick_l41_15 k (f + 1) (iN n) _ = _
    unfold f_X8_tick_l41_15
    have e0 : mostS D n 0 = iN n := by rw [mostS_lo (by omega)]; exact hn.1
    simp (disch := omega) only [chk_t, beq_self_eq_true, nm_s, bj1_s, bj2_s, bj3_s, mo_1, mo_0, l_0, l_1, l_2, l_3, l_4, l_5, l_6, l_7, l_8, l_9, l_10, l_11, l_12, l_13, l_14, l_15, l_16, l_17, l_18, l_19, l_20, l_21, l_30, l_31, l_32, l_36, l_40, l_41, l_42, l_43, l_44, l_45, l_46, l_47, l_48, l_49, l_50, l_51, l_52, l_57, l_58, l_60, l_64, l_72, l_80, l_92, l_98, l_99, l_100, l_102, l_105, l_111, l_112, l_114, l_115, l_116, l_117, l_120, l_144, l_200, l_201, l_240, l_300, l_320, l_400, l_500, l_550, l_560, l_649, l_650, l_1000, l_1400, l_2000, l_4000, l_10000, iN_add, iN_sub, iN_mul, iN_le_t, iN_le_f, iN_lt_t, iN_lt_f, iN_eq_f, inb_iN, ix_iN, isZ_0, isZ_1, ↓reduceIte, eq_self, v_ok h, e0]
theorem mtick_ok {m n : Nat} {D W : Nat → Int32} {G : G_} {k q : Int32} (h : bM m G) (hn : okN D n) : ∃ W', f_X8_tick k q (stM m D W G) = some (stM m (tickS k q D) W' G) := by
  have h2 := hn.2
  obtain ⟨W', hw⟩ := mwarms_ok (W := W) (k := k) (q := q) h hn
  refine ⟨W', ?_⟩
  have n1 : okN (warmsS k q D) n := okN_keep hn (warmsS_lo (by omega))
  have t1 := mtick1 (W := W') (k := k) h n1
  have n2 : okN (bathS k 1 (dryS 1 (n - 1) (bathS k 0 (dryS 0 0 (warmsS k q D))))) n := okN_keep n1 (by rw [bathS_0 (by omega), dryS_0 (by omega) (by omega), bathS_0 (by omega), dryS_0 (by omega) (by omega)])
  have t2 := mtick2 (W := W') (k := k) h n2
  unfold f_X8_tick tickS
  rw [okN_n hn]
  generalize hE : mostS (bathS k 1 (dryS 1 (n - 1) (bathS k 0 (dryS 0 0 (warmsS k q D))))) n = E at *
  have n3 : okN E n := okN_keep n2 (by rw [← hE, mostS_lo (by omega)])
  have b0 := mbrowns_ok (W := W') (D := E) (G := G) (s := 0) (i := 0) h (by omega) depthOf0 (by omega)
  have n4 : okN (brownS 0 0 E) n := okN_keep n3 (brownS_0 (by omega))
  have b1 := mbrowns_ok (W := W') (D := brownS 0 0 E) (G := G) (s := 1) h (by omega) (depthOf1 h n4) (by omega)
  simp (disch := omega) only [chk_t, beq_self_eq_true, nm_s, bj1_s, bj2_s, bj3_s, mo_1, mo_0, l_0, l_1, l_2, l_3, l_4, l_5, l_6, l_7, l_8, l_9, l_10, l_11, l_12, l_13, l_14, l_15, l_16, l_17, l_18, l_19, l_20, l_21, l_30, l_31, l_32, l_36, l_40, l_41, l_42, l_43, l_44, l_45, l_46, l_47, l_48, l_49, l_50, l_51, l_52, l_57, l_58, l_60, l_64, l_72, l_80, l_92, l_98, l_99, l_100, l_102, l_105, l_111, l_112, l_114, l_115, l_116, l_117, l_120, l_144, l_200, l_201, l_240, l_300, l_320, l_400, l_500, l_550, l_560, l_649, l_650, l_1000, l_1400, l_2000, l_4000, l_10000, iN_add, iN_sub, iN_mul, iN_le_t, iN_le_f, iN_lt_t, iN_lt_f, iN_eq_f, inb_iN, ix_iN, isZ_0, isZ_1, ↓reduceIte, eq_self, hw, t1, t2, b0, b1, put_ok h, v_ok h, ite_so, up_ne]
  rfl

/-! copy, mean, text, put -/
theorem b64 {a b : Int32} : (a.toInt64 + b.toInt64).toInt = a.toInt + b.toInt := by
  have h1 := t_rng a
  have h2 := t_rng b
  rw [Int64.toInt_add, Int32.toInt_toInt64, Int32.toInt_toInt64, Int.bmod_def]
  split <;> omega
theorem lg_gt {a b c : Int32} : (iN 0 < lg_cmp (a.toInt64 + b.toInt64) c.toInt64) = (c.toInt < a.toInt + b.toInt) := by
  have h := lg_cmp_gt (a.toInt64 + b.toInt64) c.toInt64
  rw [Int64.lt_iff_toInt_lt, b64, Int32.toInt_toInt64] at h
  exact propext h
theorem lg_le {a b c : Int32} : (lg_cmp (a.toInt64 + b.toInt64) c.toInt64 ≤ iN 0) = (a.toInt + b.toInt ≤ c.toInt) := by
  have h := lg_cmp_le (a.toInt64 + b.toInt64) c.toInt64
  rw [Int64.le_iff_toInt_le, b64, Int32.toInt_toInt64] at h
  exact propext h
theorem holds_t {o z : Nat} {G : G_} {i n : Int32} (ho : kd o = 4) (hz : G.1 o 1 = iN z) (h40 : z ≤ 40) (hn : 0 ≤ n.toInt) (h : 0 ≤ i.toInt ∧ i.toInt + n.toInt ≤ z) : f_X4_holds o i n G = some (iN 1) := by
  have c1 : (i < iN 0) = False := eq_false (fun e => by have := t_lt.mp e; rw [li (by omega)] at this; omega)
  have c2 : (iN z < i) = False := eq_false (fun e => by have := t_lt.mp e; rw [li (by omega)] at this; omega)
  have c3 : (n < iN 0) = False := eq_false (fun e => by have := t_lt.mp e; rw [li (by omega)] at this; omega)
  have c4 : (iN z - i < n) = False := eq_false (fun e => by
    have := t_lt.mp e
    rw [t_sub (by rw [li (by omega)]; omega) (by rw [li (by omega)]; omega), li (by omega)] at this
    omega)
  unfold f_X4_holds
  simp (disch := omega) only [chk_t, beq_self_eq_true, nm_s, bj1_s, bj2_s, bj3_s, mo_1, mo_0, l_0, l_1, l_2, l_3, l_4, l_5, l_6, l_7, l_8, l_9, l_10, l_11, l_12, l_13, l_14, l_15, l_16, l_17, l_18, l_19, l_20, l_21, l_30, l_31, l_32, l_36, l_40, l_41, l_42, l_43, l_44, l_45, l_46, l_47, l_48, l_49, l_50, l_51, l_52, l_57, l_58, l_60, l_64, l_72, l_80, l_92, l_98, l_99, l_100, l_102, l_105, l_111, l_112, l_114, l_115, l_116, l_117, l_120, l_144, l_200, l_201, l_240, l_300, l_320, l_400, l_500, l_550, l_560, l_649, l_650, l_1000, l_1400, l_2000, l_4000, l_10000, iN_add, iN_sub, iN_mul, iN_le_t, iN_le_f, iN_lt_t, iN_lt_f, iN_eq_f, inb_iN, ix_iN, isZ_0, isZ_1, ↓reduceIte, eq_self, kd_b ho, hz, c1, c2, c3, c4]
theorem holds_f {o z : Nat} {G : G_} {i n : Int32} (ho : kd o = 4) (hz : G.1 o 1 = iN z) (h40 : z ≤ 40) (hn : 0 ≤ n.toInt) (h : ¬ (0 ≤ i.toInt ∧ i.toInt + n.toInt ≤ z)) : f_X4_holds o i n G = some (iN 0) := by
  have c3 : (n < iN 0) = False := eq_false (fun e => by have := t_lt.mp e; rw [li (by omega)] at this; omega)
  have hr := t_rng i
  unfold f_X4_holds
  by_cases c1 : i < iN 0
  · simp (disch := omega) only [chk_t, beq_self_eq_true, nm_s, bj1_s, bj2_s, bj3_s, mo_1, mo_0, l_0, l_1, l_2, l_3, l_4, l_5, l_6, l_7, l_8, l_9, l_10, l_11, l_12, l_13, l_14, l_15, l_16, l_17, l_18, l_19, l_20, l_21, l_30, l_31, l_32, l_36, l_40, l_41, l_42, l_43, l_44, l_45, l_46, l_47, l_48, l_49, l_50, l_51, l_52, l_57, l_58, l_60, l_64, l_72, l_80, l_92, l_98, l_99, l_100, l_102, l_105, l_111, l_112, l_114, l_115, l_116, l_117, l_120, l_144, l_200, l_201, l_240, l_300, l_320, l_400, l_500, l_550, l_560, l_649, l_650, l_1000, l_1400, l_2000, l_4000, l_10000, iN_add, iN_sub, iN_mul, iN_le_t, iN_le_f, iN_lt_t, iN_lt_f, iN_eq_f, inb_iN, ix_iN, isZ_0, isZ_1, ↓reduceIte, eq_self, kd_b ho, if_pos c1]
  · have d1 : 0 ≤ i.toInt := by
      have : ¬ i.toInt < 0 := fun e => c1 (t_lt.mpr (by rw [li (by omega)]; omega))
      omega
    by_cases c2 : iN z < i
    · simp (disch := omega) only [chk_t, beq_self_eq_true, nm_s, bj1_s, bj2_s, bj3_s, mo_1, mo_0, l_0, l_1, l_2, l_3, l_4, l_5, l_6, l_7, l_8, l_9, l_10, l_11, l_12, l_13, l_14, l_15, l_16, l_17, l_18, l_19, l_20, l_21, l_30, l_31, l_32, l_36, l_40, l_41, l_42, l_43, l_44, l_45, l_46, l_47, l_48, l_49, l_50, l_51, l_52, l_57, l_58, l_60, l_64, l_72, l_80, l_92, l_98, l_99, l_100, l_102, l_105, l_111, l_112, l_114, l_115, l_116, l_117, l_120, l_144, l_200, l_201, l_240, l_300, l_320, l_400, l_500, l_550, l_560, l_649, l_650, l_1000, l_1400, l_2000, l_4000, l_10000, iN_add, iN_sub, iN_mul, iN_le_t, iN_le_f, iN_lt_t, iN_lt_f, iN_eq_f, inb_iN, ix_iN, isZ_0, isZ_1, ↓reduceIte, eq_self, kd_b ho, hz, if_neg c1, if_pos c2]
    · have d2 : i.toInt ≤ z := by
        have : ¬ (z : Int) < i.toInt := fun e => c2 (t_lt.mpr (by rw [li (by omega)]; omega))
        omega
      have c4 : (iN z - i < n) = True := eq_true (t_lt.mpr (by
        rw [t_sub (by rw [li (by omega)]; omega) (by rw [li (by omega)]; omega), li (by omega)]
        omega))
      simp (disch := omega) only [chk_t, beq_self_eq_true, nm_s, bj1_s, bj2_s, bj3_s, mo_1, mo_0, l_0, l_1, l_2, l_3, l_4, l_5, l_6, l_7, l_8, l_9, l_10, l_11, l_12, l_13, l_14, l_15, l_16, l_17, l_18, l_19, l_20, l_21, l_30, l_31, l_32, l_36, l_40, l_41, l_42, l_43, l_44, l_45, l_46, l_47, l_48, l_49, l_50, l_51, l_52, l_57, l_58, l_60, l_64, l_72, l_80, l_92, l_98, l_99, l_100, l_102, l_105, l_111, l_112, l_114, l_115, l_116, l_117, l_120, l_144, l_200, l_201, l_240, l_300, l_320, l_400, l_500, l_550, l_560, l_649, l_650, l_1000, l_1400, l_2000, l_4000, l_10000, iN_add, iN_sub, iN_mul, iN_le_t, iN_le_f, iN_lt_t, iN_lt_f, iN_eq_f, inb_iN, ix_iN, isZ_0, isZ_1, ↓reduceIte, eq_self, kd_b ho, hz, if_neg c1, if_neg c2, c3, c4]
theorem neg_tf {i : Int32} (h : i.toInt < 0) : (i < iN 0) = True := eq_true (t_lt.mpr (by rw [li (by omega)]; omega))
theorem neg_ff {i : Int32} (h : ¬ i.toInt < 0) : (i < iN 0) = False := eq_false (fun e => h (by have := t_lt.mp e; rw [li (by omega)] at this; omega))
theorem mcopy1 {r i n : Nat} {a3 a4 : Int32} {G : G_} (hr : r < 6) (hi : i + n ≤ 40) : ∃ G', f_X8_copy_l104_23 (iN r) (iN i) a3 a4 (iN n) FU (iN 0) G = some G' ∧ (∀ k, k < n → G'.1 128 k = G.1 127 (40 * r + (i + k))) ∧ (∀ q, q ≠ 128 → G'.1 q = G.1 q) ∧ G'.2 = G.2 := by
  refine loop_h (fun f v s => f_X8_copy_l104_23 (iN r) (iN i) a3 a4 (iN n) f v s) (fun j A => (∀ k, k < j → A.1 128 k = G.1 127 (40 * r + (i + k))) ∧ (∀ q, q ≠ 128 → A.1 q = G.1 q) ∧ A.2 = G.2) _ 0 n ?_ ?_ (by omega) (n := FU) (fu_lt (by omega)) ⟨fun i h => by omega, fun _ _ => rfl, rfl⟩
  · intro f j A h3 h4 ⟨i0, i2, i3⟩
    refine ⟨sI A 128 j (G.1 127 (40 * r + (i + j))), ⟨fun k h5 => ?_, fun q hq => by rw [sI_p hq]; exact i2 q hq, i3⟩, ?_⟩
    · by_cases c : k = j
      · subst c; exact sI_eq
      · rw [sI_j (by omega)]; exact i0 k (by omega)
    · show f_X8_copy_l104_23 (iN r) (iN i) a3 a4 (iN n) (f + 1) (iN j) A = _
      conv => lhs; unfold f_X8_copy_l104_23
      unfold f_X8_rowAt
      simp (disch := omega) only [chk_t, beq_self_eq_true, nm_s, bj1_s, bj2_s, bj3_s, mo_1, mo_0, l_0, l_1, l_2, l_3, l_4, l_5, l_6, l_7, l_8, l_9, l_10, l_11, l_12, l_13, l_14, l_15, l_16, l_17, l_18, l_19, l_20, l_21, l_30, l_31, l_32, l_36, l_40, l_41, l_42, l_43, l_44, l_45, l_46, l_47, l_48, l_49, l_50, l_51, l_52, l_57, l_58, l_60, l_64, l_72, l_80, l_92, l_98, l_99, l_100, l_102, l_105, l_111, l_112, l_114, l_115, l_116, l_117, l_120, l_144, l_200, l_201, l_240, l_300, l_320, l_400, l_500, l_550, l_560, l_649, l_650, l_1000, l_1400, l_2000, l_4000, l_10000, iN_add, iN_sub, iN_mul, iN_le_t, iN_le_f, iN_lt_t, iN_lt_f, iN_eq_f, inb_iN, ix_iN, isZ_0, isZ_1, ↓reduceIte, eq_self, i2]
  · intro f A hI
    refine ⟨A, ?_, hI⟩
    show f_X8_copy_l104_23 (iN r) (iN i) a3 a4 (iN n) (f + 1) (iN n) A = _
    unfold f_X8_copy_l104_23
    simp (disch := omega) only [chk_t, beq_self_eq_true, nm_s, bj1_s, bj2_s, bj3_s, mo_1, mo_0, l_0, l_1, l_2, l_3, l_4, l_5, l_6, l_7, l_8, l_9, l_10, l_11, l_12, l_13, l_14, l_15, l_16, l_17, l_18, l_19, l_20, l_21, l_30, l_31, l_32, l_36, l_40, l_41, l_42, l_43, l_44, l_45, l_46, l_47, l_48, l_49, l_50, l_51, l_52, l_57, l_58, l_60, l_64, l_72, l_80, l_92, l_98, l_99, l_100, l_102, l_105, l_111, l_112, l_114, l_115, l_116, l_117, l_120, l_144, l_200, l_201, l_240, l_300, l_320, l_400, l_500, l_550, l_560, l_649, l_650, l_1000, l_1400, l_2000, l_4000, l_10000, iN_add, iN_sub, iN_mul, iN_le_t, iN_le_f, iN_lt_t, iN_lt_f, iN_eq_f, inb_iN, ix_iN, isZ_0, isZ_1, ↓reduceIte, eq_self]
theorem mcopy2 {s j n : Nat} {G : G_} {g : Nat → Int32} (hs : s < 6) (hj : j + n ≤ 40) (hg : ∀ k, k < n → G.1 128 k = g k) : ∃ G', f_X8_copy_l136_31 (iN s) (iN j) (iN n) FU (iN 0) G = some G' ∧ (∀ p, G'.1 127 p = if 40 * s + j ≤ p ∧ p < 40 * s + j + n then g (p - (40 * s + j)) else G.1 127 p) ∧ (∀ q, q ≠ 127 → G'.1 q = G.1 q) ∧ G'.2 = G.2 := by
  refine loop_h (fun f v s' => f_X8_copy_l136_31 (iN s) (iN j) (iN n) f v s') (fun m A => (∀ p, A.1 127 p = if 40 * s + j ≤ p ∧ p < 40 * s + j + m then g (p - (40 * s + j)) else G.1 127 p) ∧ (∀ q, q ≠ 127 → A.1 q = G.1 q) ∧ A.2 = G.2) _ 0 n ?_ ?_ (by omega) (n := FU) (fu_lt (by omega)) ⟨fun p => by rw [if_neg (by omega)], fun _ _ => rfl, rfl⟩
  · intro f m A h3 h4 ⟨i0, i2, i3⟩
    refine ⟨sI A 127 (40 * s + j + m) (g m), ⟨fun p => ?_, fun q hq => by rw [sI_p hq]; exact i2 q hq, i3⟩, ?_⟩
    · by_cases c : p = 40 * s + j + m
      · subst c
        rw [sI_eq, if_pos (by omega), show 40 * s + j + m - (40 * s + j) = m by omega]
      · rw [sI_j c, i0 p]
        by_cases c2 : 40 * s + j ≤ p ∧ p < 40 * s + j + m
        · rw [if_pos c2, if_pos (by omega)]
        · rw [if_neg c2, if_neg (by omega)]
    · show f_X8_copy_l136_31 (iN s) (iN j) (iN n) (f + 1) (iN m) A = _
      conv => lhs; unfold f_X8_copy_l136_31
      simp (disch := omega) only [chk_t, beq_self_eq_true, nm_s, bj1_s, bj2_s, bj3_s, mo_1, mo_0, l_0, l_1, l_2, l_3, l_4, l_5, l_6, l_7, l_8, l_9, l_10, l_11, l_12, l_13, l_14, l_15, l_16, l_17, l_18, l_19, l_20, l_21, l_30, l_31, l_32, l_36, l_40, l_41, l_42, l_43, l_44, l_45, l_46, l_47, l_48, l_49, l_50, l_51, l_52, l_57, l_58, l_60, l_64, l_72, l_80, l_92, l_98, l_99, l_100, l_102, l_105, l_111, l_112, l_114, l_115, l_116, l_117, l_120, l_144, l_200, l_201, l_240, l_300, l_320, l_400, l_500, l_550, l_560, l_649, l_650, l_1000, l_1400, l_2000, l_4000, l_10000, iN_add, iN_sub, iN_mul, iN_le_t, iN_le_f, iN_lt_t, iN_lt_f, iN_eq_f, inb_iN, ix_iN, isZ_0, isZ_1, ↓reduceIte, eq_self, i2, hg]
  · intro f A hI
    refine ⟨A, ?_, hI⟩
    show f_X8_copy_l136_31 (iN s) (iN j) (iN n) (f + 1) (iN n) A = _
    unfold f_X8_copy_l136_31
    simp (disch := omega) only [chk_t, beq_self_eq_true, nm_s, bj1_s, bj2_s, bj3_s, mo_1, mo_0, l_0, l_1, l_2, l_3, l_4, l_5, l_6, l_7, l_8, l_9, l_10, l_11, l_12, l_13, l_14, l_15, l_16, l_17, l_18, l_19, l_20, l_21, l_30, l_31, l_32, l_36, l_40, l_41, l_42, l_43, l_44, l_45, l_46, l_47, l_48, l_49, l_50, l_51, l_52, l_57, l_58, l_60, l_64, l_72, l_80, l_92, l_98, l_99, l_100, l_102, l_105, l_111, l_112, l_114, l_115, l_116, l_117, l_120, l_144, l_200, l_201, l_240, l_300, l_320, l_400, l_500, l_550, l_560, l_649, l_650, l_1000, l_1400, l_2000, l_4000, l_10000, iN_add, iN_sub, iN_mul, iN_le_t, iN_le_f, iN_lt_t, iN_lt_f, iN_eq_f, inb_iN, ix_iN, isZ_0, isZ_1, ↓reduceIte, eq_self]
theorem sC_at {G : G_} {p0 p1 i j n : Nat} (hi : i < 1000) (hj : j < 1000) (hn : n < 1000) (q k : Nat) : (sC G p0 p1 (iN i) (iN j) (iN n)).1 q k = if q = p1 then (if j ≤ k ∧ k < j + n then G.1 p0 (i + (k - j)) else G.1 p1 k) else G.1 q k := by
  unfold sC va_cpy
  show (if q = p1 then (if ix (iN j) ≤ k ∧ k < ix (iN j) + ix (iN n) then G.1 p0 (ix (iN i) + (k - ix (iN j))) else G.1 p1 k) else G.1 q k) = _
  rw [ix_iN (by omega), ix_iN (by omega), ix_iN (by omega)]
theorem op_copy (a1 a2 a3 a4 a5 : Int32) {G : G_} (h : RR G) : pOK (f_X7_copy a1 a2 a3 a4 a5) (f_X8_copy a1 a2 a3 a4 a5) G := by
  rcases row_cases a1 G with ⟨e1, c1⟩ | ⟨r, hr, rfl, e1, c1, ho⟩
  · rcases row_cases a3 G with ⟨e3, c3⟩ | ⟨s, hs, rfl, e3, c3, ho3⟩
    · refine pOK_same (x := -iN 1) h ?_ ?_
      · unfold f_X7_copy
        rw [c1, bj1_s, c3, bj1_s]
        rfl
      · unfold f_X8_copy
        rw [row8, bj1_s]
        exact if_pos e1
    · refine pOK_same (x := -iN 1) h ?_ ?_
      · unfold f_X7_copy
        rw [c1, bj1_s, c3, bj1_s]
        rfl
      · unfold f_X8_copy
        rw [row8, bj1_s]
        exact if_pos e1
  · rcases row_cases a3 G with ⟨e3, c3⟩ | ⟨s, hs, rfl, e3, c3, ho3⟩
    · refine pOK_same (x := -iN 1) h ?_ ?_
      · unfold f_X7_copy
        simp (disch := omega) only [chk_t, beq_self_eq_true, nm_s, bj1_s, bj2_s, bj3_s, mo_1, mo_0, l_0, l_1, l_2, l_3, l_4, l_5, l_6, l_7, l_8, l_9, l_10, l_11, l_12, l_13, l_14, l_15, l_16, l_17, l_18, l_19, l_20, l_21, l_30, l_31, l_32, l_36, l_40, l_41, l_42, l_43, l_44, l_45, l_46, l_47, l_48, l_49, l_50, l_51, l_52, l_57, l_58, l_60, l_64, l_72, l_80, l_92, l_98, l_99, l_100, l_102, l_105, l_111, l_112, l_114, l_115, l_116, l_117, l_120, l_144, l_200, l_201, l_240, l_300, l_320, l_400, l_500, l_550, l_560, l_649, l_650, l_1000, l_1400, l_2000, l_4000, l_10000, iN_add, iN_sub, iN_mul, iN_le_t, iN_le_f, iN_lt_t, iN_lt_f, iN_eq_f, inb_iN, ix_iN, isZ_0, isZ_1, ↓reduceIte, eq_self, c1, c3, kd_b ho]
      · unfold f_X8_copy
        simp (disch := omega) only [chk_t, beq_self_eq_true, nm_s, bj1_s, bj2_s, bj3_s, mo_1, mo_0, l_0, l_1, l_2, l_3, l_4, l_5, l_6, l_7, l_8, l_9, l_10, l_11, l_12, l_13, l_14, l_15, l_16, l_17, l_18, l_19, l_20, l_21, l_30, l_31, l_32, l_36, l_40, l_41, l_42, l_43, l_44, l_45, l_46, l_47, l_48, l_49, l_50, l_51, l_52, l_57, l_58, l_60, l_64, l_72, l_80, l_92, l_98, l_99, l_100, l_102, l_105, l_111, l_112, l_114, l_115, l_116, l_117, l_120, l_144, l_200, l_201, l_240, l_300, l_320, l_400, l_500, l_550, l_560, l_649, l_650, l_1000, l_1400, l_2000, l_4000, l_10000, iN_add, iN_sub, iN_mul, iN_le_t, iN_le_f, iN_lt_t, iN_lt_f, iN_eq_f, inb_iN, ix_iN, isZ_0, isZ_1, ↓reduceIte, eq_self, row8, e1, e3]
    · by_cases hn0 : iN 0 ≤ a5
      · have hn : 0 ≤ a5.toInt := by have := t_le.mp hn0; rw [li (by omega)] at this; omega
        obtain ⟨q1, q2, q3⟩ := h.1.1 r hr
        obtain ⟨p1, p2, p3⟩ := h.1.1 s hs
        rcases q2 with q2 | ⟨z, hz, q2⟩
        · have q1' := q1.trans q2
          refine pOK_found (f := 1) (by omega) h ?_ ?_
          · unfold f_X7_copy
            simp (disch := omega) only [chk_t, beq_self_eq_true, nm_s, bj1_s, bj2_s, bj3_s, mo_1, mo_0, l_0, l_1, l_2, l_3, l_4, l_5, l_6, l_7, l_8, l_9, l_10, l_11, l_12, l_13, l_14, l_15, l_16, l_17, l_18, l_19, l_20, l_21, l_30, l_31, l_32, l_36, l_40, l_41, l_42, l_43, l_44, l_45, l_46, l_47, l_48, l_49, l_50, l_51, l_52, l_57, l_58, l_60, l_64, l_72, l_80, l_92, l_98, l_99, l_100, l_102, l_105, l_111, l_112, l_114, l_115, l_116, l_117, l_120, l_144, l_200, l_201, l_240, l_300, l_320, l_400, l_500, l_550, l_560, l_649, l_650, l_1000, l_1400, l_2000, l_4000, l_10000, iN_add, iN_sub, iN_mul, iN_le_t, iN_le_f, iN_lt_t, iN_lt_f, iN_eq_f, inb_iN, ix_iN, isZ_0, isZ_1, ↓reduceIte, eq_self, c1, c3, kd_b ho, kd_b ho3, if_pos hn0, rthere_f ho q1', found_ok]
          · unfold f_X8_copy
            simp (disch := omega) only [chk_t, beq_self_eq_true, nm_s, bj1_s, bj2_s, bj3_s, mo_1, mo_0, l_0, l_1, l_2, l_3, l_4, l_5, l_6, l_7, l_8, l_9, l_10, l_11, l_12, l_13, l_14, l_15, l_16, l_17, l_18, l_19, l_20, l_21, l_30, l_31, l_32, l_36, l_40, l_41, l_42, l_43, l_44, l_45, l_46, l_47, l_48, l_49, l_50, l_51, l_52, l_57, l_58, l_60, l_64, l_72, l_80, l_92, l_98, l_99, l_100, l_102, l_105, l_111, l_112, l_114, l_115, l_116, l_117, l_120, l_144, l_200, l_201, l_240, l_300, l_320, l_400, l_500, l_550, l_560, l_649, l_650, l_1000, l_1400, l_2000, l_4000, l_10000, iN_add, iN_sub, iN_mul, iN_le_t, iN_le_f, iN_lt_t, iN_lt_f, iN_eq_f, inb_iN, ix_iN, isZ_0, isZ_1, ↓reduceIte, eq_self, row8, e1, e3, if_pos hn0, fndC_o, q2, lt_m1, meets_ok]
        · have q1' := q1.trans q2
          rcases p2 with p2 | ⟨y, hy, p2⟩
          · have p1' := p1.trans p2
            refine pOK_found (f := 1) (by omega) h ?_ ?_
            · unfold f_X7_copy
              simp (disch := omega) only [chk_t, beq_self_eq_true, nm_s, bj1_s, bj2_s, bj3_s, mo_1, mo_0, l_0, l_1, l_2, l_3, l_4, l_5, l_6, l_7, l_8, l_9, l_10, l_11, l_12, l_13, l_14, l_15, l_16, l_17, l_18, l_19, l_20, l_21, l_30, l_31, l_32, l_36, l_40, l_41, l_42, l_43, l_44, l_45, l_46, l_47, l_48, l_49, l_50, l_51, l_52, l_57, l_58, l_60, l_64, l_72, l_80, l_92, l_98, l_99, l_100, l_102, l_105, l_111, l_112, l_114, l_115, l_116, l_117, l_120, l_144, l_200, l_201, l_240, l_300, l_320, l_400, l_500, l_550, l_560, l_649, l_650, l_1000, l_1400, l_2000, l_4000, l_10000, iN_add, iN_sub, iN_mul, iN_le_t, iN_le_f, iN_lt_t, iN_lt_f, iN_eq_f, inb_iN, ix_iN, isZ_0, isZ_1, ↓reduceIte, eq_self, c1, c3, kd_b ho, kd_b ho3, if_pos hn0, rthere_t ho q1' hz, rthere_f ho3 p1', found_ok]
            · unfold f_X8_copy
              simp (disch := omega) only [chk_t, beq_self_eq_true, nm_s, bj1_s, bj2_s, bj3_s, mo_1, mo_0, l_0, l_1, l_2, l_3, l_4, l_5, l_6, l_7, l_8, l_9, l_10, l_11, l_12, l_13, l_14, l_15, l_16, l_17, l_18, l_19, l_20, l_21, l_30, l_31, l_32, l_36, l_40, l_41, l_42, l_43, l_44, l_45, l_46, l_47, l_48, l_49, l_50, l_51, l_52, l_57, l_58, l_60, l_64, l_72, l_80, l_92, l_98, l_99, l_100, l_102, l_105, l_111, l_112, l_114, l_115, l_116, l_117, l_120, l_144, l_200, l_201, l_240, l_300, l_320, l_400, l_500, l_550, l_560, l_649, l_650, l_1000, l_1400, l_2000, l_4000, l_10000, iN_add, iN_sub, iN_mul, iN_le_t, iN_le_f, iN_lt_t, iN_lt_f, iN_eq_f, inb_iN, ix_iN, isZ_0, isZ_1, ↓reduceIte, eq_self, row8, e1, e3, if_pos hn0, fndC_o, q2, p2, le_m1, meets_ok]
          · have p1' := p1.trans p2
            by_cases k1 : 0 ≤ a2.toInt ∧ a2.toInt + a5.toInt ≤ z
            · by_cases k2 : 0 ≤ a4.toInt ∧ a4.toInt + a5.toInt ≤ y
              · have ei := iN_ex k1.1
                have ej := iN_ex k2.1
                have en := iN_ex hn
                have hi1 := ix_t k1.1
                have hi2 := ix_t k2.1
                have hi3 := ix_t hn
                have hv1 := holds_t ho q1' hz hn k1
                have hv2 := holds_t ho3 p1' hy hn k2
                have n1 := neg_ff (i := a2) (by omega)
                have n2 := neg_ff (i := a4) (by omega)
                have g1 : ((z : Int) < a2.toInt + a5.toInt) = False := eq_false (by omega)
                have g2 : (a4.toInt + a5.toInt ≤ (y : Int)) = True := eq_true (by omega)
                have lz : (iN z).toInt = z := li (by omega)
                have ly : (iN y).toInt = y := li (by omega)
                have hin : ix a2 + ix a5 ≤ z := by omega
                have hjn : ix a4 + ix a5 ≤ y := by omega
                have hcp : cpOk a2 a4 a5 40 40 = true := by
                  unfold cpOk
                  rw [decide_eq_true (show ¬ a2 < 0 from of_eq_false n1), decide_eq_true (show ¬ a4 < 0 from of_eq_false n2), decide_eq_true (show ¬ a5 < 0 from of_eq_false (neg_ff (i := a5) (by omega))), decide_eq_true (show ix a2 + ix a5 ≤ 40 by omega), decide_eq_true (show ix a4 + ix a5 ≤ 40 by omega)]
                  rfl
                have hC : f_X7_copy (iN r) a2 (iN s) a4 a5 G = some (iN 1, sC G (52 + 2 * r) (52 + 2 * s) a2 a4 a5) := by
                  unfold f_X7_copy
                  simp (disch := omega) only [chk_t, beq_self_eq_true, nm_s, bj1_s, bj2_s, bj3_s, mo_1, mo_0, l_0, l_1, l_2, l_3, l_4, l_5, l_6, l_7, l_8, l_9, l_10, l_11, l_12, l_13, l_14, l_15, l_16, l_17, l_18, l_19, l_20, l_21, l_30, l_31, l_32, l_36, l_40, l_41, l_42, l_43, l_44, l_45, l_46, l_47, l_48, l_49, l_50, l_51, l_52, l_57, l_58, l_60, l_64, l_72, l_80, l_92, l_98, l_99, l_100, l_102, l_105, l_111, l_112, l_114, l_115, l_116, l_117, l_120, l_144, l_200, l_201, l_240, l_300, l_320, l_400, l_500, l_550, l_560, l_649, l_650, l_1000, l_1400, l_2000, l_4000, l_10000, iN_add, iN_sub, iN_mul, iN_le_t, iN_le_f, iN_lt_t, iN_lt_f, iN_eq_f, inb_iN, ix_iN, isZ_0, isZ_1, ↓reduceIte, eq_self, c1, c3, kd_b ho, kd_b ho3, if_pos hn0, rthere_t ho q1' hz, rthere_t ho3 p1' hy, hv1, hv2, hcp, show 51 + 2 * r + 1 = 52 + 2 * r by omega, show 51 + 2 * s + 1 = 52 + 2 * s by omega]
                generalize ix a2 = i at *
                generalize ix a4 = j at *
                generalize ix a5 = n at *
                subst ei ej en
                have sC2 := @sC_at G (52 + 2 * r) (52 + 2 * s) i j n (by omega) (by omega) (by omega)
                generalize hA : sC G (52 + 2 * r) (52 + 2 * s) (iN i) (iN j) (iN n) = A at *
                have hA2 : A.2 = G.2 := by rw [← hA]; rfl
                have hAo : ∀ q, q ≠ 52 + 2 * s → A.1 q = G.1 q := fun q hq => funext fun k => by rw [sC2 q k, if_neg hq]
                obtain ⟨B, hB, b1, b2, b3⟩ := mcopy1 (r := r) (i := i) (n := n) (a3 := iN s) (a4 := iN j) (G := A) hr (by omega)
                obtain ⟨C, hC2, d1, d2, d3⟩ := mcopy2 (s := s) (j := j) (n := n) (G := B) (g := fun k => A.1 127 (40 * r + (i + k))) hs (by omega) b1
                have eC : ∀ q, q ≠ 127 → q ≠ 128 → q ≠ 52 + 2 * s → C.1 q = G.1 q := fun q h1 h2 h3 => by rw [d2 q h1, b2 q h2, hAo q h3]
                refine ⟨iN 1, A, C, hC, ?_, ?_⟩
                · have A126 : A.1 126 = G.1 126 := hAo 126 (by omega)
                  unfold f_X8_copy
                  simp (disch := omega) only [chk_t, beq_self_eq_true, nm_s, bj1_s, bj2_s, bj3_s, mo_1, mo_0, l_0, l_1, l_2, l_3, l_4, l_5, l_6, l_7, l_8, l_9, l_10, l_11, l_12, l_13, l_14, l_15, l_16, l_17, l_18, l_19, l_20, l_21, l_30, l_31, l_32, l_36, l_40, l_41, l_42, l_43, l_44, l_45, l_46, l_47, l_48, l_49, l_50, l_51, l_52, l_57, l_58, l_60, l_64, l_72, l_80, l_92, l_98, l_99, l_100, l_102, l_105, l_111, l_112, l_114, l_115, l_116, l_117, l_120, l_144, l_200, l_201, l_240, l_300, l_320, l_400, l_500, l_550, l_560, l_649, l_650, l_1000, l_1400, l_2000, l_4000, l_10000, iN_add, iN_sub, iN_mul, iN_le_t, iN_le_f, iN_lt_t, iN_lt_f, iN_eq_f, inb_iN, ix_iN, isZ_0, isZ_1, ↓reduceIte, eq_self, row8, e1, e3, if_pos hn0, A126, q2, p2, n1, n2, lg_gt, lg_le, lz, ly, g1, g2, hB, hC2]
                · refine RR_1 h ?_ (fun q hq => eC q (by omega) (by omega) (by omega)) (by rw [eC 0 (by omega) (by omega) (by omega)]) (by rw [eC 124 (by omega) (by omega) (by omega)]) (d3.trans (b3.trans hA2)) (by rw [eC 0 (by omega) (by omega) (by omega), eC 124 (by omega) (by omega) (by omega)]; exact h.2)
                  intro t ht
                  have ht' := h.1.1 t ht
                  refine ⟨?_, ?_, fun k hk => ?_⟩
                  · rw [eC _ (by omega) (by omega) (by omega), eC 126 (by omega) (by omega) (by omega)]; exact ht'.1
                  · rw [eC 126 (by omega) (by omega) (by omega)]; exact ht'.2.1
                  · rw [d2 _ (by omega), b2 _ (by omega), sC2, d1, b2 127 (by omega), hAo 127 (by omega)]
                    by_cases c : t = s
                    · subst c
                      rw [if_pos rfl]
                      by_cases c2 : j ≤ k ∧ k < j + n
                      · rw [if_pos c2, if_pos (by omega)]
                        show _ = G.1 127 (40 * r + (i + (40 * t + k - (40 * t + j))))
                        rw [show 40 * t + k - (40 * t + j) = k - j by omega]
                        exact q3 (i + (k - j)) (by omega)
                      · rw [if_neg c2, if_neg (by omega)]
                        exact p3 k hk
                    · rw [if_neg (by omega), if_neg (by omega)]
                      exact ht'.2.2 k hk
              · have hv1 := holds_t ho q1' hz hn k1
                have hv2 := holds_f ho3 p1' hy hn k2
                refine pOK_found (f := 2) (by omega) h ?_ ?_
                · unfold f_X7_copy
                  simp (disch := omega) only [chk_t, beq_self_eq_true, nm_s, bj1_s, bj2_s, bj3_s, mo_1, mo_0, l_0, l_1, l_2, l_3, l_4, l_5, l_6, l_7, l_8, l_9, l_10, l_11, l_12, l_13, l_14, l_15, l_16, l_17, l_18, l_19, l_20, l_21, l_30, l_31, l_32, l_36, l_40, l_41, l_42, l_43, l_44, l_45, l_46, l_47, l_48, l_49, l_50, l_51, l_52, l_57, l_58, l_60, l_64, l_72, l_80, l_92, l_98, l_99, l_100, l_102, l_105, l_111, l_112, l_114, l_115, l_116, l_117, l_120, l_144, l_200, l_201, l_240, l_300, l_320, l_400, l_500, l_550, l_560, l_649, l_650, l_1000, l_1400, l_2000, l_4000, l_10000, iN_add, iN_sub, iN_mul, iN_le_t, iN_le_f, iN_lt_t, iN_lt_f, iN_eq_f, inb_iN, ix_iN, isZ_0, isZ_1, ↓reduceIte, eq_self, c1, c3, kd_b ho, kd_b ho3, if_pos hn0, rthere_t ho q1' hz, rthere_t ho3 p1' hy, hv1, hv2, found_ok]
                · have n1 := neg_ff (i := a2) (by omega)
                  have g1 : ((z : Int) < a2.toInt + a5.toInt) = False := eq_false (by omega)
                  have lz : (iN z).toInt = z := li (by omega)
                  have ly : (iN y).toInt = y := li (by omega)
                  unfold f_X8_copy
                  by_cases n2 : a4.toInt < 0
                  · simp (disch := omega) only [chk_t, beq_self_eq_true, nm_s, bj1_s, bj2_s, bj3_s, mo_1, mo_0, l_0, l_1, l_2, l_3, l_4, l_5, l_6, l_7, l_8, l_9, l_10, l_11, l_12, l_13, l_14, l_15, l_16, l_17, l_18, l_19, l_20, l_21, l_30, l_31, l_32, l_36, l_40, l_41, l_42, l_43, l_44, l_45, l_46, l_47, l_48, l_49, l_50, l_51, l_52, l_57, l_58, l_60, l_64, l_72, l_80, l_92, l_98, l_99, l_100, l_102, l_105, l_111, l_112, l_114, l_115, l_116, l_117, l_120, l_144, l_200, l_201, l_240, l_300, l_320, l_400, l_500, l_550, l_560, l_649, l_650, l_1000, l_1400, l_2000, l_4000, l_10000, iN_add, iN_sub, iN_mul, iN_le_t, iN_le_f, iN_lt_t, iN_lt_f, iN_eq_f, inb_iN, ix_iN, isZ_0, isZ_1, ↓reduceIte, eq_self, row8, e1, e3, if_pos hn0, fndC_o, q2, p2, n1, neg_tf n2, meets_ok]
                  · have g2 : (a4.toInt + a5.toInt ≤ (y : Int)) = False := eq_false (by omega)
                    simp (disch := omega) only [chk_t, beq_self_eq_true, nm_s, bj1_s, bj2_s, bj3_s, mo_1, mo_0, l_0, l_1, l_2, l_3, l_4, l_5, l_6, l_7, l_8, l_9, l_10, l_11, l_12, l_13, l_14, l_15, l_16, l_17, l_18, l_19, l_20, l_21, l_30, l_31, l_32, l_36, l_40, l_41, l_42, l_43, l_44, l_45, l_46, l_47, l_48, l_49, l_50, l_51, l_52, l_57, l_58, l_60, l_64, l_72, l_80, l_92, l_98, l_99, l_100, l_102, l_105, l_111, l_112, l_114, l_115, l_116, l_117, l_120, l_144, l_200, l_201, l_240, l_300, l_320, l_400, l_500, l_550, l_560, l_649, l_650, l_1000, l_1400, l_2000, l_4000, l_10000, iN_add, iN_sub, iN_mul, iN_le_t, iN_le_f, iN_lt_t, iN_lt_f, iN_eq_f, inb_iN, ix_iN, isZ_0, isZ_1, ↓reduceIte, eq_self, row8, e1, e3, if_pos hn0, fndC_o, q2, p2, n1, neg_ff n2, lg_gt, lg_le, lz, ly, g1, g2, meets_ok]
            · have hv1 := holds_f ho q1' hz hn k1
              refine pOK_found (f := 2) (by omega) h ?_ ?_
              · unfold f_X7_copy
                simp (disch := omega) only [chk_t, beq_self_eq_true, nm_s, bj1_s, bj2_s, bj3_s, mo_1, mo_0, l_0, l_1, l_2, l_3, l_4, l_5, l_6, l_7, l_8, l_9, l_10, l_11, l_12, l_13, l_14, l_15, l_16, l_17, l_18, l_19, l_20, l_21, l_30, l_31, l_32, l_36, l_40, l_41, l_42, l_43, l_44, l_45, l_46, l_47, l_48, l_49, l_50, l_51, l_52, l_57, l_58, l_60, l_64, l_72, l_80, l_92, l_98, l_99, l_100, l_102, l_105, l_111, l_112, l_114, l_115, l_116, l_117, l_120, l_144, l_200, l_201, l_240, l_300, l_320, l_400, l_500, l_550, l_560, l_649, l_650, l_1000, l_1400, l_2000, l_4000, l_10000, iN_add, iN_sub, iN_mul, iN_le_t, iN_le_f, iN_lt_t, iN_lt_f, iN_eq_f, inb_iN, ix_iN, isZ_0, isZ_1, ↓reduceIte, eq_self, c1, c3, kd_b ho, kd_b ho3, if_pos hn0, rthere_t ho q1' hz, rthere_t ho3 p1' hy, hv1, found_ok]
              · have lz : (iN z).toInt = z := li (by omega)
                unfold f_X8_copy
                by_cases n1 : a2.toInt < 0
                · simp (disch := omega) only [chk_t, beq_self_eq_true, nm_s, bj1_s, bj2_s, bj3_s, mo_1, mo_0, l_0, l_1, l_2, l_3, l_4, l_5, l_6, l_7, l_8, l_9, l_10, l_11, l_12, l_13, l_14, l_15, l_16, l_17, l_18, l_19, l_20, l_21, l_30, l_31, l_32, l_36, l_40, l_41, l_42, l_43, l_44, l_45, l_46, l_47, l_48, l_49, l_50, l_51, l_52, l_57, l_58, l_60, l_64, l_72, l_80, l_92, l_98, l_99, l_100, l_102, l_105, l_111, l_112, l_114, l_115, l_116, l_117, l_120, l_144, l_200, l_201, l_240, l_300, l_320, l_400, l_500, l_550, l_560, l_649, l_650, l_1000, l_1400, l_2000, l_4000, l_10000, iN_add, iN_sub, iN_mul, iN_le_t, iN_le_f, iN_lt_t, iN_lt_f, iN_eq_f, inb_iN, ix_iN, isZ_0, isZ_1, ↓reduceIte, eq_self, row8, e1, e3, if_pos hn0, fndC_o, q2, p2, neg_tf n1, meets_ok]
                · by_cases n2 : a4.toInt < 0
                  · simp (disch := omega) only [chk_t, beq_self_eq_true, nm_s, bj1_s, bj2_s, bj3_s, mo_1, mo_0, l_0, l_1, l_2, l_3, l_4, l_5, l_6, l_7, l_8, l_9, l_10, l_11, l_12, l_13, l_14, l_15, l_16, l_17, l_18, l_19, l_20, l_21, l_30, l_31, l_32, l_36, l_40, l_41, l_42, l_43, l_44, l_45, l_46, l_47, l_48, l_49, l_50, l_51, l_52, l_57, l_58, l_60, l_64, l_72, l_80, l_92, l_98, l_99, l_100, l_102, l_105, l_111, l_112, l_114, l_115, l_116, l_117, l_120, l_144, l_200, l_201, l_240, l_300, l_320, l_400, l_500, l_550, l_560, l_649, l_650, l_1000, l_1400, l_2000, l_4000, l_10000, iN_add, iN_sub, iN_mul, iN_le_t, iN_le_f, iN_lt_t, iN_lt_f, iN_eq_f, inb_iN, ix_iN, isZ_0, isZ_1, ↓reduceIte, eq_self, row8, e1, e3, if_pos hn0, fndC_o, q2, p2, neg_ff n1, neg_tf n2, meets_ok]
                  · have g1 : ((z : Int) < a2.toInt + a5.toInt) = True := eq_true (by omega)
                    simp (disch := omega) only [chk_t, beq_self_eq_true, nm_s, bj1_s, bj2_s, bj3_s, mo_1, mo_0, l_0, l_1, l_2, l_3, l_4, l_5, l_6, l_7, l_8, l_9, l_10, l_11, l_12, l_13, l_14, l_15, l_16, l_17, l_18, l_19, l_20, l_21, l_30, l_31, l_32, l_36, l_40, l_41, l_42, l_43, l_44, l_45, l_46, l_47, l_48, l_49, l_50, l_51, l_52, l_57, l_58, l_60, l_64, l_72, l_80, l_92, l_98, l_99, l_100, l_102, l_105, l_111, l_112, l_114, l_115, l_116, l_117, l_120, l_144, l_200, l_201, l_240, l_300, l_320, l_400, l_500, l_550, l_560, l_649, l_650, l_1000, l_1400, l_2000, l_4000, l_10000, iN_add, iN_sub, iN_mul, iN_le_t, iN_le_f, iN_lt_t, iN_lt_f, iN_eq_f, inb_iN, ix_iN, isZ_0, isZ_1, ↓reduceIte, eq_self, row8, e1, e3, if_pos hn0, fndC_o, q2, p2, neg_ff n1, neg_ff n2, lg_gt, lz, g1, meets_ok]
      · refine pOK_found (f := 5) (by omega) h ?_ ?_
        · unfold f_X7_copy
          simp (disch := omega) only [chk_t, beq_self_eq_true, nm_s, bj1_s, bj2_s, bj3_s, mo_1, mo_0, l_0, l_1, l_2, l_3, l_4, l_5, l_6, l_7, l_8, l_9, l_10, l_11, l_12, l_13, l_14, l_15, l_16, l_17, l_18, l_19, l_20, l_21, l_30, l_31, l_32, l_36, l_40, l_41, l_42, l_43, l_44, l_45, l_46, l_47, l_48, l_49, l_50, l_51, l_52, l_57, l_58, l_60, l_64, l_72, l_80, l_92, l_98, l_99, l_100, l_102, l_105, l_111, l_112, l_114, l_115, l_116, l_117, l_120, l_144, l_200, l_201, l_240, l_300, l_320, l_400, l_500, l_550, l_560, l_649, l_650, l_1000, l_1400, l_2000, l_4000, l_10000, iN_add, iN_sub, iN_mul, iN_le_t, iN_le_f, iN_lt_t, iN_lt_f, iN_eq_f, inb_iN, ix_iN, isZ_0, isZ_1, ↓reduceIte, eq_self, c1, c3, kd_b ho, kd_b ho3, if_neg hn0, found_ok]
        · unfold f_X8_copy
          simp (disch := omega) only [chk_t, beq_self_eq_true, nm_s, bj1_s, bj2_s, bj3_s, mo_1, mo_0, l_0, l_1, l_2, l_3, l_4, l_5, l_6, l_7, l_8, l_9, l_10, l_11, l_12, l_13, l_14, l_15, l_16, l_17, l_18, l_19, l_20, l_21, l_30, l_31, l_32, l_36, l_40, l_41, l_42, l_43, l_44, l_45, l_46, l_47, l_48, l_49, l_50, l_51, l_52, l_57, l_58, l_60, l_64, l_72, l_80, l_92, l_98, l_99, l_100, l_102, l_105, l_111, l_112, l_114, l_115, l_116, l_117, l_120, l_144, l_200, l_201, l_240, l_300, l_320, l_400, l_500, l_550, l_560, l_649, l_650, l_1000, l_1400, l_2000, l_4000, l_10000, iN_add, iN_sub, iN_mul, iN_le_t, iN_le_f, iN_lt_t, iN_lt_f, iN_eq_f, inb_iN, ix_iN, isZ_0, isZ_1, ↓reduceIte, eq_self, row8, e1, e3, if_neg hn0, meets_ok]
def sumL (f : Nat → Int64) : Nat → Int64
  | 0 => 0
  | n + 1 => sumL f n + f n
theorem loop_sumL (L : Nat → Int64 → Int32 → Option Int64) (f : Nat → Int64) (b : Nat)
    (step : ∀ n k s, k < b → L (n + 1) s (iN k) = L n (s + f k) (iN (k + 1)))
    (done : ∀ n s, L (n + 1) s (iN b) = some s) {n : Nat} (hb : b < n) : L n 0 (iN 0) = some (sumL f b) := by
  have key := loop_cl (fun n v s => L n s v) (sumL f) 0 b (some (sumL f b)) (fun n k _ h => step n k _ h) (fun n => done n _) (Nat.zero_le b) (n := n) (by omega)
  exact key
theorem n64_ne {z : Nat} (h1 : 1 ≤ z) (h2 : z ≤ 1000) : ((iN z).toInt64 != 0) = true := by
  rw [bne_iff_ne]
  intro e
  have := congrArg Int64.toInt e
  rw [Int32.toInt_toInt64, li (by omega)] at this
  have e0 : (0 : Int64).toInt = 0 := rfl
  omega
theorem op_mean (a1 : Int32) {G : G_} (h : RR G) : pOK (f_X7_mean a1) (f_X8_mean a1) G := by
  rcases row_cases a1 G with ⟨e1, c1⟩ | ⟨r, hr, rfl, e1, c1, ho⟩
  · refine pOK_same (x := -iN 1) h ?_ ?_
    · unfold f_X7_mean
      simp (disch := omega) only [chk_t, beq_self_eq_true, nm_s, bj1_s, bj2_s, bj3_s, mo_1, mo_0, l_0, l_1, l_2, l_3, l_4, l_5, l_6, l_7, l_8, l_9, l_10, l_11, l_12, l_13, l_14, l_15, l_16, l_17, l_18, l_19, l_20, l_21, l_30, l_31, l_32, l_36, l_40, l_41, l_42, l_43, l_44, l_45, l_46, l_47, l_48, l_49, l_50, l_51, l_52, l_57, l_58, l_60, l_64, l_72, l_80, l_92, l_98, l_99, l_100, l_102, l_105, l_111, l_112, l_114, l_115, l_116, l_117, l_120, l_144, l_200, l_201, l_240, l_300, l_320, l_400, l_500, l_550, l_560, l_649, l_650, l_1000, l_1400, l_2000, l_4000, l_10000, iN_add, iN_sub, iN_mul, iN_le_t, iN_le_f, iN_lt_t, iN_lt_f, iN_eq_f, inb_iN, ix_iN, isZ_0, isZ_1, ↓reduceIte, eq_self, c1]
    · unfold f_X8_mean
      simp (disch := omega) only [chk_t, beq_self_eq_true, nm_s, bj1_s, bj2_s, bj3_s, mo_1, mo_0, l_0, l_1, l_2, l_3, l_4, l_5, l_6, l_7, l_8, l_9, l_10, l_11, l_12, l_13, l_14, l_15, l_16, l_17, l_18, l_19, l_20, l_21, l_30, l_31, l_32, l_36, l_40, l_41, l_42, l_43, l_44, l_45, l_46, l_47, l_48, l_49, l_50, l_51, l_52, l_57, l_58, l_60, l_64, l_72, l_80, l_92, l_98, l_99, l_100, l_102, l_105, l_111, l_112, l_114, l_115, l_116, l_117, l_120, l_144, l_200, l_201, l_240, l_300, l_320, l_400, l_500, l_550, l_560, l_649, l_650, l_1000, l_1400, l_2000, l_4000, l_10000, iN_add, iN_sub, iN_mul, iN_le_t, iN_le_f, iN_lt_t, iN_lt_f, iN_eq_f, inb_iN, ix_iN, isZ_0, isZ_1, ↓reduceIte, eq_self, row8, e1]
  · obtain ⟨q1, q2, q3⟩ := h.1.1 r hr
    rcases q2 with q2 | ⟨z, hz, q2⟩
    · have q1' := q1.trans q2
      refine pOK_found (f := 1) (by omega) h ?_ ?_
      · unfold f_X7_mean
        simp (disch := omega) only [chk_t, beq_self_eq_true, nm_s, bj1_s, bj2_s, bj3_s, mo_1, mo_0, l_0, l_1, l_2, l_3, l_4, l_5, l_6, l_7, l_8, l_9, l_10, l_11, l_12, l_13, l_14, l_15, l_16, l_17, l_18, l_19, l_20, l_21, l_30, l_31, l_32, l_36, l_40, l_41, l_42, l_43, l_44, l_45, l_46, l_47, l_48, l_49, l_50, l_51, l_52, l_57, l_58, l_60, l_64, l_72, l_80, l_92, l_98, l_99, l_100, l_102, l_105, l_111, l_112, l_114, l_115, l_116, l_117, l_120, l_144, l_200, l_201, l_240, l_300, l_320, l_400, l_500, l_550, l_560, l_649, l_650, l_1000, l_1400, l_2000, l_4000, l_10000, iN_add, iN_sub, iN_mul, iN_le_t, iN_le_f, iN_lt_t, iN_lt_f, iN_eq_f, inb_iN, ix_iN, isZ_0, isZ_1, ↓reduceIte, eq_self, c1, kd_b ho, rthere_f ho q1', found_ok]
      · unfold f_X8_mean
        simp (disch := omega) only [chk_t, beq_self_eq_true, nm_s, bj1_s, bj2_s, bj3_s, mo_1, mo_0, l_0, l_1, l_2, l_3, l_4, l_5, l_6, l_7, l_8, l_9, l_10, l_11, l_12, l_13, l_14, l_15, l_16, l_17, l_18, l_19, l_20, l_21, l_30, l_31, l_32, l_36, l_40, l_41, l_42, l_43, l_44, l_45, l_46, l_47, l_48, l_49, l_50, l_51, l_52, l_57, l_58, l_60, l_64, l_72, l_80, l_92, l_98, l_99, l_100, l_102, l_105, l_111, l_112, l_114, l_115, l_116, l_117, l_120, l_144, l_200, l_201, l_240, l_300, l_320, l_400, l_500, l_550, l_560, l_649, l_650, l_1000, l_1400, l_2000, l_4000, l_10000, iN_add, iN_sub, iN_mul, iN_le_t, iN_le_f, iN_lt_t, iN_lt_f, iN_eq_f, inb_iN, ix_iN, isZ_0, isZ_1, ↓reduceIte, eq_self, row8, e1, fndC_o, q2, le_m1, meets_ok]
    · have q1' := q1.trans q2
      by_cases hz0 : z = 0
      · subst hz0
        refine pOK_found (f := 4) (by omega) h ?_ ?_
        · unfold f_X7_mean
          simp (disch := omega) only [chk_t, beq_self_eq_true, nm_s, bj1_s, bj2_s, bj3_s, mo_1, mo_0, l_0, l_1, l_2, l_3, l_4, l_5, l_6, l_7, l_8, l_9, l_10, l_11, l_12, l_13, l_14, l_15, l_16, l_17, l_18, l_19, l_20, l_21, l_30, l_31, l_32, l_36, l_40, l_41, l_42, l_43, l_44, l_45, l_46, l_47, l_48, l_49, l_50, l_51, l_52, l_57, l_58, l_60, l_64, l_72, l_80, l_92, l_98, l_99, l_100, l_102, l_105, l_111, l_112, l_114, l_115, l_116, l_117, l_120, l_144, l_200, l_201, l_240, l_300, l_320, l_400, l_500, l_550, l_560, l_649, l_650, l_1000, l_1400, l_2000, l_4000, l_10000, iN_add, iN_sub, iN_mul, iN_le_t, iN_le_f, iN_lt_t, iN_lt_f, iN_eq_f, inb_iN, ix_iN, isZ_0, isZ_1, ↓reduceIte, eq_self, c1, kd_b ho, rthere_t ho q1' hz, q1', found_ok]
        · unfold f_X8_mean
          simp (disch := omega) only [chk_t, beq_self_eq_true, nm_s, bj1_s, bj2_s, bj3_s, mo_1, mo_0, l_0, l_1, l_2, l_3, l_4, l_5, l_6, l_7, l_8, l_9, l_10, l_11, l_12, l_13, l_14, l_15, l_16, l_17, l_18, l_19, l_20, l_21, l_30, l_31, l_32, l_36, l_40, l_41, l_42, l_43, l_44, l_45, l_46, l_47, l_48, l_49, l_50, l_51, l_52, l_57, l_58, l_60, l_64, l_72, l_80, l_92, l_98, l_99, l_100, l_102, l_105, l_111, l_112, l_114, l_115, l_116, l_117, l_120, l_144, l_200, l_201, l_240, l_300, l_320, l_400, l_500, l_550, l_560, l_649, l_650, l_1000, l_1400, l_2000, l_4000, l_10000, iN_add, iN_sub, iN_mul, iN_le_t, iN_le_f, iN_lt_t, iN_lt_f, iN_eq_f, inb_iN, ix_iN, isZ_0, isZ_1, ↓reduceIte, eq_self, row8, e1, fndC_o, q2, meets_ok]
      · have kC : f_X4_average_l4_3 (51 + 2 * r) G FU 0 (iN 0) = some (sumL (fun i => (G.1 127 (40 * r + i)).toInt64) z) := by
          refine loop_sumL (fun n s v => f_X4_average_l4_3 (51 + 2 * r) G n s v) _ z ?_ ?_ (fu_lt (by omega))
          · intro f k s hk
            have ev : G.1 (51 + 2 * r + 1) k = G.1 127 (40 * r + k) := by
              rw [show 51 + 2 * r + 1 = 52 + 2 * r by omega]
              exact q3 k (by omega)
            rcases rhas_cases ho q1' hz (iN k) with ⟨-, c3⟩ | ⟨k', hk', ek, c2, -⟩
            · have hz1 : iN z - iN 1 = iN (z - 1) := iN_sub (by omega)
              rw [hz1, inS_t (by omega) (by omega)] at c3
              exact absurd c3 (by decide)
            · have ek := (iN_inj (by omega) (by omega)).mp ek
              subst ek
              show f_X4_average_l4_3 (51 + 2 * r) G (f + 1) s (iN k) = f_X4_average_l4_3 (51 + 2 * r) G f _ (iN (k + 1))
              conv => lhs; unfold f_X4_average_l4_3
              unfold f_X4_value
              simp (disch := omega) only [chk_t, beq_self_eq_true, nm_s, bj1_s, bj2_s, bj3_s, mo_1, mo_0, l_0, l_1, l_2, l_3, l_4, l_5, l_6, l_7, l_8, l_9, l_10, l_11, l_12, l_13, l_14, l_15, l_16, l_17, l_18, l_19, l_20, l_21, l_30, l_31, l_32, l_36, l_40, l_41, l_42, l_43, l_44, l_45, l_46, l_47, l_48, l_49, l_50, l_51, l_52, l_57, l_58, l_60, l_64, l_72, l_80, l_92, l_98, l_99, l_100, l_102, l_105, l_111, l_112, l_114, l_115, l_116, l_117, l_120, l_144, l_200, l_201, l_240, l_300, l_320, l_400, l_500, l_550, l_560, l_649, l_650, l_1000, l_1400, l_2000, l_4000, l_10000, iN_add, iN_sub, iN_mul, iN_le_t, iN_le_f, iN_lt_t, iN_lt_f, iN_eq_f, inb_iN, ix_iN, isZ_0, isZ_1, ↓reduceIte, eq_self, q1', kd_b ho, c2, ev]
          · intro f s
            show f_X4_average_l4_3 (51 + 2 * r) G (f + 1) s (iN z) = _
            unfold f_X4_average_l4_3
            simp (disch := omega) only [chk_t, beq_self_eq_true, nm_s, bj1_s, bj2_s, bj3_s, mo_1, mo_0, l_0, l_1, l_2, l_3, l_4, l_5, l_6, l_7, l_8, l_9, l_10, l_11, l_12, l_13, l_14, l_15, l_16, l_17, l_18, l_19, l_20, l_21, l_30, l_31, l_32, l_36, l_40, l_41, l_42, l_43, l_44, l_45, l_46, l_47, l_48, l_49, l_50, l_51, l_52, l_57, l_58, l_60, l_64, l_72, l_80, l_92, l_98, l_99, l_100, l_102, l_105, l_111, l_112, l_114, l_115, l_116, l_117, l_120, l_144, l_200, l_201, l_240, l_300, l_320, l_400, l_500, l_550, l_560, l_649, l_650, l_1000, l_1400, l_2000, l_4000, l_10000, iN_add, iN_sub, iN_mul, iN_le_t, iN_le_f, iN_lt_t, iN_lt_f, iN_eq_f, inb_iN, ix_iN, isZ_0, isZ_1, ↓reduceIte, eq_self, q1']
        have kM : ∀ H : G_, H.1 126 = G.1 126 → H.1 127 = G.1 127 → f_X8_mean_l44_7 (iN r) H FU 0 (iN 0) = some (sumL (fun i => (G.1 127 (40 * r + i)).toInt64) z) := by
          intro H h1 h2
          refine loop_sumL (fun n s v => f_X8_mean_l44_7 (iN r) H n s v) _ z ?_ ?_ (fu_lt (by omega))
          · intro f k s hk
            show f_X8_mean_l44_7 (iN r) H (f + 1) s (iN k) = f_X8_mean_l44_7 (iN r) H f _ (iN (k + 1))
            conv => lhs; unfold f_X8_mean_l44_7
            unfold f_X8_rowAt
            simp (disch := omega) only [chk_t, beq_self_eq_true, nm_s, bj1_s, bj2_s, bj3_s, mo_1, mo_0, l_0, l_1, l_2, l_3, l_4, l_5, l_6, l_7, l_8, l_9, l_10, l_11, l_12, l_13, l_14, l_15, l_16, l_17, l_18, l_19, l_20, l_21, l_30, l_31, l_32, l_36, l_40, l_41, l_42, l_43, l_44, l_45, l_46, l_47, l_48, l_49, l_50, l_51, l_52, l_57, l_58, l_60, l_64, l_72, l_80, l_92, l_98, l_99, l_100, l_102, l_105, l_111, l_112, l_114, l_115, l_116, l_117, l_120, l_144, l_200, l_201, l_240, l_300, l_320, l_400, l_500, l_550, l_560, l_649, l_650, l_1000, l_1400, l_2000, l_4000, l_10000, iN_add, iN_sub, iN_mul, iN_le_t, iN_le_f, iN_lt_t, iN_lt_f, iN_eq_f, inb_iN, ix_iN, isZ_0, isZ_1, ↓reduceIte, eq_self, h1, h2, q2]
          · intro f s
            show f_X8_mean_l44_7 (iN r) H (f + 1) s (iN z) = _
            unfold f_X8_mean_l44_7
            simp (disch := omega) only [chk_t, beq_self_eq_true, nm_s, bj1_s, bj2_s, bj3_s, mo_1, mo_0, l_0, l_1, l_2, l_3, l_4, l_5, l_6, l_7, l_8, l_9, l_10, l_11, l_12, l_13, l_14, l_15, l_16, l_17, l_18, l_19, l_20, l_21, l_30, l_31, l_32, l_36, l_40, l_41, l_42, l_43, l_44, l_45, l_46, l_47, l_48, l_49, l_50, l_51, l_52, l_57, l_58, l_60, l_64, l_72, l_80, l_92, l_98, l_99, l_100, l_102, l_105, l_111, l_112, l_114, l_115, l_116, l_117, l_120, l_144, l_200, l_201, l_240, l_300, l_320, l_400, l_500, l_550, l_560, l_649, l_650, l_1000, l_1400, l_2000, l_4000, l_10000, iN_add, iN_sub, iN_mul, iN_le_t, iN_le_f, iN_lt_t, iN_lt_f, iN_eq_f, inb_iN, ix_iN, isZ_0, isZ_1, ↓reduceIte, eq_self, h1, h2, q2]
        refine pOK_tell (x := iN 1) (y := ((sumL (fun i => (G.1 127 (40 * r + i)).toInt64) z) / (iN z).toInt64).toInt32) (G1 := G) (H := sI G 0 16 (((sumL (fun i => (G.1 127 (40 * r + i)).toInt64) z) / (iN z).toInt64).toInt32)) h ?_ cc_refl ?_ mf_refl
        · unfold f_X7_mean f_X4_average f_X7_told
          simp (disch := omega) only [chk_t, beq_self_eq_true, nm_s, bj1_s, bj2_s, bj3_s, mo_1, mo_0, l_0, l_1, l_2, l_3, l_4, l_5, l_6, l_7, l_8, l_9, l_10, l_11, l_12, l_13, l_14, l_15, l_16, l_17, l_18, l_19, l_20, l_21, l_30, l_31, l_32, l_36, l_40, l_41, l_42, l_43, l_44, l_45, l_46, l_47, l_48, l_49, l_50, l_51, l_52, l_57, l_58, l_60, l_64, l_72, l_80, l_92, l_98, l_99, l_100, l_102, l_105, l_111, l_112, l_114, l_115, l_116, l_117, l_120, l_144, l_200, l_201, l_240, l_300, l_320, l_400, l_500, l_550, l_560, l_649, l_650, l_1000, l_1400, l_2000, l_4000, l_10000, iN_add, iN_sub, iN_mul, iN_le_t, iN_le_f, iN_lt_t, iN_lt_f, iN_eq_f, inb_iN, ix_iN, isZ_0, isZ_1, ↓reduceIte, eq_self, c1, kd_b ho, rthere_t ho q1' hz, q1', kC, n64_ne]
        · have kM' := kM (sI G 0 16 (((sumL (fun i => (G.1 127 (40 * r + i)).toInt64) z) / (iN z).toInt64).toInt32)) (sI_p (by omega)) (sI_p (by omega))
          unfold f_X8_mean f_X8_tells
          simp (disch := omega) only [chk_t, beq_self_eq_true, nm_s, bj1_s, bj2_s, bj3_s, mo_1, mo_0, l_0, l_1, l_2, l_3, l_4, l_5, l_6, l_7, l_8, l_9, l_10, l_11, l_12, l_13, l_14, l_15, l_16, l_17, l_18, l_19, l_20, l_21, l_30, l_31, l_32, l_36, l_40, l_41, l_42, l_43, l_44, l_45, l_46, l_47, l_48, l_49, l_50, l_51, l_52, l_57, l_58, l_60, l_64, l_72, l_80, l_92, l_98, l_99, l_100, l_102, l_105, l_111, l_112, l_114, l_115, l_116, l_117, l_120, l_144, l_200, l_201, l_240, l_300, l_320, l_400, l_500, l_550, l_560, l_649, l_650, l_1000, l_1400, l_2000, l_4000, l_10000, iN_add, iN_sub, iN_mul, iN_le_t, iN_le_f, iN_lt_t, iN_lt_f, iN_eq_f, inb_iN, ix_iN, isZ_0, isZ_1, ↓reduceIte, eq_self, row8, e1, sI_p, q2, kM', n64_ne]
theorem tbegin_ok {o z : Nat} {G : G_} (ho : kd o = 6) (h40 : z ≤ 80) : ∃ G', f_X6_begin o (iN z) G = some G' ∧ G'.1 o 1 = iN z ∧ (∀ i, i < 80 → G'.1 (o + 1) i = (iN 32).toInt8.toInt32) ∧ (∀ q, q ≠ o → q ≠ o + 1 → G'.1 q = G.1 q) ∧ G'.2 = G.2 := by
  have hL : ∃ A, f_X6_begin_l19_4 o FU (iN 0) (sI G o 1 (iN z)) = some A ∧ A.1 o 1 = iN z ∧ (∀ i, i < 80 → A.1 (o + 1) i = (iN 32).toInt8.toInt32) ∧ (∀ q, q ≠ o → q ≠ o + 1 → A.1 q = G.1 q) ∧ A.2 = G.2 := by
    refine loop_h (fun n v s => f_X6_begin_l19_4 o n v s) (fun j A => A.1 o 1 = iN z ∧ (∀ i, i < j → A.1 (o + 1) i = (iN 32).toInt8.toInt32) ∧ (∀ q, q ≠ o → q ≠ o + 1 → A.1 q = G.1 q) ∧ A.2 = G.2) _ 0 80 ?_ ?_ (by omega) (n := FU) (fu_lt (by omega)) ⟨sI_eq, fun i h => by omega, fun q h1 h2 => by rw [sI_p h1], rfl⟩
    · intro f j A h3 h4 ⟨i0, i1, i2, i3⟩
      refine ⟨sI A (o + 1) j ((iN 32).toInt8.toInt32), ⟨by rw [sI_p (by omega)]; exact i0, fun i h5 => ?_, fun q h1 h2 => by rw [sI_p h2]; exact i2 q h1 h2, i3⟩, ?_⟩
      · by_cases c : i = j
        · subst c; exact sI_eq
        · rw [sI_j c]; exact i1 i (by omega)
      · show f_X6_begin_l19_4 o (f + 1) (iN j) A = _
        conv => lhs; unfold f_X6_begin_l19_4
        simp (disch := omega) only [chk_t, beq_self_eq_true, nm_s, bj1_s, bj2_s, bj3_s, mo_1, mo_0, l_0, l_1, l_2, l_3, l_4, l_5, l_6, l_7, l_8, l_9, l_10, l_11, l_12, l_13, l_14, l_15, l_16, l_17, l_18, l_19, l_20, l_21, l_30, l_31, l_32, l_36, l_40, l_41, l_42, l_43, l_44, l_45, l_46, l_47, l_48, l_49, l_50, l_51, l_52, l_57, l_58, l_60, l_64, l_72, l_80, l_92, l_98, l_99, l_100, l_102, l_105, l_111, l_112, l_114, l_115, l_116, l_117, l_120, l_144, l_200, l_201, l_240, l_300, l_320, l_400, l_500, l_550, l_560, l_649, l_650, l_1000, l_1400, l_2000, l_4000, l_10000, iN_add, iN_sub, iN_mul, iN_le_t, iN_le_f, iN_lt_t, iN_lt_f, iN_eq_f, inb_iN, ix_iN, isZ_0, isZ_1, ↓reduceIte, eq_self]
    · intro f A hI
      refine ⟨A, ?_, hI⟩
      show f_X6_begin_l19_4 o (f + 1) (iN 80) A = _
      unfold f_X6_begin_l19_4
      simp (disch := omega) only [chk_t, beq_self_eq_true, nm_s, bj1_s, bj2_s, bj3_s, mo_1, mo_0, l_0, l_1, l_2, l_3, l_4, l_5, l_6, l_7, l_8, l_9, l_10, l_11, l_12, l_13, l_14, l_15, l_16, l_17, l_18, l_19, l_20, l_21, l_30, l_31, l_32, l_36, l_40, l_41, l_42, l_43, l_44, l_45, l_46, l_47, l_48, l_49, l_50, l_51, l_52, l_57, l_58, l_60, l_64, l_72, l_80, l_92, l_98, l_99, l_100, l_102, l_105, l_111, l_112, l_114, l_115, l_116, l_117, l_120, l_144, l_200, l_201, l_240, l_300, l_320, l_400, l_500, l_550, l_560, l_649, l_650, l_1000, l_1400, l_2000, l_4000, l_10000, iN_add, iN_sub, iN_mul, iN_le_t, iN_le_f, iN_lt_t, iN_lt_f, iN_eq_f, inb_iN, ix_iN, isZ_0, isZ_1, ↓reduceIte, eq_self]
  obtain ⟨A, hA, r⟩ := hL
  refine ⟨A, ?_, r⟩
  unfold f_X6_begin
  simp (disch := omega) only [chk_t, beq_self_eq_true, nm_s, bj1_s, bj2_s, bj3_s, mo_1, mo_0, l_0, l_1, l_2, l_3, l_4, l_5, l_6, l_7, l_8, l_9, l_10, l_11, l_12, l_13, l_14, l_15, l_16, l_17, l_18, l_19, l_20, l_21, l_30, l_31, l_32, l_36, l_40, l_41, l_42, l_43, l_44, l_45, l_46, l_47, l_48, l_49, l_50, l_51, l_52, l_57, l_58, l_60, l_64, l_72, l_80, l_92, l_98, l_99, l_100, l_102, l_105, l_111, l_112, l_114, l_115, l_116, l_117, l_120, l_144, l_200, l_201, l_240, l_300, l_320, l_400, l_500, l_550, l_560, l_649, l_650, l_1000, l_1400, l_2000, l_4000, l_10000, iN_add, iN_sub, iN_mul, iN_le_t, iN_le_f, iN_lt_t, iN_lt_f, iN_eq_f, inb_iN, ix_iN, isZ_0, isZ_1, ↓reduceIte, eq_self, kd_b ho, clamp0, hA]
theorem mtext_ok {r : Nat} {x : Int32} {G : G_} (hr : r < 4) : ∃ G', f_X8_text_l34_7 (iN r) x FU (iN 0) G = some G' ∧ (∀ i, i < 80 → G'.1 130 (80 * r + i) = (iN 32).toInt8.toInt32) ∧ (∀ j, j < 80 * r ∨ 80 * r + 80 ≤ j → G'.1 130 j = G.1 130 j) ∧ (∀ q, q ≠ 130 → G'.1 q = G.1 q) ∧ G'.2 = G.2 := by
  refine loop_h (fun n v s => f_X8_text_l34_7 (iN r) x n v s) (fun k A => (∀ i, i < k → A.1 130 (80 * r + i) = (iN 32).toInt8.toInt32) ∧ (∀ j, j < 80 * r ∨ 80 * r + 80 ≤ j → A.1 130 j = G.1 130 j) ∧ (∀ q, q ≠ 130 → A.1 q = G.1 q) ∧ A.2 = G.2) _ 0 80 ?_ ?_ (by omega) (n := FU) (fu_lt (by omega)) ⟨fun i h => by omega, fun _ _ => rfl, fun _ _ => rfl, rfl⟩
  · intro f k A h3 h4 ⟨i0, i1, i2, i3⟩
    refine ⟨sI A 130 (80 * r + k) ((iN 32).toInt8.toInt32), ⟨fun i h5 => ?_, fun j hj => by rw [sI_j (by omega)]; exact i1 j hj, fun q hq => by rw [sI_p hq]; exact i2 q hq, i3⟩, ?_⟩
    · by_cases c : i = k
      · subst c; exact sI_eq
      · rw [sI_j (by omega)]; exact i0 i (by omega)
    · show f_X8_text_l34_7 (iN r) x (f + 1) (iN k) A = _
      conv => lhs; unfold f_X8_text_l34_7
      simp (disch := omega) only [chk_t, beq_self_eq_true, nm_s, bj1_s, bj2_s, bj3_s, mo_1, mo_0, l_0, l_1, l_2, l_3, l_4, l_5, l_6, l_7, l_8, l_9, l_10, l_11, l_12, l_13, l_14, l_15, l_16, l_17, l_18, l_19, l_20, l_21, l_30, l_31, l_32, l_36, l_40, l_41, l_42, l_43, l_44, l_45, l_46, l_47, l_48, l_49, l_50, l_51, l_52, l_57, l_58, l_60, l_64, l_72, l_80, l_92, l_98, l_99, l_100, l_102, l_105, l_111, l_112, l_114, l_115, l_116, l_117, l_120, l_144, l_200, l_201, l_240, l_300, l_320, l_400, l_500, l_550, l_560, l_649, l_650, l_1000, l_1400, l_2000, l_4000, l_10000, iN_add, iN_sub, iN_mul, iN_le_t, iN_le_f, iN_lt_t, iN_lt_f, iN_eq_f, inb_iN, ix_iN, isZ_0, isZ_1, ↓reduceIte, eq_self]
  · intro f A hI
    refine ⟨A, ?_, hI⟩
    show f_X8_text_l34_7 (iN r) x (f + 1) (iN 80) A = _
    unfold f_X8_text_l34_7
    simp (disch := omega) only [chk_t, beq_self_eq_true, nm_s, bj1_s, bj2_s, bj3_s, mo_1, mo_0, l_0, l_1, l_2, l_3, l_4, l_5, l_6, l_7, l_8, l_9, l_10, l_11, l_12, l_13, l_14, l_15, l_16, l_17, l_18, l_19, l_20, l_21, l_30, l_31, l_32, l_36, l_40, l_41, l_42, l_43, l_44, l_45, l_46, l_47, l_48, l_49, l_50, l_51, l_52, l_57, l_58, l_60, l_64, l_72, l_80, l_92, l_98, l_99, l_100, l_102, l_105, l_111, l_112, l_114, l_115, l_116, l_117, l_120, l_144, l_200, l_201, l_240, l_300, l_320, l_400, l_500, l_550, l_560, l_649, l_650, l_1000, l_1400, l_2000, l_4000, l_10000, iN_add, iN_sub, iN_mul, iN_le_t, iN_le_f, iN_lt_t, iN_lt_f, iN_eq_f, inb_iN, ix_iN, isZ_0, isZ_1, ↓reduceIte, eq_self]
theorem op_text (a1 a2 : Int32) {G : G_} (h : RR G) : pOK (f_X7_text a1 a2) (f_X8_text a1 a2) G := by
  rcases text_cases a1 G with ⟨e1, c1⟩ | ⟨r, hr, rfl, e1, c1, ho⟩
  · refine pOK_same (x := -iN 1) h ?_ ?_
    · unfold f_X7_text
      simp (disch := omega) only [chk_t, beq_self_eq_true, nm_s, bj1_s, bj2_s, bj3_s, mo_1, mo_0, l_0, l_1, l_2, l_3, l_4, l_5, l_6, l_7, l_8, l_9, l_10, l_11, l_12, l_13, l_14, l_15, l_16, l_17, l_18, l_19, l_20, l_21, l_30, l_31, l_32, l_36, l_40, l_41, l_42, l_43, l_44, l_45, l_46, l_47, l_48, l_49, l_50, l_51, l_52, l_57, l_58, l_60, l_64, l_72, l_80, l_92, l_98, l_99, l_100, l_102, l_105, l_111, l_112, l_114, l_115, l_116, l_117, l_120, l_144, l_200, l_201, l_240, l_300, l_320, l_400, l_500, l_550, l_560, l_649, l_650, l_1000, l_1400, l_2000, l_4000, l_10000, iN_add, iN_sub, iN_mul, iN_le_t, iN_le_f, iN_lt_t, iN_lt_f, iN_eq_f, inb_iN, ix_iN, isZ_0, isZ_1, ↓reduceIte, eq_self, c1]
    · unfold f_X8_text
      simp (disch := omega) only [chk_t, beq_self_eq_true, nm_s, bj1_s, bj2_s, bj3_s, mo_1, mo_0, l_0, l_1, l_2, l_3, l_4, l_5, l_6, l_7, l_8, l_9, l_10, l_11, l_12, l_13, l_14, l_15, l_16, l_17, l_18, l_19, l_20, l_21, l_30, l_31, l_32, l_36, l_40, l_41, l_42, l_43, l_44, l_45, l_46, l_47, l_48, l_49, l_50, l_51, l_52, l_57, l_58, l_60, l_64, l_72, l_80, l_92, l_98, l_99, l_100, l_102, l_105, l_111, l_112, l_114, l_115, l_116, l_117, l_120, l_144, l_200, l_201, l_240, l_300, l_320, l_400, l_500, l_550, l_560, l_649, l_650, l_1000, l_1400, l_2000, l_4000, l_10000, iN_add, iN_sub, iN_mul, iN_le_t, iN_le_f, iN_lt_t, iN_lt_f, iN_eq_f, inb_iN, ix_iN, isZ_0, isZ_1, ↓reduceIte, eq_self, text8, e1]
  · by_cases c2 : a2 ≤ iN 80
    · by_cases c3 : iN 0 ≤ a2
      · have c0 : 0 ≤ a2.toInt := by have := t_le.mp c3; rw [li (by omega)] at this; omega
        have c40 : a2.toInt ≤ 80 := by have := t_le.mp c2; rw [li (by omega)] at this; omega
        have ez := iN_ex c0
        have hz : ix a2 ≤ 80 := by have := ix_t c0; omega
        generalize ix a2 = z at *
        subst ez
        obtain ⟨A, hA, a0, a1, a3, a4⟩ := tbegin_ok (o := 63 + 2 * r) (G := G) ho hz
        obtain ⟨B, hB, b0, b1, b2, b3⟩ := mtext_ok (r := r) (x := iN z) (G := sI A 129 r (iN z)) hr
        refine ⟨iN z, A, B, ?_, ?_, ?_⟩
        · unfold f_X7_text
          simp (disch := omega) only [chk_t, beq_self_eq_true, nm_s, bj1_s, bj2_s, bj3_s, mo_1, mo_0, l_0, l_1, l_2, l_3, l_4, l_5, l_6, l_7, l_8, l_9, l_10, l_11, l_12, l_13, l_14, l_15, l_16, l_17, l_18, l_19, l_20, l_21, l_30, l_31, l_32, l_36, l_40, l_41, l_42, l_43, l_44, l_45, l_46, l_47, l_48, l_49, l_50, l_51, l_52, l_57, l_58, l_60, l_64, l_72, l_80, l_92, l_98, l_99, l_100, l_102, l_105, l_111, l_112, l_114, l_115, l_116, l_117, l_120, l_144, l_200, l_201, l_240, l_300, l_320, l_400, l_500, l_550, l_560, l_649, l_650, l_1000, l_1400, l_2000, l_4000, l_10000, iN_add, iN_sub, iN_mul, iN_le_t, iN_le_f, iN_lt_t, iN_lt_f, iN_eq_f, inb_iN, ix_iN, isZ_0, isZ_1, ↓reduceIte, eq_self, c1, kd_b ho, hA]
        · unfold f_X8_text
          simp (disch := omega) only [chk_t, beq_self_eq_true, nm_s, bj1_s, bj2_s, bj3_s, mo_1, mo_0, l_0, l_1, l_2, l_3, l_4, l_5, l_6, l_7, l_8, l_9, l_10, l_11, l_12, l_13, l_14, l_15, l_16, l_17, l_18, l_19, l_20, l_21, l_30, l_31, l_32, l_36, l_40, l_41, l_42, l_43, l_44, l_45, l_46, l_47, l_48, l_49, l_50, l_51, l_52, l_57, l_58, l_60, l_64, l_72, l_80, l_92, l_98, l_99, l_100, l_102, l_105, l_111, l_112, l_114, l_115, l_116, l_117, l_120, l_144, l_200, l_201, l_240, l_300, l_320, l_400, l_500, l_550, l_560, l_649, l_650, l_1000, l_1400, l_2000, l_4000, l_10000, iN_add, iN_sub, iN_mul, iN_le_t, iN_le_f, iN_lt_t, iN_lt_f, iN_eq_f, inb_iN, ix_iN, isZ_0, isZ_1, ↓reduceIte, eq_self, text8, e1, hB]
        · have eB : ∀ q, q ≠ 129 → q ≠ 130 → q ≠ 63 + 2 * r → q ≠ 63 + 2 * r + 1 → B.1 q = G.1 q := fun q q1 q2 q3 q4 => by rw [b2 q q2, sI_p q1, a3 q q3 q4]
          refine RR_2 h ?_ (fun q hq => eB q (by omega) (by omega) (by omega) (by omega)) (by rw [eB 0 (by omega) (by omega) (by omega) (by omega)]) (by rw [eB 124 (by omega) (by omega) (by omega) (by omega)]) (b3.trans a4) (by rw [eB 0 (by omega) (by omega) (by omega) (by omega), eB 124 (by omega) (by omega) (by omega) (by omega)]; exact h.2)
          intro s hs
          by_cases c : s = r
          · subst c
            refine ⟨?_, Or.inr ⟨z, hz, ?_⟩, fun i hi => ?_⟩
            · rw [b2 _ (by omega), b2 _ (by omega), sI_p (by omega), sI_eq]; exact a0
            · rw [b2 _ (by omega), sI_eq]
            · rw [b2 _ (by omega), b0 i hi, sI_p (by omega), show 64 + 2 * s = 63 + 2 * s + 1 by omega]; exact a1 i hi
          · have hs' := h.1.2.1 s hs
            refine ⟨?_, ?_, fun i hi => ?_⟩
            · rw [eB _ (by omega) (by omega) (by omega) (by omega), b2 129 (by omega), sI_j c, a3 129 (by omega) (by omega)]; exact hs'.1
            · rw [b2 129 (by omega), sI_j c, a3 129 (by omega) (by omega)]; exact hs'.2.1
            · rw [eB _ (by omega) (by omega) (by omega) (by omega), b1 _ (by omega), sI_p (by omega), a3 130 (by omega) (by omega)]; exact hs'.2.2 i hi
      · refine pOK_found (f := 5) (by omega) h ?_ ?_
        · unfold f_X7_text
          simp (disch := omega) only [chk_t, beq_self_eq_true, nm_s, bj1_s, bj2_s, bj3_s, mo_1, mo_0, l_0, l_1, l_2, l_3, l_4, l_5, l_6, l_7, l_8, l_9, l_10, l_11, l_12, l_13, l_14, l_15, l_16, l_17, l_18, l_19, l_20, l_21, l_30, l_31, l_32, l_36, l_40, l_41, l_42, l_43, l_44, l_45, l_46, l_47, l_48, l_49, l_50, l_51, l_52, l_57, l_58, l_60, l_64, l_72, l_80, l_92, l_98, l_99, l_100, l_102, l_105, l_111, l_112, l_114, l_115, l_116, l_117, l_120, l_144, l_200, l_201, l_240, l_300, l_320, l_400, l_500, l_550, l_560, l_649, l_650, l_1000, l_1400, l_2000, l_4000, l_10000, iN_add, iN_sub, iN_mul, iN_le_t, iN_le_f, iN_lt_t, iN_lt_f, iN_eq_f, inb_iN, ix_iN, isZ_0, isZ_1, ↓reduceIte, eq_self, c1, kd_b ho, if_pos c2, if_neg c3, found_ok]
        · unfold f_X8_text
          simp (disch := omega) only [chk_t, beq_self_eq_true, nm_s, bj1_s, bj2_s, bj3_s, mo_1, mo_0, l_0, l_1, l_2, l_3, l_4, l_5, l_6, l_7, l_8, l_9, l_10, l_11, l_12, l_13, l_14, l_15, l_16, l_17, l_18, l_19, l_20, l_21, l_30, l_31, l_32, l_36, l_40, l_41, l_42, l_43, l_44, l_45, l_46, l_47, l_48, l_49, l_50, l_51, l_52, l_57, l_58, l_60, l_64, l_72, l_80, l_92, l_98, l_99, l_100, l_102, l_105, l_111, l_112, l_114, l_115, l_116, l_117, l_120, l_144, l_200, l_201, l_240, l_300, l_320, l_400, l_500, l_550, l_560, l_649, l_650, l_1000, l_1400, l_2000, l_4000, l_10000, iN_add, iN_sub, iN_mul, iN_le_t, iN_le_f, iN_lt_t, iN_lt_f, iN_eq_f, inb_iN, ix_iN, isZ_0, isZ_1, ↓reduceIte, eq_self, text8, e1, if_pos c2, if_neg c3, meets_ok]
    · refine pOK_same (x := -iN 1) h ?_ ?_
      · unfold f_X7_text
        simp (disch := omega) only [chk_t, beq_self_eq_true, nm_s, bj1_s, bj2_s, bj3_s, mo_1, mo_0, l_0, l_1, l_2, l_3, l_4, l_5, l_6, l_7, l_8, l_9, l_10, l_11, l_12, l_13, l_14, l_15, l_16, l_17, l_18, l_19, l_20, l_21, l_30, l_31, l_32, l_36, l_40, l_41, l_42, l_43, l_44, l_45, l_46, l_47, l_48, l_49, l_50, l_51, l_52, l_57, l_58, l_60, l_64, l_72, l_80, l_92, l_98, l_99, l_100, l_102, l_105, l_111, l_112, l_114, l_115, l_116, l_117, l_120, l_144, l_200, l_201, l_240, l_300, l_320, l_400, l_500, l_550, l_560, l_649, l_650, l_1000, l_1400, l_2000, l_4000, l_10000, iN_add, iN_sub, iN_mul, iN_le_t, iN_le_f, iN_lt_t, iN_lt_f, iN_eq_f, inb_iN, ix_iN, isZ_0, isZ_1, ↓reduceIte, eq_self, c1, kd_b ho, if_neg c2]
      · unfold f_X8_text
        simp (disch := omega) only [chk_t, beq_self_eq_true, nm_s, bj1_s, bj2_s, bj3_s, mo_1, mo_0, l_0, l_1, l_2, l_3, l_4, l_5, l_6, l_7, l_8, l_9, l_10, l_11, l_12, l_13, l_14, l_15, l_16, l_17, l_18, l_19, l_20, l_21, l_30, l_31, l_32, l_36, l_40, l_41, l_42, l_43, l_44, l_45, l_46, l_47, l_48, l_49, l_50, l_51, l_52, l_57, l_58, l_60, l_64, l_72, l_80, l_92, l_98, l_99, l_100, l_102, l_105, l_111, l_112, l_114, l_115, l_116, l_117, l_120, l_144, l_200, l_201, l_240, l_300, l_320, l_400, l_500, l_550, l_560, l_649, l_650, l_1000, l_1400, l_2000, l_4000, l_10000, iN_add, iN_sub, iN_mul, iN_le_t, iN_le_f, iN_lt_t, iN_lt_f, iN_eq_f, inb_iN, ix_iN, isZ_0, isZ_1, ↓reduceIte, eq_self, text8, e1, if_neg c2]
theorem op_put (a1 a2 a3 : Int32) {G : G_} (h : RR G) : pOK (f_X7_put a1 a2 a3) (f_X8_put a1 a2 a3) G := by
  rcases text_cases a1 G with ⟨e1, c1⟩ | ⟨r, hr, rfl, e1, c1, ho⟩
  · refine pOK_same (x := -iN 1) h ?_ ?_
    · unfold f_X7_put
      simp (disch := omega) only [chk_t, beq_self_eq_true, nm_s, bj1_s, bj2_s, bj3_s, mo_1, mo_0, l_0, l_1, l_2, l_3, l_4, l_5, l_6, l_7, l_8, l_9, l_10, l_11, l_12, l_13, l_14, l_15, l_16, l_17, l_18, l_19, l_20, l_21, l_30, l_31, l_32, l_36, l_40, l_41, l_42, l_43, l_44, l_45, l_46, l_47, l_48, l_49, l_50, l_51, l_52, l_57, l_58, l_60, l_64, l_72, l_80, l_92, l_98, l_99, l_100, l_102, l_105, l_111, l_112, l_114, l_115, l_116, l_117, l_120, l_144, l_200, l_201, l_240, l_300, l_320, l_400, l_500, l_550, l_560, l_649, l_650, l_1000, l_1400, l_2000, l_4000, l_10000, iN_add, iN_sub, iN_mul, iN_le_t, iN_le_f, iN_lt_t, iN_lt_f, iN_eq_f, inb_iN, ix_iN, isZ_0, isZ_1, ↓reduceIte, eq_self, c1]
    · unfold f_X8_put
      simp (disch := omega) only [chk_t, beq_self_eq_true, nm_s, bj1_s, bj2_s, bj3_s, mo_1, mo_0, l_0, l_1, l_2, l_3, l_4, l_5, l_6, l_7, l_8, l_9, l_10, l_11, l_12, l_13, l_14, l_15, l_16, l_17, l_18, l_19, l_20, l_21, l_30, l_31, l_32, l_36, l_40, l_41, l_42, l_43, l_44, l_45, l_46, l_47, l_48, l_49, l_50, l_51, l_52, l_57, l_58, l_60, l_64, l_72, l_80, l_92, l_98, l_99, l_100, l_102, l_105, l_111, l_112, l_114, l_115, l_116, l_117, l_120, l_144, l_200, l_201, l_240, l_300, l_320, l_400, l_500, l_550, l_560, l_649, l_650, l_1000, l_1400, l_2000, l_4000, l_10000, iN_add, iN_sub, iN_mul, iN_le_t, iN_le_f, iN_lt_t, iN_lt_f, iN_eq_f, inb_iN, ix_iN, isZ_0, isZ_1, ↓reduceIte, eq_self, text8, e1]
  · obtain ⟨q1, q2, q3⟩ := h.1.2.1 r hr
    rcases q2 with q2 | ⟨z, hz, q2⟩
    · have q1' := q1.trans q2
      refine pOK_found (f := 1) (by omega) h ?_ ?_
      · unfold f_X7_put
        simp (disch := omega) only [chk_t, beq_self_eq_true, nm_s, bj1_s, bj2_s, bj3_s, mo_1, mo_0, l_0, l_1, l_2, l_3, l_4, l_5, l_6, l_7, l_8, l_9, l_10, l_11, l_12, l_13, l_14, l_15, l_16, l_17, l_18, l_19, l_20, l_21, l_30, l_31, l_32, l_36, l_40, l_41, l_42, l_43, l_44, l_45, l_46, l_47, l_48, l_49, l_50, l_51, l_52, l_57, l_58, l_60, l_64, l_72, l_80, l_92, l_98, l_99, l_100, l_102, l_105, l_111, l_112, l_114, l_115, l_116, l_117, l_120, l_144, l_200, l_201, l_240, l_300, l_320, l_400, l_500, l_550, l_560, l_649, l_650, l_1000, l_1400, l_2000, l_4000, l_10000, iN_add, iN_sub, iN_mul, iN_le_t, iN_le_f, iN_lt_t, iN_lt_f, iN_eq_f, inb_iN, ix_iN, isZ_0, isZ_1, ↓reduceIte, eq_self, c1, kd_b ho, tthere_f ho q1', found_ok]
      · unfold f_X8_put
        simp (disch := omega) only [chk_t, beq_self_eq_true, nm_s, bj1_s, bj2_s, bj3_s, mo_1, mo_0, l_0, l_1, l_2, l_3, l_4, l_5, l_6, l_7, l_8, l_9, l_10, l_11, l_12, l_13, l_14, l_15, l_16, l_17, l_18, l_19, l_20, l_21, l_30, l_31, l_32, l_36, l_40, l_41, l_42, l_43, l_44, l_45, l_46, l_47, l_48, l_49, l_50, l_51, l_52, l_57, l_58, l_60, l_64, l_72, l_80, l_92, l_98, l_99, l_100, l_102, l_105, l_111, l_112, l_114, l_115, l_116, l_117, l_120, l_144, l_200, l_201, l_240, l_300, l_320, l_400, l_500, l_550, l_560, l_649, l_650, l_1000, l_1400, l_2000, l_4000, l_10000, iN_add, iN_sub, iN_mul, iN_le_t, iN_le_f, iN_lt_t, iN_lt_f, iN_eq_f, inb_iN, ix_iN, isZ_0, isZ_1, ↓reduceIte, eq_self, text8, e1, fndC_o, q2, le_m1, meets_ok]
    · have q1' := q1.trans q2
      rcases thas_cases ho q1' hz a2 with ⟨c2, c3⟩ | ⟨k, hk, rfl, c2, c3⟩
      · refine pOK_found (f := 2) (by omega) h ?_ ?_
        · unfold f_X7_put
          simp (disch := omega) only [chk_t, beq_self_eq_true, nm_s, bj1_s, bj2_s, bj3_s, mo_1, mo_0, l_0, l_1, l_2, l_3, l_4, l_5, l_6, l_7, l_8, l_9, l_10, l_11, l_12, l_13, l_14, l_15, l_16, l_17, l_18, l_19, l_20, l_21, l_30, l_31, l_32, l_36, l_40, l_41, l_42, l_43, l_44, l_45, l_46, l_47, l_48, l_49, l_50, l_51, l_52, l_57, l_58, l_60, l_64, l_72, l_80, l_92, l_98, l_99, l_100, l_102, l_105, l_111, l_112, l_114, l_115, l_116, l_117, l_120, l_144, l_200, l_201, l_240, l_300, l_320, l_400, l_500, l_550, l_560, l_649, l_650, l_1000, l_1400, l_2000, l_4000, l_10000, iN_add, iN_sub, iN_mul, iN_le_t, iN_le_f, iN_lt_t, iN_lt_f, iN_eq_f, inb_iN, ix_iN, isZ_0, isZ_1, ↓reduceIte, eq_self, c1, kd_b ho, tthere_t ho q1' hz, c2, found_ok]
        · unfold f_X8_put
          simp (disch := omega) only [chk_t, beq_self_eq_true, nm_s, bj1_s, bj2_s, bj3_s, mo_1, mo_0, l_0, l_1, l_2, l_3, l_4, l_5, l_6, l_7, l_8, l_9, l_10, l_11, l_12, l_13, l_14, l_15, l_16, l_17, l_18, l_19, l_20, l_21, l_30, l_31, l_32, l_36, l_40, l_41, l_42, l_43, l_44, l_45, l_46, l_47, l_48, l_49, l_50, l_51, l_52, l_57, l_58, l_60, l_64, l_72, l_80, l_92, l_98, l_99, l_100, l_102, l_105, l_111, l_112, l_114, l_115, l_116, l_117, l_120, l_144, l_200, l_201, l_240, l_300, l_320, l_400, l_500, l_550, l_560, l_649, l_650, l_1000, l_1400, l_2000, l_4000, l_10000, iN_add, iN_sub, iN_mul, iN_le_t, iN_le_f, iN_lt_t, iN_lt_f, iN_eq_f, inb_iN, ix_iN, isZ_0, isZ_1, ↓reduceIte, eq_self, text8, e1, fndC_o, q2, in8, c3, meets_ok]
      · have ev : G.1 (63 + 2 * r + 1) k = G.1 130 (80 * r + k) := by
          rw [show 63 + 2 * r + 1 = 64 + 2 * r by omega]
          exact q3 k (by omega)
        refine ⟨G.1 130 (80 * r + k) + iN 1000, sI G (63 + 2 * r + 1) k (a3.toInt8.toInt32.toInt8.toInt32), sI (sI G (63 + 2 * r + 1) k (a3.toInt8.toInt32.toInt8.toInt32)) 130 (80 * r + k) (a3.toInt8.toInt32.toInt8.toInt32), ?_, ?_, ?_⟩
        · unfold f_X7_put f_X6_value f_X6_set
          simp (disch := omega) only [chk_t, beq_self_eq_true, nm_s, bj1_s, bj2_s, bj3_s, mo_1, mo_0, l_0, l_1, l_2, l_3, l_4, l_5, l_6, l_7, l_8, l_9, l_10, l_11, l_12, l_13, l_14, l_15, l_16, l_17, l_18, l_19, l_20, l_21, l_30, l_31, l_32, l_36, l_40, l_41, l_42, l_43, l_44, l_45, l_46, l_47, l_48, l_49, l_50, l_51, l_52, l_57, l_58, l_60, l_64, l_72, l_80, l_92, l_98, l_99, l_100, l_102, l_105, l_111, l_112, l_114, l_115, l_116, l_117, l_120, l_144, l_200, l_201, l_240, l_300, l_320, l_400, l_500, l_550, l_560, l_649, l_650, l_1000, l_1400, l_2000, l_4000, l_10000, iN_add, iN_sub, iN_mul, iN_le_t, iN_le_f, iN_lt_t, iN_lt_f, iN_eq_f, inb_iN, ix_iN, isZ_0, isZ_1, ↓reduceIte, eq_self, c1, kd_b ho, tthere_t ho q1' hz, c2, ev]
        · unfold f_X8_put
          simp (disch := omega) only [chk_t, beq_self_eq_true, nm_s, bj1_s, bj2_s, bj3_s, mo_1, mo_0, l_0, l_1, l_2, l_3, l_4, l_5, l_6, l_7, l_8, l_9, l_10, l_11, l_12, l_13, l_14, l_15, l_16, l_17, l_18, l_19, l_20, l_21, l_30, l_31, l_32, l_36, l_40, l_41, l_42, l_43, l_44, l_45, l_46, l_47, l_48, l_49, l_50, l_51, l_52, l_57, l_58, l_60, l_64, l_72, l_80, l_92, l_98, l_99, l_100, l_102, l_105, l_111, l_112, l_114, l_115, l_116, l_117, l_120, l_144, l_200, l_201, l_240, l_300, l_320, l_400, l_500, l_550, l_560, l_649, l_650, l_1000, l_1400, l_2000, l_4000, l_10000, iN_add, iN_sub, iN_mul, iN_le_t, iN_le_f, iN_lt_t, iN_lt_f, iN_eq_f, inb_iN, ix_iN, isZ_0, isZ_1, ↓reduceIte, eq_self, text8, e1, sI_p, q2, in8, inS_t, Int32.add_comm (iN 1000) (G.1 130 (80 * r + k))]
        · rw [show 63 + 2 * r + 1 = 64 + 2 * r by omega]
          refine RR_2 h ?_ (fun q hq => by rw [sI_p (by omega), sI_p (by omega)]) (by rw [sI_p (by omega), sI_p (by omega)]) (by rw [sI_p (by omega), sI_p (by omega)]) rfl (by rw [sI_p (by omega), sI_p (by omega), sI_p (by omega), sI_p (by omega)]; exact h.2)
          intro s hs
          have hs' := h.1.2.1 s hs
          refine ⟨?_, ?_, fun i hi => ?_⟩
          · simp (disch := omega) only [chk_t, beq_self_eq_true, nm_s, bj1_s, bj2_s, bj3_s, mo_1, mo_0, l_0, l_1, l_2, l_3, l_4, l_5, l_6, l_7, l_8, l_9, l_10, l_11, l_12, l_13, l_14, l_15, l_16, l_17, l_18, l_19, l_20, l_21, l_30, l_31, l_32, l_36, l_40, l_41, l_42, l_43, l_44, l_45, l_46, l_47, l_48, l_49, l_50, l_51, l_52, l_57, l_58, l_60, l_64, l_72, l_80, l_92, l_98, l_99, l_100, l_102, l_105, l_111, l_112, l_114, l_115, l_116, l_117, l_120, l_144, l_200, l_201, l_240, l_300, l_320, l_400, l_500, l_550, l_560, l_649, l_650, l_1000, l_1400, l_2000, l_4000, l_10000, iN_add, iN_sub, iN_mul, iN_le_t, iN_le_f, iN_lt_t, iN_lt_f, iN_eq_f, inb_iN, ix_iN, isZ_0, isZ_1, ↓reduceIte, eq_self, sI_p]
            exact hs'.1
          · simp (disch := omega) only [chk_t, beq_self_eq_true, nm_s, bj1_s, bj2_s, bj3_s, mo_1, mo_0, l_0, l_1, l_2, l_3, l_4, l_5, l_6, l_7, l_8, l_9, l_10, l_11, l_12, l_13, l_14, l_15, l_16, l_17, l_18, l_19, l_20, l_21, l_30, l_31, l_32, l_36, l_40, l_41, l_42, l_43, l_44, l_45, l_46, l_47, l_48, l_49, l_50, l_51, l_52, l_57, l_58, l_60, l_64, l_72, l_80, l_92, l_98, l_99, l_100, l_102, l_105, l_111, l_112, l_114, l_115, l_116, l_117, l_120, l_144, l_200, l_201, l_240, l_300, l_320, l_400, l_500, l_550, l_560, l_649, l_650, l_1000, l_1400, l_2000, l_4000, l_10000, iN_add, iN_sub, iN_mul, iN_le_t, iN_le_f, iN_lt_t, iN_lt_f, iN_eq_f, inb_iN, ix_iN, isZ_0, isZ_1, ↓reduceIte, eq_self, sI_p]
            exact hs'.2.1
          · by_cases c : s = r
            · subst c
              by_cases c5 : i = k
              · subst c5
                simp (disch := omega) only [chk_t, beq_self_eq_true, nm_s, bj1_s, bj2_s, bj3_s, mo_1, mo_0, l_0, l_1, l_2, l_3, l_4, l_5, l_6, l_7, l_8, l_9, l_10, l_11, l_12, l_13, l_14, l_15, l_16, l_17, l_18, l_19, l_20, l_21, l_30, l_31, l_32, l_36, l_40, l_41, l_42, l_43, l_44, l_45, l_46, l_47, l_48, l_49, l_50, l_51, l_52, l_57, l_58, l_60, l_64, l_72, l_80, l_92, l_98, l_99, l_100, l_102, l_105, l_111, l_112, l_114, l_115, l_116, l_117, l_120, l_144, l_200, l_201, l_240, l_300, l_320, l_400, l_500, l_550, l_560, l_649, l_650, l_1000, l_1400, l_2000, l_4000, l_10000, iN_add, iN_sub, iN_mul, iN_le_t, iN_le_f, iN_lt_t, iN_lt_f, iN_eq_f, inb_iN, ix_iN, isZ_0, isZ_1, ↓reduceIte, eq_self, sI_p, sI_eq]
              · simp (disch := omega) only [chk_t, beq_self_eq_true, nm_s, bj1_s, bj2_s, bj3_s, mo_1, mo_0, l_0, l_1, l_2, l_3, l_4, l_5, l_6, l_7, l_8, l_9, l_10, l_11, l_12, l_13, l_14, l_15, l_16, l_17, l_18, l_19, l_20, l_21, l_30, l_31, l_32, l_36, l_40, l_41, l_42, l_43, l_44, l_45, l_46, l_47, l_48, l_49, l_50, l_51, l_52, l_57, l_58, l_60, l_64, l_72, l_80, l_92, l_98, l_99, l_100, l_102, l_105, l_111, l_112, l_114, l_115, l_116, l_117, l_120, l_144, l_200, l_201, l_240, l_300, l_320, l_400, l_500, l_550, l_560, l_649, l_650, l_1000, l_1400, l_2000, l_4000, l_10000, iN_add, iN_sub, iN_mul, iN_le_t, iN_le_f, iN_lt_t, iN_lt_f, iN_eq_f, inb_iN, ix_iN, isZ_0, isZ_1, ↓reduceIte, eq_self, sI_p, sI_j]
                exact hs'.2.2 i hi
            · simp (disch := omega) only [chk_t, beq_self_eq_true, nm_s, bj1_s, bj2_s, bj3_s, mo_1, mo_0, l_0, l_1, l_2, l_3, l_4, l_5, l_6, l_7, l_8, l_9, l_10, l_11, l_12, l_13, l_14, l_15, l_16, l_17, l_18, l_19, l_20, l_21, l_30, l_31, l_32, l_36, l_40, l_41, l_42, l_43, l_44, l_45, l_46, l_47, l_48, l_49, l_50, l_51, l_52, l_57, l_58, l_60, l_64, l_72, l_80, l_92, l_98, l_99, l_100, l_102, l_105, l_111, l_112, l_114, l_115, l_116, l_117, l_120, l_144, l_200, l_201, l_240, l_300, l_320, l_400, l_500, l_550, l_560, l_649, l_650, l_1000, l_1400, l_2000, l_4000, l_10000, iN_add, iN_sub, iN_mul, iN_le_t, iN_le_f, iN_lt_t, iN_lt_f, iN_eq_f, inb_iN, ix_iN, isZ_0, isZ_1, ↓reduceIte, eq_self, sI_p, sI_j]
              exact hs'.2.2 i hi

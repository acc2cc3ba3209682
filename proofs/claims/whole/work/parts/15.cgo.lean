/-! the class: a dish is begun, goes by a way, rests -/
def wetS (s : Int32) : Int32 := if iN 10 < s then (if iN 50 - s < iN 0 then iN 0 else iN 50 - s) else iN 20 + iN 2 * s
def bgS (X : Nat → Int32) : Nat → Int32 := fun p =>
  if p < 41 then X p else if p < 48 then iN 0 else if p < 50 then wetS (X 2) else if p < 52 then iN 0
  else if p < 72 then (if p < 52 + nD X then iN 10 * X 1 else iN 0) else if p < 92 then (if p < 72 + nD X then iN 10 * X 1 else iN 0) else if p < 112 then (if p < 92 + nD X then iN 100 else iN 0) else X p
theorem bg_lo {X : Nat → Int32} {p : Nat} (h : p < 41) : bgS X p = X p := if_pos h
theorem bg_41 {X : Nat → Int32} {p : Nat} (h : 41 ≤ p) (h2 : p < 48) : bgS X p = iN 0 := by
  unfold bgS
  rw [if_neg (by omega), if_pos h2]
theorem bg_wet {X : Nat → Int32} {p : Nat} (h : 48 ≤ p) (h2 : p < 50) : bgS X p = wetS (X 2) := by
  unfold bgS
  rw [if_neg (by omega), if_neg (by omega), if_pos h2]
theorem bg_50 {X : Nat → Int32} {p : Nat} (h : 50 ≤ p) (h2 : p < 52) : bgS X p = iN 0 := by
  unfold bgS
  rw [if_neg (by omega), if_neg (by omega), if_neg (by omega), if_pos h2]
theorem bg_w {X : Nat → Int32} {i : Nat} (h : i < nD X) (hn : nD X ≤ 20) : bgS X (52 + i) = iN 10 * X 1 := by
  unfold bgS
  rw [if_neg (by omega), if_neg (by omega), if_neg (by omega), if_neg (by omega), if_pos (by omega), if_pos (by omega)]
theorem bg_m {X : Nat → Int32} {i : Nat} (h : i < nD X) (hn : nD X ≤ 20) : bgS X (72 + i) = iN 10 * X 1 := by
  unfold bgS
  rw [if_neg (by omega), if_neg (by omega), if_neg (by omega), if_neg (by omega), if_neg (by omega), if_pos (by omega), if_pos (by omega)]
theorem bg_j {X : Nat → Int32} {i : Nat} (h : i < nD X) (hn : nD X ≤ 20) : bgS X (92 + i) = iN 100 := by
  unfold bgS
  rw [if_neg (by omega), if_neg (by omega), if_neg (by omega), if_neg (by omega), if_neg (by omega), if_neg (by omega), if_pos (by omega), if_pos (by omega)]
theorem bg_hi {X : Nat → Int32} {p : Nat} (h : 112 ≤ p) : bgS X p = X p := by
  unfold bgS
  rw [if_neg (by omega), if_neg (by omega), if_neg (by omega), if_neg (by omega), if_neg (by omega), if_neg (by omega), if_neg (by omega)]
/-- a slab by its row of numbers -/
def slR (X : Nat → Int32) (n : Nat) : Prop := okN X n ∧ 0 ≤ (X 1).toInt ∧ (X 1).toInt ≤ 40
def cSl (a : Nat) (X : Nat → Int32) (G : G_) : Prop := G.1 a 1 = X 0 ∧ G.1 a 2 = X 1 ∧ G.1 a 3 = X 2 ∧ G.1 a 4 = X 3
theorem wf_bg {X : Nat → Int32} {n : Nat} (h : slR X n) (hm : mD X ≤ 12) : wfD (bgS X) n := by
  obtain ⟨hn, h1, h2⟩ := h
  have h3 := hn.2
  have hnn := okN_n hn
  have e : (iN 10 * X 1).toInt = 10 * (X 1).toInt := by
    rw [t_mul (by rw [li (by omega)]; omega) (by rw [li (by omega)]; omega), li (by omega)]
    rfl
  have en : nD (bgS X) = n := by rw [nD_of (bg_lo (by omega))]; exact hnn
  refine ⟨okN_keep hn (bg_lo (by omega)), by rw [mD_of (bg_lo (by omega))]; exact hm, fun i hi => ?_, fun i hi => ?_⟩
  · rw [en] at hi
    rw [bg_w (by omega) (by omega), e]
    omega
  · rw [en] at hi
    rw [bg_j (by omega) (by omega), li (by omega)]
    omega
theorem clampN {n : Nat} (h : 3 ≤ n) (h2 : n ≤ 20) : mx (iN 3) (mn (iN n) (iN 20)) = iN n := by
  rw [t_eq, mx_t, mn_t, li (by omega), li (by omega), li (by omega)]
  split <;> (split <;> omega)
theorem begin_ok {o a n : Nat} {X : Nat → Int32} {G : G_} (ho : kd o = 0) (ha : kd a = 5) (hd : a < o ∨ o + 11 ≤ a) (hn : okN X n) (h1 : G.1 a 2 = X 1) (h3 : G.1 a 4 = X 3) (h4 : X 4 = iN 0) :
    ∃ G', f_X0_begin o a (iN n) (X 2) G = some G' ∧ cD o (bgS X) G' ∧ fr o G G' := by
  have h2 := hn.2
  have hnn := okN_n hn
  have hp : kd (o + 7) = 2 := sh_X0_plan ho
  have hL : ∀ H : G_, H.1 a 2 = X 1 → ∃ A, f_X0_begin_l30_6 o a (X 2) FU (iN 0) H = some A ∧ (∀ i, i < 20 → A.1 (o + 1) i = iN 10 * X 1 ∧ A.1 (o + 3) i = iN 10 * X 1 ∧ A.1 (o + 4) i = iN 100) ∧ (∀ p, p ≠ o + 1 → p ≠ o + 3 → p ≠ o + 4 → A.1 p = H.1 p) ∧ A.2 = H.2 := by
    intro H hH
    refine loop_h (fun n v s => f_X0_begin_l30_6 o a (X 2) n v s) (fun j G2 => (∀ i, i < j → G2.1 (o + 1) i = iN 10 * X 1 ∧ G2.1 (o + 3) i = iN 10 * X 1 ∧ G2.1 (o + 4) i = iN 100) ∧ (∀ p, p ≠ o + 1 → p ≠ o + 3 → p ≠ o + 4 → G2.1 p = H.1 p) ∧ G2.2 = H.2) _ 0 20 ?_ ?_ (by omega) (n := FU) (fu_lt (by omega)) ⟨fun i h => by omega, fun _ _ _ _ => rfl, rfl⟩
    · intro f j G2 h3 h4 ⟨i1, i2, i3⟩
      have r : G2.1 a 2 = X 1 := by rw [i2 a (by omega) (by omega) (by omega)]; exact hH
      refine ⟨sI (sI (sI G2 (o + 1) j (iN 10 * X 1)) (o + 3) j (iN 10 * X 1)) (o + 4) j (iN 100), ⟨fun i h5 => ?_, fun p hp1 hp2 hp3 => ?_, i3⟩, ?_⟩
      · by_cases c : i = j
        · subst c
          simp (disch := omega) only [chk_t, beq_self_eq_true, nm_s, bj1_s, bj2_s, bj3_s, mo_1, mo_0, l_0, l_1, l_2, l_3, l_4, l_5, l_6, l_7, l_8, l_9, l_10, l_11, l_12, l_13, l_14, l_15, l_16, l_17, l_18, l_19, l_20, l_21, l_30, l_31, l_32, l_36, l_40, l_41, l_42, l_43, l_44, l_45, l_46, l_47, l_48, l_49, l_50, l_51, l_52, l_57, l_58, l_60, l_64, l_72, l_80, l_92, l_98, l_99, l_100, l_102, l_105, l_111, l_112, l_114, l_115, l_116, l_117, l_120, l_144, l_200, l_201, l_240, l_300, l_320, l_400, l_500, l_550, l_560, l_649, l_650, l_1000, l_1400, l_2000, l_4000, l_10000, iN_add, iN_sub, iN_mul, iN_le_t, iN_le_f, iN_lt_t, iN_lt_f, iN_eq_f, inb_iN, ix_iN, isZ_0, isZ_1, ↓reduceIte, eq_self, sI_eq, sI_p, and_self]
        · simp (disch := omega) only [chk_t, beq_self_eq_true, nm_s, bj1_s, bj2_s, bj3_s, mo_1, mo_0, l_0, l_1, l_2, l_3, l_4, l_5, l_6, l_7, l_8, l_9, l_10, l_11, l_12, l_13, l_14, l_15, l_16, l_17, l_18, l_19, l_20, l_21, l_30, l_31, l_32, l_36, l_40, l_41, l_42, l_43, l_44, l_45, l_46, l_47, l_48, l_49, l_50, l_51, l_52, l_57, l_58, l_60, l_64, l_72, l_80, l_92, l_98, l_99, l_100, l_102, l_105, l_111, l_112, l_114, l_115, l_116, l_117, l_120, l_144, l_200, l_201, l_240, l_300, l_320, l_400, l_500, l_550, l_560, l_649, l_650, l_1000, l_1400, l_2000, l_4000, l_10000, iN_add, iN_sub, iN_mul, iN_le_t, iN_le_f, iN_lt_t, iN_lt_f, iN_eq_f, inb_iN, ix_iN, isZ_0, isZ_1, ↓reduceIte, eq_self, sI_j c, sI_p]
          exact i1 i (by omega)
      · rw [sI_p hp3, sI_p hp2, sI_p hp1]; exact i2 p hp1 hp2 hp3
      · show f_X0_begin_l30_6 o a (X 2) (f + 1) (iN j) G2 = _
        conv => lhs; unfold f_X0_begin_l30_6
        simp (disch := omega) only [chk_t, beq_self_eq_true, nm_s, bj1_s, bj2_s, bj3_s, mo_1, mo_0, l_0, l_1, l_2, l_3, l_4, l_5, l_6, l_7, l_8, l_9, l_10, l_11, l_12, l_13, l_14, l_15, l_16, l_17, l_18, l_19, l_20, l_21, l_30, l_31, l_32, l_36, l_40, l_41, l_42, l_43, l_44, l_45, l_46, l_47, l_48, l_49, l_50, l_51, l_52, l_57, l_58, l_60, l_64, l_72, l_80, l_92, l_98, l_99, l_100, l_102, l_105, l_111, l_112, l_114, l_115, l_116, l_117, l_120, l_144, l_200, l_201, l_240, l_300, l_320, l_400, l_500, l_550, l_560, l_649, l_650, l_1000, l_1400, l_2000, l_4000, l_10000, iN_add, iN_sub, iN_mul, iN_le_t, iN_le_f, iN_lt_t, iN_lt_f, iN_eq_f, inb_iN, ix_iN, isZ_0, isZ_1, ↓reduceIte, eq_self, r, sI_p]
    · intro f G2 ⟨i1, i2, i3⟩
      refine ⟨G2, ?_, i1, i2, i3⟩
      show f_X0_begin_l30_6 o a (X 2) (f + 1) (iN 20) G2 = _
      unfold f_X0_begin_l30_6
      simp (disch := omega) only [chk_t, beq_self_eq_true, nm_s, bj1_s, bj2_s, bj3_s, mo_1, mo_0, l_0, l_1, l_2, l_3, l_4, l_5, l_6, l_7, l_8, l_9, l_10, l_11, l_12, l_13, l_14, l_15, l_16, l_17, l_18, l_19, l_20, l_21, l_30, l_31, l_32, l_36, l_40, l_41, l_42, l_43, l_44, l_45, l_46, l_47, l_48, l_49, l_50, l_51, l_52, l_57, l_58, l_60, l_64, l_72, l_80, l_92, l_98, l_99, l_100, l_102, l_105, l_111, l_112, l_114, l_115, l_116, l_117, l_120, l_144, l_200, l_201, l_240, l_300, l_320, l_400, l_500, l_550, l_560, l_649, l_650, l_1000, l_1400, l_2000, l_4000, l_10000, iN_add, iN_sub, iN_mul, iN_le_t, iN_le_f, iN_lt_t, iN_lt_f, iN_eq_f, inb_iN, ix_iN, isZ_0, isZ_1, ↓reduceIte, eq_self]
  have hL2 : ∀ H : G_, ∃ B, f_X0_begin_l83_16 o (X 2) FU (iN 0) H = some B ∧ (∀ i, i < 2 → B.1 (o + 5) i = wetS (X 2) ∧ B.1 (o + 6) i = iN 0) ∧ (∀ p, p ≠ o + 5 → p ≠ o + 6 → B.1 p = H.1 p) ∧ B.2 = H.2 := by
    intro H
    refine loop_h (fun n v s => f_X0_begin_l83_16 o (X 2) n v s) (fun j G2 => (∀ i, i < j → G2.1 (o + 5) i = wetS (X 2) ∧ G2.1 (o + 6) i = iN 0) ∧ (∀ p, p ≠ o + 5 → p ≠ o + 6 → G2.1 p = H.1 p) ∧ G2.2 = H.2) _ 0 2 ?_ ?_ (by omega) (n := FU) (fu_lt (by omega)) ⟨fun i h => by omega, fun _ _ _ => rfl, rfl⟩
    · intro f j G2 h3 h4 ⟨i1, i2, i3⟩
      refine ⟨sI (sI G2 (o + 5) j (wetS (X 2))) (o + 6) j (iN 0), ⟨fun i h5 => ?_, fun p hp1 hp2 => ?_, i3⟩, ?_⟩
      · by_cases c : i = j
        · subst c
          simp (disch := omega) only [chk_t, beq_self_eq_true, nm_s, bj1_s, bj2_s, bj3_s, mo_1, mo_0, l_0, l_1, l_2, l_3, l_4, l_5, l_6, l_7, l_8, l_9, l_10, l_11, l_12, l_13, l_14, l_15, l_16, l_17, l_18, l_19, l_20, l_21, l_30, l_31, l_32, l_36, l_40, l_41, l_42, l_43, l_44, l_45, l_46, l_47, l_48, l_49, l_50, l_51, l_52, l_57, l_58, l_60, l_64, l_72, l_80, l_92, l_98, l_99, l_100, l_102, l_105, l_111, l_112, l_114, l_115, l_116, l_117, l_120, l_144, l_200, l_201, l_240, l_300, l_320, l_400, l_500, l_550, l_560, l_649, l_650, l_1000, l_1400, l_2000, l_4000, l_10000, iN_add, iN_sub, iN_mul, iN_le_t, iN_le_f, iN_lt_t, iN_lt_f, iN_eq_f, inb_iN, ix_iN, isZ_0, isZ_1, ↓reduceIte, eq_self, sI_eq, sI_p, and_self]
        · simp (disch := omega) only [chk_t, beq_self_eq_true, nm_s, bj1_s, bj2_s, bj3_s, mo_1, mo_0, l_0, l_1, l_2, l_3, l_4, l_5, l_6, l_7, l_8, l_9, l_10, l_11, l_12, l_13, l_14, l_15, l_16, l_17, l_18, l_19, l_20, l_21, l_30, l_31, l_32, l_36, l_40, l_41, l_42, l_43, l_44, l_45, l_46, l_47, l_48, l_49, l_50, l_51, l_52, l_57, l_58, l_60, l_64, l_72, l_80, l_92, l_98, l_99, l_100, l_102, l_105, l_111, l_112, l_114, l_115, l_116, l_117, l_120, l_144, l_200, l_201, l_240, l_300, l_320, l_400, l_500, l_550, l_560, l_649, l_650, l_1000, l_1400, l_2000, l_4000, l_10000, iN_add, iN_sub, iN_mul, iN_le_t, iN_le_f, iN_lt_t, iN_lt_f, iN_eq_f, inb_iN, ix_iN, isZ_0, isZ_1, ↓reduceIte, eq_self, sI_j c, sI_p]
          exact i1 i (by omega)
      · rw [sI_p hp2, sI_p hp1]; exact i2 p hp1 hp2
      · show f_X0_begin_l83_16 o (X 2) (f + 1) (iN j) G2 = _
        conv => lhs; unfold f_X0_begin_l83_16
        simp (disch := omega) only [chk_t, beq_self_eq_true, nm_s, bj1_s, bj2_s, bj3_s, mo_1, mo_0, l_0, l_1, l_2, l_3, l_4, l_5, l_6, l_7, l_8, l_9, l_10, l_11, l_12, l_13, l_14, l_15, l_16, l_17, l_18, l_19, l_20, l_21, l_30, l_31, l_32, l_36, l_40, l_41, l_42, l_43, l_44, l_45, l_46, l_47, l_48, l_49, l_50, l_51, l_52, l_57, l_58, l_60, l_64, l_72, l_80, l_92, l_98, l_99, l_100, l_102, l_105, l_111, l_112, l_114, l_115, l_116, l_117, l_120, l_144, l_200, l_201, l_240, l_300, l_320, l_400, l_500, l_550, l_560, l_649, l_650, l_1000, l_1400, l_2000, l_4000, l_10000, iN_add, iN_sub, iN_mul, iN_le_t, iN_le_f, iN_lt_t, iN_lt_f, iN_eq_f, inb_iN, ix_iN, isZ_0, isZ_1, ↓reduceIte, eq_self, ite_so, mx_0]
        rfl
    · intro f G2 ⟨i1, i2, i3⟩
      refine ⟨G2, ?_, i1, i2, i3⟩
      show f_X0_begin_l83_16 o (X 2) (f + 1) (iN 2) G2 = _
      unfold f_X0_begin_l83_16
      simp (disch := omega) only [chk_t, beq_self_eq_true, nm_s, bj1_s, bj2_s, bj3_s, mo_1, mo_0, l_0, l_1, l_2, l_3, l_4, l_5, l_6, l_7, l_8, l_9, l_10, l_11, l_12, l_13, l_14, l_15, l_16, l_17, l_18, l_19, l_20, l_21, l_30, l_31, l_32, l_36, l_40, l_41, l_42, l_43, l_44, l_45, l_46, l_47, l_48, l_49, l_50, l_51, l_52, l_57, l_58, l_60, l_64, l_72, l_80, l_92, l_98, l_99, l_100, l_102, l_105, l_111, l_112, l_114, l_115, l_116, l_117, l_120, l_144, l_200, l_201, l_240, l_300, l_320, l_400, l_500, l_550, l_560, l_649, l_650, l_1000, l_1400, l_2000, l_4000, l_10000, iN_add, iN_sub, iN_mul, iN_le_t, iN_le_f, iN_lt_t, iN_lt_f, iN_eq_f, inb_iN, ix_iN, isZ_0, isZ_1, ↓reduceIte, eq_self]
  obtain ⟨A, hA, a1, a2, a3⟩ := hL (sI (sI (sI G o 8 (iN n)) o 9 (X 2)) o 10 (X 3)) (by rw [sI_p (by omega), sI_p (by omega), sI_p (by omega)]; exact h1)
  obtain ⟨B, hB, b1, b2, b3⟩ := hL2 A
  refine ⟨sI (sI (sI (sI (sI (sI (sI (sI (sI B (o + 7) 3 (iN 1)) (o + 7) 4 (iN 0)) (o + 7) 5 (iN 0)) o 11 (iN 0)) o 12 (iN 0)) o 13 (iN 0)) o 14 (iN 0)) o 15 (iN 0)) o 16 (iN 0), ?_, ?_, ⟨⟨fun q hq => ?_, ?_⟩, ?_⟩⟩
  · unfold f_X0_begin f_X2_begin
    simp (disch := omega) only [chk_t, beq_self_eq_true, nm_s, bj1_s, bj2_s, bj3_s, mo_1, mo_0, l_0, l_1, l_2, l_3, l_4, l_5, l_6, l_7, l_8, l_9, l_10, l_11, l_12, l_13, l_14, l_15, l_16, l_17, l_18, l_19, l_20, l_21, l_30, l_31, l_32, l_36, l_40, l_41, l_42, l_43, l_44, l_45, l_46, l_47, l_48, l_49, l_50, l_51, l_52, l_57, l_58, l_60, l_64, l_72, l_80, l_92, l_98, l_99, l_100, l_102, l_105, l_111, l_112, l_114, l_115, l_116, l_117, l_120, l_144, l_200, l_201, l_240, l_300, l_320, l_400, l_500, l_550, l_560, l_649, l_650, l_1000, l_1400, l_2000, l_4000, l_10000, iN_add, iN_sub, iN_mul, iN_le_t, iN_le_f, iN_lt_t, iN_lt_f, iN_eq_f, inb_iN, ix_iN, isZ_0, isZ_1, ↓reduceIte, eq_self, kd_b ho, kd_b ha, kd_b hp, clampN, sI_p, h3, hA, hB]
  · intro d j hc
    have en : nD (bgS X) = n := by rw [nD_of (bg_lo (by omega))]; exact hnn
    have em : mD (bgS X) = 0 := by rw [mD_of (bg_lo (by omega))]; unfold mD; rw [h4]; rfl
    rw [en, em] at hc
    rcases hc with ⟨rfl, h5, h6⟩ | ⟨rfl, rfl⟩ | ⟨rfl, h5⟩ | ⟨rfl, h5⟩ | ⟨rfl, h5⟩ | ⟨rfl, h5⟩ | ⟨rfl, h5⟩ | ⟨h5, h6, h7⟩
    · have : j = 8 ∨ j = 9 ∨ j = 10 ∨ j = 11 ∨ j = 12 ∨ j = 13 ∨ j = 14 ∨ j = 15 ∨ j = 16 := by omega
      rcases this with rfl | rfl | rfl | rfl | rfl | rfl | rfl | rfl | rfl
      · show _ = bgS X 0
        rw [bg_lo (by omega), hn.1]
        simp (disch := omega) only [chk_t, beq_self_eq_true, nm_s, bj1_s, bj2_s, bj3_s, mo_1, mo_0, l_0, l_1, l_2, l_3, l_4, l_5, l_6, l_7, l_8, l_9, l_10, l_11, l_12, l_13, l_14, l_15, l_16, l_17, l_18, l_19, l_20, l_21, l_30, l_31, l_32, l_36, l_40, l_41, l_42, l_43, l_44, l_45, l_46, l_47, l_48, l_49, l_50, l_51, l_52, l_57, l_58, l_60, l_64, l_72, l_80, l_92, l_98, l_99, l_100, l_102, l_105, l_111, l_112, l_114, l_115, l_116, l_117, l_120, l_144, l_200, l_201, l_240, l_300, l_320, l_400, l_500, l_550, l_560, l_649, l_650, l_1000, l_1400, l_2000, l_4000, l_10000, iN_add, iN_sub, iN_mul, iN_le_t, iN_le_f, iN_lt_t, iN_lt_f, iN_eq_f, inb_iN, ix_iN, isZ_0, isZ_1, ↓reduceIte, eq_self, Nat.add_zero, sI_eq, sI_j, sI_p, b2, a2]
      · show _ = bgS X 2
        rw [bg_lo (by omega)]
        simp (disch := omega) only [chk_t, beq_self_eq_true, nm_s, bj1_s, bj2_s, bj3_s, mo_1, mo_0, l_0, l_1, l_2, l_3, l_4, l_5, l_6, l_7, l_8, l_9, l_10, l_11, l_12, l_13, l_14, l_15, l_16, l_17, l_18, l_19, l_20, l_21, l_30, l_31, l_32, l_36, l_40, l_41, l_42, l_43, l_44, l_45, l_46, l_47, l_48, l_49, l_50, l_51, l_52, l_57, l_58, l_60, l_64, l_72, l_80, l_92, l_98, l_99, l_100, l_102, l_105, l_111, l_112, l_114, l_115, l_116, l_117, l_120, l_144, l_200, l_201, l_240, l_300, l_320, l_400, l_500, l_550, l_560, l_649, l_650, l_1000, l_1400, l_2000, l_4000, l_10000, iN_add, iN_sub, iN_mul, iN_le_t, iN_le_f, iN_lt_t, iN_lt_f, iN_eq_f, inb_iN, ix_iN, isZ_0, isZ_1, ↓reduceIte, eq_self, Nat.add_zero, sI_eq, sI_j, sI_p, b2, a2]
      · show _ = bgS X 3
        rw [bg_lo (by omega)]
        simp (disch := omega) only [chk_t, beq_self_eq_true, nm_s, bj1_s, bj2_s, bj3_s, mo_1, mo_0, l_0, l_1, l_2, l_3, l_4, l_5, l_6, l_7, l_8, l_9, l_10, l_11, l_12, l_13, l_14, l_15, l_16, l_17, l_18, l_19, l_20, l_21, l_30, l_31, l_32, l_36, l_40, l_41, l_42, l_43, l_44, l_45, l_46, l_47, l_48, l_49, l_50, l_51, l_52, l_57, l_58, l_60, l_64, l_72, l_80, l_92, l_98, l_99, l_100, l_102, l_105, l_111, l_112, l_114, l_115, l_116, l_117, l_120, l_144, l_200, l_201, l_240, l_300, l_320, l_400, l_500, l_550, l_560, l_649, l_650, l_1000, l_1400, l_2000, l_4000, l_10000, iN_add, iN_sub, iN_mul, iN_le_t, iN_le_f, iN_lt_t, iN_lt_f, iN_eq_f, inb_iN, ix_iN, isZ_0, isZ_1, ↓reduceIte, eq_self, Nat.add_zero, sI_eq, sI_j, sI_p, b2, a2]
      · show _ = bgS X 44
        rw [bg_41 (by omega) (by omega)]
        simp (disch := omega) only [chk_t, beq_self_eq_true, nm_s, bj1_s, bj2_s, bj3_s, mo_1, mo_0, l_0, l_1, l_2, l_3, l_4, l_5, l_6, l_7, l_8, l_9, l_10, l_11, l_12, l_13, l_14, l_15, l_16, l_17, l_18, l_19, l_20, l_21, l_30, l_31, l_32, l_36, l_40, l_41, l_42, l_43, l_44, l_45, l_46, l_47, l_48, l_49, l_50, l_51, l_52, l_57, l_58, l_60, l_64, l_72, l_80, l_92, l_98, l_99, l_100, l_102, l_105, l_111, l_112, l_114, l_115, l_116, l_117, l_120, l_144, l_200, l_201, l_240, l_300, l_320, l_400, l_500, l_550, l_560, l_649, l_650, l_1000, l_1400, l_2000, l_4000, l_10000, iN_add, iN_sub, iN_mul, iN_le_t, iN_le_f, iN_lt_t, iN_lt_f, iN_eq_f, inb_iN, ix_iN, isZ_0, isZ_1, ↓reduceIte, eq_self, Nat.add_zero, sI_eq, sI_j, sI_p]
      · show _ = bgS X 43
        rw [bg_41 (by omega) (by omega)]
        simp (disch := omega) only [chk_t, beq_self_eq_true, nm_s, bj1_s, bj2_s, bj3_s, mo_1, mo_0, l_0, l_1, l_2, l_3, l_4, l_5, l_6, l_7, l_8, l_9, l_10, l_11, l_12, l_13, l_14, l_15, l_16, l_17, l_18, l_19, l_20, l_21, l_30, l_31, l_32, l_36, l_40, l_41, l_42, l_43, l_44, l_45, l_46, l_47, l_48, l_49, l_50, l_51, l_52, l_57, l_58, l_60, l_64, l_72, l_80, l_92, l_98, l_99, l_100, l_102, l_105, l_111, l_112, l_114, l_115, l_116, l_117, l_120, l_144, l_200, l_201, l_240, l_300, l_320, l_400, l_500, l_550, l_560, l_649, l_650, l_1000, l_1400, l_2000, l_4000, l_10000, iN_add, iN_sub, iN_mul, iN_le_t, iN_le_f, iN_lt_t, iN_lt_f, iN_eq_f, inb_iN, ix_iN, isZ_0, isZ_1, ↓reduceIte, eq_self, Nat.add_zero, sI_eq, sI_j, sI_p]
      · show _ = bgS X 41
        rw [bg_41 (by omega) (by omega)]
        simp (disch := omega) only [chk_t, beq_self_eq_true, nm_s, bj1_s, bj2_s, bj3_s, mo_1, mo_0, l_0, l_1, l_2, l_3, l_4, l_5, l_6, l_7, l_8, l_9, l_10, l_11, l_12, l_13, l_14, l_15, l_16, l_17, l_18, l_19, l_20, l_21, l_30, l_31, l_32, l_36, l_40, l_41, l_42, l_43, l_44, l_45, l_46, l_47, l_48, l_49, l_50, l_51, l_52, l_57, l_58, l_60, l_64, l_72, l_80, l_92, l_98, l_99, l_100, l_102, l_105, l_111, l_112, l_114, l_115, l_116, l_117, l_120, l_144, l_200, l_201, l_240, l_300, l_320, l_400, l_500, l_550, l_560, l_649, l_650, l_1000, l_1400, l_2000, l_4000, l_10000, iN_add, iN_sub, iN_mul, iN_le_t, iN_le_f, iN_lt_t, iN_lt_f, iN_eq_f, inb_iN, ix_iN, isZ_0, isZ_1, ↓reduceIte, eq_self, Nat.add_zero, sI_eq, sI_j, sI_p]
      · show _ = bgS X 42
        rw [bg_41 (by omega) (by omega)]
        simp (disch := omega) only [chk_t, beq_self_eq_true, nm_s, bj1_s, bj2_s, bj3_s, mo_1, mo_0, l_0, l_1, l_2, l_3, l_4, l_5, l_6, l_7, l_8, l_9, l_10, l_11, l_12, l_13, l_14, l_15, l_16, l_17, l_18, l_19, l_20, l_21, l_30, l_31, l_32, l_36, l_40, l_41, l_42, l_43, l_44, l_45, l_46, l_47, l_48, l_49, l_50, l_51, l_52, l_57, l_58, l_60, l_64, l_72, l_80, l_92, l_98, l_99, l_100, l_102, l_105, l_111, l_112, l_114, l_115, l_116, l_117, l_120, l_144, l_200, l_201, l_240, l_300, l_320, l_400, l_500, l_550, l_560, l_649, l_650, l_1000, l_1400, l_2000, l_4000, l_10000, iN_add, iN_sub, iN_mul, iN_le_t, iN_le_f, iN_lt_t, iN_lt_f, iN_eq_f, inb_iN, ix_iN, isZ_0, isZ_1, ↓reduceIte, eq_self, Nat.add_zero, sI_eq, sI_j, sI_p]
      · show _ = bgS X 45
        rw [bg_41 (by omega) (by omega)]
        simp (disch := omega) only [chk_t, beq_self_eq_true, nm_s, bj1_s, bj2_s, bj3_s, mo_1, mo_0, l_0, l_1, l_2, l_3, l_4, l_5, l_6, l_7, l_8, l_9, l_10, l_11, l_12, l_13, l_14, l_15, l_16, l_17, l_18, l_19, l_20, l_21, l_30, l_31, l_32, l_36, l_40, l_41, l_42, l_43, l_44, l_45, l_46, l_47, l_48, l_49, l_50, l_51, l_52, l_57, l_58, l_60, l_64, l_72, l_80, l_92, l_98, l_99, l_100, l_102, l_105, l_111, l_112, l_114, l_115, l_116, l_117, l_120, l_144, l_200, l_201, l_240, l_300, l_320, l_400, l_500, l_550, l_560, l_649, l_650, l_1000, l_1400, l_2000, l_4000, l_10000, iN_add, iN_sub, iN_mul, iN_le_t, iN_le_f, iN_lt_t, iN_lt_f, iN_eq_f, inb_iN, ix_iN, isZ_0, isZ_1, ↓reduceIte, eq_self, Nat.add_zero, sI_eq, sI_j, sI_p]
      · show _ = bgS X 47
        rw [bg_41 (by omega) (by omega)]
        simp (disch := omega) only [chk_t, beq_self_eq_true, nm_s, bj1_s, bj2_s, bj3_s, mo_1, mo_0, l_0, l_1, l_2, l_3, l_4, l_5, l_6, l_7, l_8, l_9, l_10, l_11, l_12, l_13, l_14, l_15, l_16, l_17, l_18, l_19, l_20, l_21, l_30, l_31, l_32, l_36, l_40, l_41, l_42, l_43, l_44, l_45, l_46, l_47, l_48, l_49, l_50, l_51, l_52, l_57, l_58, l_60, l_64, l_72, l_80, l_92, l_98, l_99, l_100, l_102, l_105, l_111, l_112, l_114, l_115, l_116, l_117, l_120, l_144, l_200, l_201, l_240, l_300, l_320, l_400, l_500, l_550, l_560, l_649, l_650, l_1000, l_1400, l_2000, l_4000, l_10000, iN_add, iN_sub, iN_mul, iN_le_t, iN_le_f, iN_lt_t, iN_lt_f, iN_eq_f, inb_iN, ix_iN, isZ_0, isZ_1, ↓reduceIte, eq_self, Nat.add_zero, sI_eq, sI_j, sI_p]
    · show _ = bgS X 4
      rw [bg_lo (by omega), h4]
      simp (disch := omega) only [chk_t, beq_self_eq_true, nm_s, bj1_s, bj2_s, bj3_s, mo_1, mo_0, l_0, l_1, l_2, l_3, l_4, l_5, l_6, l_7, l_8, l_9, l_10, l_11, l_12, l_13, l_14, l_15, l_16, l_17, l_18, l_19, l_20, l_21, l_30, l_31, l_32, l_36, l_40, l_41, l_42, l_43, l_44, l_45, l_46, l_47, l_48, l_49, l_50, l_51, l_52, l_57, l_58, l_60, l_64, l_72, l_80, l_92, l_98, l_99, l_100, l_102, l_105, l_111, l_112, l_114, l_115, l_116, l_117, l_120, l_144, l_200, l_201, l_240, l_300, l_320, l_400, l_500, l_550, l_560, l_649, l_650, l_1000, l_1400, l_2000, l_4000, l_10000, iN_add, iN_sub, iN_mul, iN_le_t, iN_le_f, iN_lt_t, iN_lt_f, iN_eq_f, inb_iN, ix_iN, isZ_0, isZ_1, ↓reduceIte, eq_self, sI_eq, sI_j, sI_p]
    · show _ = bgS X (48 + j)
      rw [bg_wet (by omega) (by omega)]
      simp (disch := omega) only [chk_t, beq_self_eq_true, nm_s, bj1_s, bj2_s, bj3_s, mo_1, mo_0, l_0, l_1, l_2, l_3, l_4, l_5, l_6, l_7, l_8, l_9, l_10, l_11, l_12, l_13, l_14, l_15, l_16, l_17, l_18, l_19, l_20, l_21, l_30, l_31, l_32, l_36, l_40, l_41, l_42, l_43, l_44, l_45, l_46, l_47, l_48, l_49, l_50, l_51, l_52, l_57, l_58, l_60, l_64, l_72, l_80, l_92, l_98, l_99, l_100, l_102, l_105, l_111, l_112, l_114, l_115, l_116, l_117, l_120, l_144, l_200, l_201, l_240, l_300, l_320, l_400, l_500, l_550, l_560, l_649, l_650, l_1000, l_1400, l_2000, l_4000, l_10000, iN_add, iN_sub, iN_mul, iN_le_t, iN_le_f, iN_lt_t, iN_lt_f, iN_eq_f, inb_iN, ix_iN, isZ_0, isZ_1, ↓reduceIte, eq_self, sI_p]
      exact (b1 j h5).1
    · show _ = bgS X (50 + j)
      rw [bg_50 (by omega) (by omega)]
      simp (disch := omega) only [chk_t, beq_self_eq_true, nm_s, bj1_s, bj2_s, bj3_s, mo_1, mo_0, l_0, l_1, l_2, l_3, l_4, l_5, l_6, l_7, l_8, l_9, l_10, l_11, l_12, l_13, l_14, l_15, l_16, l_17, l_18, l_19, l_20, l_21, l_30, l_31, l_32, l_36, l_40, l_41, l_42, l_43, l_44, l_45, l_46, l_47, l_48, l_49, l_50, l_51, l_52, l_57, l_58, l_60, l_64, l_72, l_80, l_92, l_98, l_99, l_100, l_102, l_105, l_111, l_112, l_114, l_115, l_116, l_117, l_120, l_144, l_200, l_201, l_240, l_300, l_320, l_400, l_500, l_550, l_560, l_649, l_650, l_1000, l_1400, l_2000, l_4000, l_10000, iN_add, iN_sub, iN_mul, iN_le_t, iN_le_f, iN_lt_t, iN_lt_f, iN_eq_f, inb_iN, ix_iN, isZ_0, isZ_1, ↓reduceIte, eq_self, sI_p]
      exact (b1 j h5).2
    · show _ = bgS X (52 + j)
      rw [bg_w (by omega) (by omega)]
      simp (disch := omega) only [chk_t, beq_self_eq_true, nm_s, bj1_s, bj2_s, bj3_s, mo_1, mo_0, l_0, l_1, l_2, l_3, l_4, l_5, l_6, l_7, l_8, l_9, l_10, l_11, l_12, l_13, l_14, l_15, l_16, l_17, l_18, l_19, l_20, l_21, l_30, l_31, l_32, l_36, l_40, l_41, l_42, l_43, l_44, l_45, l_46, l_47, l_48, l_49, l_50, l_51, l_52, l_57, l_58, l_60, l_64, l_72, l_80, l_92, l_98, l_99, l_100, l_102, l_105, l_111, l_112, l_114, l_115, l_116, l_117, l_120, l_144, l_200, l_201, l_240, l_300, l_320, l_400, l_500, l_550, l_560, l_649, l_650, l_1000, l_1400, l_2000, l_4000, l_10000, iN_add, iN_sub, iN_mul, iN_le_t, iN_le_f, iN_lt_t, iN_lt_f, iN_eq_f, inb_iN, ix_iN, isZ_0, isZ_1, ↓reduceIte, eq_self, sI_p, b2]
      exact (a1 j (by omega)).1
    · show _ = bgS X (72 + j)
      rw [bg_m (by omega) (by omega)]
      simp (disch := omega) only [chk_t, beq_self_eq_true, nm_s, bj1_s, bj2_s, bj3_s, mo_1, mo_0, l_0, l_1, l_2, l_3, l_4, l_5, l_6, l_7, l_8, l_9, l_10, l_11, l_12, l_13, l_14, l_15, l_16, l_17, l_18, l_19, l_20, l_21, l_30, l_31, l_32, l_36, l_40, l_41, l_42, l_43, l_44, l_45, l_46, l_47, l_48, l_49, l_50, l_51, l_52, l_57, l_58, l_60, l_64, l_72, l_80, l_92, l_98, l_99, l_100, l_102, l_105, l_111, l_112, l_114, l_115, l_116, l_117, l_120, l_144, l_200, l_201, l_240, l_300, l_320, l_400, l_500, l_550, l_560, l_649, l_650, l_1000, l_1400, l_2000, l_4000, l_10000, iN_add, iN_sub, iN_mul, iN_le_t, iN_le_f, iN_lt_t, iN_lt_f, iN_eq_f, inb_iN, ix_iN, isZ_0, isZ_1, ↓reduceIte, eq_self, sI_p, b2]
      exact (a1 j (by omega)).2.1
    · show _ = bgS X (92 + j)
      rw [bg_j (by omega) (by omega)]
      simp (disch := omega) only [chk_t, beq_self_eq_true, nm_s, bj1_s, bj2_s, bj3_s, mo_1, mo_0, l_0, l_1, l_2, l_3, l_4, l_5, l_6, l_7, l_8, l_9, l_10, l_11, l_12, l_13, l_14, l_15, l_16, l_17, l_18, l_19, l_20, l_21, l_30, l_31, l_32, l_36, l_40, l_41, l_42, l_43, l_44, l_45, l_46, l_47, l_48, l_49, l_50, l_51, l_52, l_57, l_58, l_60, l_64, l_72, l_80, l_92, l_98, l_99, l_100, l_102, l_105, l_111, l_112, l_114, l_115, l_116, l_117, l_120, l_144, l_200, l_201, l_240, l_300, l_320, l_400, l_500, l_550, l_560, l_649, l_650, l_1000, l_1400, l_2000, l_4000, l_10000, iN_add, iN_sub, iN_mul, iN_le_t, iN_le_f, iN_lt_t, iN_lt_f, iN_eq_f, inb_iN, ix_iN, isZ_0, isZ_1, ↓reduceIte, eq_self, sI_p, b2]
      exact (a1 j (by omega)).2.2
    · omega
  · simp (disch := omega) only [chk_t, beq_self_eq_true, nm_s, bj1_s, bj2_s, bj3_s, mo_1, mo_0, l_0, l_1, l_2, l_3, l_4, l_5, l_6, l_7, l_8, l_9, l_10, l_11, l_12, l_13, l_14, l_15, l_16, l_17, l_18, l_19, l_20, l_21, l_30, l_31, l_32, l_36, l_40, l_41, l_42, l_43, l_44, l_45, l_46, l_47, l_48, l_49, l_50, l_51, l_52, l_57, l_58, l_60, l_64, l_72, l_80, l_92, l_98, l_99, l_100, l_102, l_105, l_111, l_112, l_114, l_115, l_116, l_117, l_120, l_144, l_200, l_201, l_240, l_300, l_320, l_400, l_500, l_550, l_560, l_649, l_650, l_1000, l_1400, l_2000, l_4000, l_10000, iN_add, iN_sub, iN_mul, iN_le_t, iN_le_f, iN_lt_t, iN_lt_f, iN_eq_f, inb_iN, ix_iN, isZ_0, isZ_1, ↓reduceIte, eq_self, sI_p, b2, a2]
  · exact b3.trans a3
  · simp (disch := omega) only [chk_t, beq_self_eq_true, nm_s, bj1_s, bj2_s, bj3_s, mo_1, mo_0, l_0, l_1, l_2, l_3, l_4, l_5, l_6, l_7, l_8, l_9, l_10, l_11, l_12, l_13, l_14, l_15, l_16, l_17, l_18, l_19, l_20, l_21, l_30, l_31, l_32, l_36, l_40, l_41, l_42, l_43, l_44, l_45, l_46, l_47, l_48, l_49, l_50, l_51, l_52, l_57, l_58, l_60, l_64, l_72, l_80, l_92, l_98, l_99, l_100, l_102, l_105, l_111, l_112, l_114, l_115, l_116, l_117, l_120, l_144, l_200, l_201, l_240, l_300, l_320, l_400, l_500, l_550, l_560, l_649, l_650, l_1000, l_1400, l_2000, l_4000, l_10000, iN_add, iN_sub, iN_mul, iN_le_t, iN_le_f, iN_lt_t, iN_lt_f, iN_eq_f, inb_iN, ix_iN, isZ_0, isZ_1, ↓reduceIte, eq_self, sI_j, sI_p, b2, a2]
/-- tick k of a way -/
def wayT (k : Nat) (q t : Int32) (D : Nat → Int32) : Nat → Int32 := tickS (iN 1) q (if iN k ≤ iN 0 then D else if iN k - iN k / t * t = iN 0 then up D 44 (iN 1 - D 44) else D)
def wayS (q t : Int32) (D : Nat → Int32) : Nat → Nat → Int32
  | 0 => D
  | k + 1 => wayT k q t (wayS q t D k)
theorem wf_up {D : Nat → Int32} {n p : Nat} {x : Int32} (h : wfD D n) (h1 : p < 52) (h2 : p ≠ 0) (h3 : p ≠ 4) : wfD (up D p x) n := by
  obtain ⟨hn, hm, hw, hj⟩ := h
  have hb := hn.2
  refine ⟨okN_keep hn (up_ne (by omega)), by rw [mD_of (up_ne (by omega))]; exact hm, keep_R hw (by rw [okN_n hn]; omega) (fun q hq => up_ne (by omega)), keep_J hj (by rw [okN_n hn]; omega) (fun q hq => up_ne (by omega))⟩
theorem tick_43 {k q : Int32} {D : Nat → Int32} {n : Nat} (hn : okN D n) : tickS k q D 43 = D 43 + iN 1 := by
  have h2 := hn.2
  unfold tickS endS
  rw [okN_n hn, up_eq, brownS_0 (by omega), brownS_0 (by omega), mostS_lo (by omega), bathS_0 (by omega), dryS_0 (by omega) (by omega), bathS_0 (by omega), dryS_0 (by omega) (by omega), warmsS_lo (by omega)]
theorem wf_wayT {k n : Nat} {q t : Int32} {D : Nat → Int32} (h : wfD D n) (hq : qR q) : wfD (wayT k q t D) n := by
  unfold wayT
  refine wf_tick ?_ hq
  split
  · exact h
  · split
    · exact wf_up h (by omega) (by omega) (by omega)
    · exact h
theorem wayT_43 {k n : Nat} {q t : Int32} {D : Nat → Int32} (h : wfD D n) : wayT k q t D 43 = D 43 + iN 1 := by
  unfold wayT
  split
  · exact tick_43 h.1
  · split
    · rw [tick_43 (wf_up h (by omega) (by omega) (by omega)).1, up_ne (by omega)]
    · exact tick_43 h.1
theorem wf_way {k n : Nat} {q t : Int32} {D : Nat → Int32} (h : wfD D n) (hq : qR q) : wfD (wayS q t D k) n := by
  induction k with
  | zero => exact h
  | succ k ih => exact wf_wayT ih hq
theorem way_43 {k n : Nat} {q t : Int32} {D : Nat → Int32} (h : wfD D n) (hq : qR q) (h0 : D 43 = iN 0) : wayS q t D k 43 = iN k := by
  induction k with
  | zero => exact h0
  | succ k ih =>
    show wayT k q t (wayS q t D k) 43 = _
    rw [wayT_43 (wf_way h hq), ih, iN_add]
theorem goByWay_ok {o n k : Nat} {D : Nat → Int32} {G : G_} {q t : Int32} (ho : kd o = 0) (hw : wfD D n) (hq : qR q) (ht : 1 ≤ t.toInt) (hk : D 43 = iN k) (h : cD o D G) : ∃ G', f_X0_goByWay o q t G = some G' ∧ cD o (wayT k q t D) G' ∧ fr o G G' := by
  have t0 : (t ≤ iN 0) = False := eq_false (fun e => by have := t_le.mp e; rw [li (by omega)] at this; omega)
  have t1 : (t != iN 0) = true := by
    rw [bne_iff_ne]
    intro e
    rw [e, li (by omega)] at ht
    omega
  have hz := dz_of hw.1 hw.2.1
  unfold f_X0_goByWay wayT
  simp (disch := omega) only [chk_t, beq_self_eq_true, nm_s, bj1_s, bj2_s, bj3_s, mo_1, mo_0, l_0, l_1, l_2, l_3, l_4, l_5, l_6, l_7, l_8, l_9, l_10, l_11, l_12, l_13, l_14, l_15, l_16, l_17, l_18, l_19, l_20, l_21, l_30, l_31, l_32, l_36, l_40, l_41, l_42, l_43, l_44, l_45, l_46, l_47, l_48, l_49, l_50, l_51, l_52, l_57, l_58, l_60, l_64, l_72, l_80, l_92, l_98, l_99, l_100, l_102, l_105, l_111, l_112, l_114, l_115, l_116, l_117, l_120, l_144, l_200, l_201, l_240, l_300, l_320, l_400, l_500, l_550, l_560, l_649, l_650, l_1000, l_1400, l_2000, l_4000, l_10000, iN_add, iN_sub, iN_mul, iN_le_t, iN_le_f, iN_lt_t, iN_lt_f, iN_eq_f, inb_iN, ix_iN, isZ_0, isZ_1, ↓reduceIte, eq_self, kd_b ho, t0, t1, c_12 h, hk, c_11 h]
  by_cases c : iN k ≤ iN 0
  · simp only [if_pos c]
    obtain ⟨G', g, c1, f1⟩ := heat_ok (k := iN 1) ho hw hq h
    refine ⟨G', ?_, c1, f1⟩
    simp (disch := omega) only [chk_t, beq_self_eq_true, nm_s, bj1_s, bj2_s, bj3_s, mo_1, mo_0, l_0, l_1, l_2, l_3, l_4, l_5, l_6, l_7, l_8, l_9, l_10, l_11, l_12, l_13, l_14, l_15, l_16, l_17, l_18, l_19, l_20, l_21, l_30, l_31, l_32, l_36, l_40, l_41, l_42, l_43, l_44, l_45, l_46, l_47, l_48, l_49, l_50, l_51, l_52, l_57, l_58, l_60, l_64, l_72, l_80, l_92, l_98, l_99, l_100, l_102, l_105, l_111, l_112, l_114, l_115, l_116, l_117, l_120, l_144, l_200, l_201, l_240, l_300, l_320, l_400, l_500, l_550, l_560, l_649, l_650, l_1000, l_1400, l_2000, l_4000, l_10000, iN_add, iN_sub, iN_mul, iN_le_t, iN_le_f, iN_lt_t, iN_lt_f, iN_eq_f, inb_iN, ix_iN, isZ_0, isZ_1, ↓reduceIte, eq_self, g]
  · simp only [if_neg c]
    by_cases c2 : iN k - iN k / t * t = iN 0
    · simp only [if_pos c2]
      obtain ⟨G', g, c1, f1⟩ := heat_ok (k := iN 1) ho (wf_up hw (p := 44) (x := iN 1 - D 44) (by omega) (by omega) (by omega)) hq (cD_0 hz h 11 44 (iN 1 - D 44) (by omega) rfl)
      refine ⟨G', ?_, c1, fr_tr (fr_sI fr_refl (by omega) (by omega) (Or.inr (by omega))) f1⟩
      simp (disch := omega) only [chk_t, beq_self_eq_true, nm_s, bj1_s, bj2_s, bj3_s, mo_1, mo_0, l_0, l_1, l_2, l_3, l_4, l_5, l_6, l_7, l_8, l_9, l_10, l_11, l_12, l_13, l_14, l_15, l_16, l_17, l_18, l_19, l_20, l_21, l_30, l_31, l_32, l_36, l_40, l_41, l_42, l_43, l_44, l_45, l_46, l_47, l_48, l_49, l_50, l_51, l_52, l_57, l_58, l_60, l_64, l_72, l_80, l_92, l_98, l_99, l_100, l_102, l_105, l_111, l_112, l_114, l_115, l_116, l_117, l_120, l_144, l_200, l_201, l_240, l_300, l_320, l_400, l_500, l_550, l_560, l_649, l_650, l_1000, l_1400, l_2000, l_4000, l_10000, iN_add, iN_sub, iN_mul, iN_le_t, iN_le_f, iN_lt_t, iN_lt_f, iN_eq_f, inb_iN, ix_iN, isZ_0, isZ_1, ↓reduceIte, eq_self, g]
    · simp only [if_neg c2]
      obtain ⟨G', g, c1, f1⟩ := heat_ok (k := iN 1) ho hw hq h
      refine ⟨G', ?_, c1, f1⟩
      simp (disch := omega) only [chk_t, beq_self_eq_true, nm_s, bj1_s, bj2_s, bj3_s, mo_1, mo_0, l_0, l_1, l_2, l_3, l_4, l_5, l_6, l_7, l_8, l_9, l_10, l_11, l_12, l_13, l_14, l_15, l_16, l_17, l_18, l_19, l_20, l_21, l_30, l_31, l_32, l_36, l_40, l_41, l_42, l_43, l_44, l_45, l_46, l_47, l_48, l_49, l_50, l_51, l_52, l_57, l_58, l_60, l_64, l_72, l_80, l_92, l_98, l_99, l_100, l_102, l_105, l_111, l_112, l_114, l_115, l_116, l_117, l_120, l_144, l_200, l_201, l_240, l_300, l_320, l_400, l_500, l_550, l_560, l_649, l_650, l_1000, l_1400, l_2000, l_4000, l_10000, iN_add, iN_sub, iN_mul, iN_le_t, iN_le_f, iN_lt_t, iN_lt_f, iN_eq_f, inb_iN, ix_iN, isZ_0, isZ_1, ↓reduceIte, eq_self, g]
theorem mkWay_ok {o a n c : Nat} {X : Nat → Int32} {G : G_} {q t : Int32} (ho : kd o = 0) (ha : kd a = 5) (hd : a < o ∨ o + 11 ≤ a) (hs : slR X n) (h4 : X 4 = iN 0) (hX : cSl a X G) (hq : qR q) (ht : 1 ≤ t.toInt) (hc : c ≤ 200) :
    ∃ G', f_X0_makeByWay o a q (iN c) t G = some G' ∧ cD o (wayS q t (bgS X) c) G' ∧ fr o G G' := by
  obtain ⟨B, hB, cB, fB⟩ := begin_ok ho ha hd hs.1 hX.2.1 hX.2.2.2 h4
  have e1 : G.1 a 1 = iN n := hX.1.trans hs.1.1
  have wf0 := wf_bg hs (by unfold mD; rw [h4]; decide)
  have hL : ∃ A, f_X0_makeByWay_l16_5 o q (iN c) t FU (iN 0) B = some A ∧ cD o (wayS q t (bgS X) c) A ∧ fr o B A := by
    refine loop_h (fun n v s => f_X0_makeByWay_l16_5 o q (iN c) t n v s) (fun j G2 => cD o (wayS q t (bgS X) j) G2 ∧ fr o B G2) _ 0 c ?_ ?_ (by omega) (n := FU) (fu_lt (by omega)) ⟨cB, fr_refl⟩
    · intro f j G2 h3 h5 ⟨i1, i2⟩
      obtain ⟨G', g, c1, f1⟩ := goByWay_ok (k := j) (q := q) (t := t) ho (wf_way (k := j) (t := t) wf0 hq) hq ht (way_43 wf0 hq (bg_41 (by omega) (by omega))) i1
      refine ⟨G', ⟨c1, fr_tr i2 f1⟩, ?_⟩
      show f_X0_makeByWay_l16_5 o q (iN c) t (f + 1) (iN j) G2 = _
      conv => lhs; unfold f_X0_makeByWay_l16_5
      simp (disch := omega) only [chk_t, beq_self_eq_true, nm_s, bj1_s, bj2_s, bj3_s, mo_1, mo_0, l_0, l_1, l_2, l_3, l_4, l_5, l_6, l_7, l_8, l_9, l_10, l_11, l_12, l_13, l_14, l_15, l_16, l_17, l_18, l_19, l_20, l_21, l_30, l_31, l_32, l_36, l_40, l_41, l_42, l_43, l_44, l_45, l_46, l_47, l_48, l_49, l_50, l_51, l_52, l_57, l_58, l_60, l_64, l_72, l_80, l_92, l_98, l_99, l_100, l_102, l_105, l_111, l_112, l_114, l_115, l_116, l_117, l_120, l_144, l_200, l_201, l_240, l_300, l_320, l_400, l_500, l_550, l_560, l_649, l_650, l_1000, l_1400, l_2000, l_4000, l_10000, iN_add, iN_sub, iN_mul, iN_le_t, iN_le_f, iN_lt_t, iN_lt_f, iN_eq_f, inb_iN, ix_iN, isZ_0, isZ_1, ↓reduceIte, eq_self, g]
    · intro f G2 ⟨i1, i2⟩
      refine ⟨G2, ?_, i1, i2⟩
      show f_X0_makeByWay_l16_5 o q (iN c) t (f + 1) (iN c) G2 = _
      unfold f_X0_makeByWay_l16_5
      simp (disch := omega) only [chk_t, beq_self_eq_true, nm_s, bj1_s, bj2_s, bj3_s, mo_1, mo_0, l_0, l_1, l_2, l_3, l_4, l_5, l_6, l_7, l_8, l_9, l_10, l_11, l_12, l_13, l_14, l_15, l_16, l_17, l_18, l_19, l_20, l_21, l_30, l_31, l_32, l_36, l_40, l_41, l_42, l_43, l_44, l_45, l_46, l_47, l_48, l_49, l_50, l_51, l_52, l_57, l_58, l_60, l_64, l_72, l_80, l_92, l_98, l_99, l_100, l_102, l_105, l_111, l_112, l_114, l_115, l_116, l_117, l_120, l_144, l_200, l_201, l_240, l_300, l_320, l_400, l_500, l_550, l_560, l_649, l_650, l_1000, l_1400, l_2000, l_4000, l_10000, iN_add, iN_sub, iN_mul, iN_le_t, iN_le_f, iN_lt_t, iN_lt_f, iN_eq_f, inb_iN, ix_iN, isZ_0, isZ_1, ↓reduceIte, eq_self]
  obtain ⟨A, hA, cA, fA⟩ := hL
  refine ⟨A, ?_, cA, fr_tr fB fA⟩
  unfold f_X0_makeByWay
  simp (disch := omega) only [chk_t, beq_self_eq_true, nm_s, bj1_s, bj2_s, bj3_s, mo_1, mo_0, l_0, l_1, l_2, l_3, l_4, l_5, l_6, l_7, l_8, l_9, l_10, l_11, l_12, l_13, l_14, l_15, l_16, l_17, l_18, l_19, l_20, l_21, l_30, l_31, l_32, l_36, l_40, l_41, l_42, l_43, l_44, l_45, l_46, l_47, l_48, l_49, l_50, l_51, l_52, l_57, l_58, l_60, l_64, l_72, l_80, l_92, l_98, l_99, l_100, l_102, l_105, l_111, l_112, l_114, l_115, l_116, l_117, l_120, l_144, l_200, l_201, l_240, l_300, l_320, l_400, l_500, l_550, l_560, l_649, l_650, l_1000, l_1400, l_2000, l_4000, l_10000, iN_add, iN_sub, iN_mul, iN_le_t, iN_le_f, iN_lt_t, iN_lt_f, iN_eq_f, inb_iN, ix_iN, isZ_0, isZ_1, ↓reduceIte, eq_self, kd_b ho, kd_b ha, e1, hX.2.2.1, hB, hA]
/-- k ticks of rest -/
def restS (D : Nat → Int32) : Nat → Nat → Int32
  | 0 => D
  | k + 1 => tickS (iN 4) (iN 0) (restS D k)
theorem qR_0 : qR (iN 0) := ⟨by decide, by decide⟩
theorem wf_rest {k n : Nat} {D : Nat → Int32} (h : wfD D n) : wfD (restS D k) n := by
  induction k with
  | zero => exact h
  | succ k ih => exact wf_tick ih qR_0
theorem crest_ok {o n c : Nat} {D : Nat → Int32} {G : G_} (ho : kd o = 0) (hw : wfD D n) (hc : c ≤ 700) (h : cD o D G) : ∃ G', f_X0_restFor o (iN c) G = some G' ∧ cD o (restS D c) G' ∧ fr o G G' := by
  have hL : ∃ A, f_X0_restFor_l2_3 o (iN c) FU (iN 0) G = some A ∧ cD o (restS D c) A ∧ fr o G A := by
    refine loop_h (fun n v s => f_X0_restFor_l2_3 o (iN c) n v s) (fun j G2 => cD o (restS D j) G2 ∧ fr o G G2) _ 0 c ?_ ?_ (by omega) (n := FU) (fu_lt (by omega)) ⟨h, fr_refl⟩
    · intro f j G2 h3 h5 ⟨i1, i2⟩
      obtain ⟨G', g, c1, f1⟩ := heat_ok (k := iN 4) ho (wf_rest (k := j) hw) qR_0 i1
      refine ⟨G', ⟨c1, fr_tr i2 f1⟩, ?_⟩
      show f_X0_restFor_l2_3 o (iN c) (f + 1) (iN j) G2 = _
      conv => lhs; unfold f_X0_restFor_l2_3
      simp (disch := omega) only [chk_t, beq_self_eq_true, nm_s, bj1_s, bj2_s, bj3_s, mo_1, mo_0, l_0, l_1, l_2, l_3, l_4, l_5, l_6, l_7, l_8, l_9, l_10, l_11, l_12, l_13, l_14, l_15, l_16, l_17, l_18, l_19, l_20, l_21, l_30, l_31, l_32, l_36, l_40, l_41, l_42, l_43, l_44, l_45, l_46, l_47, l_48, l_49, l_50, l_51, l_52, l_57, l_58, l_60, l_64, l_72, l_80, l_92, l_98, l_99, l_100, l_102, l_105, l_111, l_112, l_114, l_115, l_116, l_117, l_120, l_144, l_200, l_201, l_240, l_300, l_320, l_400, l_500, l_550, l_560, l_649, l_650, l_1000, l_1400, l_2000, l_4000, l_10000, iN_add, iN_sub, iN_mul, iN_le_t, iN_le_f, iN_lt_t, iN_lt_f, iN_eq_f, inb_iN, ix_iN, isZ_0, isZ_1, ↓reduceIte, eq_self, g]
    · intro f G2 ⟨i1, i2⟩
      refine ⟨G2, ?_, i1, i2⟩
      show f_X0_restFor_l2_3 o (iN c) (f + 1) (iN c) G2 = _
      unfold f_X0_restFor_l2_3
      simp (disch := omega) only [chk_t, beq_self_eq_true, nm_s, bj1_s, bj2_s, bj3_s, mo_1, mo_0, l_0, l_1, l_2, l_3, l_4, l_5, l_6, l_7, l_8, l_9, l_10, l_11, l_12, l_13, l_14, l_15, l_16, l_17, l_18, l_19, l_20, l_21, l_30, l_31, l_32, l_36, l_40, l_41, l_42, l_43, l_44, l_45, l_46, l_47, l_48, l_49, l_50, l_51, l_52, l_57, l_58, l_60, l_64, l_72, l_80, l_92, l_98, l_99, l_100, l_102, l_105, l_111, l_112, l_114, l_115, l_116, l_117, l_120, l_144, l_200, l_201, l_240, l_300, l_320, l_400, l_500, l_550, l_560, l_649, l_650, l_1000, l_1400, l_2000, l_4000, l_10000, iN_add, iN_sub, iN_mul, iN_le_t, iN_le_f, iN_lt_t, iN_lt_f, iN_eq_f, inb_iN, ix_iN, isZ_0, isZ_1, ↓reduceIte, eq_self]
  obtain ⟨A, hA, cA, fA⟩ := hL
  refine ⟨A, ?_, cA, fA⟩
  unfold f_X0_restFor
  simp (disch := omega) only [chk_t, beq_self_eq_true, nm_s, bj1_s, bj2_s, bj3_s, mo_1, mo_0, l_0, l_1, l_2, l_3, l_4, l_5, l_6, l_7, l_8, l_9, l_10, l_11, l_12, l_13, l_14, l_15, l_16, l_17, l_18, l_19, l_20, l_21, l_30, l_31, l_32, l_36, l_40, l_41, l_42, l_43, l_44, l_45, l_46, l_47, l_48, l_49, l_50, l_51, l_52, l_57, l_58, l_60, l_64, l_72, l_80, l_92, l_98, l_99, l_100, l_102, l_105, l_111, l_112, l_114, l_115, l_116, l_117, l_120, l_144, l_200, l_201, l_240, l_300, l_320, l_400, l_500, l_550, l_560, l_649, l_650, l_1000, l_1400, l_2000, l_4000, l_10000, iN_add, iN_sub, iN_mul, iN_le_t, iN_le_f, iN_lt_t, iN_lt_f, iN_eq_f, inb_iN, ix_iN, isZ_0, isZ_1, ↓reduceIte, eq_self, kd_b ho, hA]
/-- the greatest warmth of the middle in so many ticks of rest -/
def grS (D : Nat → Int32) : Nat → Int32
  | 0 => midW D
  | k + 1 => if midW (restS D (k + 1)) < grS D k then grS D k else midW (restS D (k + 1))
theorem great_ok {o n c : Nat} {D : Nat → Int32} {G : G_} (ho : kd o = 0) (hw : wfD D n) (hc : c ≤ 700) (h : cD o D G) : ∃ G', f_X0_greatestAtRest o (iN c) G = some (grS D c, G') ∧ cD o (restS D c) G' ∧ fr o G G' := by
  have hL : ∃ r, f_X0_greatestAtRest_l7_6 o (iN c) FU (midW D) (iN 0) G = some r ∧ r.1 = grS D c ∧ cD o (restS D c) r.2 ∧ fr o G r.2 := by
    refine loop_h (fun n v (s : Int32 × G_) => f_X0_greatestAtRest_l7_6 o (iN c) n s.1 v s.2) (fun j s => s.1 = grS D j ∧ cD o (restS D j) s.2 ∧ fr o G s.2) _ 0 c ?_ ?_ (by omega) (n := FU) (fu_lt (by omega)) (s := (midW D, G)) ⟨rfl, h, fr_refl⟩
    · intro f j ⟨x, G2⟩ h3 h5 ⟨i0, i1, i2⟩
      obtain ⟨G', g, c1, f1⟩ := heat_ok (k := iN 4) ho (wf_rest (k := j) hw) qR_0 i1
      refine ⟨(grS D (j + 1), G'), ⟨rfl, c1, fr_tr i2 f1⟩, ?_⟩
      have i0 : x = grS D j := i0
      have e := midW_ok ho (wf_rest (k := j + 1) hw).1 c1
      show f_X0_greatestAtRest_l7_6 o (iN c) (f + 1) x (iN j) G2 = f_X0_greatestAtRest_l7_6 o (iN c) f (grS D (j + 1)) (iN (j + 1)) G'
      conv => lhs; unfold f_X0_greatestAtRest_l7_6
      simp (disch := omega) only [chk_t, beq_self_eq_true, nm_s, bj1_s, bj2_s, bj3_s, mo_1, mo_0, l_0, l_1, l_2, l_3, l_4, l_5, l_6, l_7, l_8, l_9, l_10, l_11, l_12, l_13, l_14, l_15, l_16, l_17, l_18, l_19, l_20, l_21, l_30, l_31, l_32, l_36, l_40, l_41, l_42, l_43, l_44, l_45, l_46, l_47, l_48, l_49, l_50, l_51, l_52, l_57, l_58, l_60, l_64, l_72, l_80, l_92, l_98, l_99, l_100, l_102, l_105, l_111, l_112, l_114, l_115, l_116, l_117, l_120, l_144, l_200, l_201, l_240, l_300, l_320, l_400, l_500, l_550, l_560, l_649, l_650, l_1000, l_1400, l_2000, l_4000, l_10000, iN_add, iN_sub, iN_mul, iN_le_t, iN_le_f, iN_lt_t, iN_lt_f, iN_eq_f, inb_iN, ix_iN, isZ_0, isZ_1, ↓reduceIte, eq_self, g, e, i0, mx_com]
      rfl
    · intro f ⟨x, G2⟩ ⟨i0, i1, i2⟩
      refine ⟨(x, G2), ?_, i0, i1, i2⟩
      show f_X0_greatestAtRest_l7_6 o (iN c) (f + 1) x (iN c) G2 = _
      unfold f_X0_greatestAtRest_l7_6
      simp (disch := omega) only [chk_t, beq_self_eq_true, nm_s, bj1_s, bj2_s, bj3_s, mo_1, mo_0, l_0, l_1, l_2, l_3, l_4, l_5, l_6, l_7, l_8, l_9, l_10, l_11, l_12, l_13, l_14, l_15, l_16, l_17, l_18, l_19, l_20, l_21, l_30, l_31, l_32, l_36, l_40, l_41, l_42, l_43, l_44, l_45, l_46, l_47, l_48, l_49, l_50, l_51, l_52, l_57, l_58, l_60, l_64, l_72, l_80, l_92, l_98, l_99, l_100, l_102, l_105, l_111, l_112, l_114, l_115, l_116, l_117, l_120, l_144, l_200, l_201, l_240, l_300, l_320, l_400, l_500, l_550, l_560, l_649, l_650, l_1000, l_1400, l_2000, l_4000, l_10000, iN_add, iN_sub, iN_mul, iN_le_t, iN_le_f, iN_lt_t, iN_lt_f, iN_eq_f, inb_iN, ix_iN, isZ_0, isZ_1, ↓reduceIte, eq_self]
  obtain ⟨⟨x, A⟩, hA, e0, cA, fA⟩ := hL
  refine ⟨A, ?_, cA, fA⟩
  have e0 : x = grS D c := e0
  have hA' : f_X0_greatestAtRest_l7_6 o (iN c) FU (midW D) (iN 0) G = some (x, A) := hA
  unfold f_X0_greatestAtRest
  simp (disch := omega) only [chk_t, beq_self_eq_true, nm_s, bj1_s, bj2_s, bj3_s, mo_1, mo_0, l_0, l_1, l_2, l_3, l_4, l_5, l_6, l_7, l_8, l_9, l_10, l_11, l_12, l_13, l_14, l_15, l_16, l_17, l_18, l_19, l_20, l_21, l_30, l_31, l_32, l_36, l_40, l_41, l_42, l_43, l_44, l_45, l_46, l_47, l_48, l_49, l_50, l_51, l_52, l_57, l_58, l_60, l_64, l_72, l_80, l_92, l_98, l_99, l_100, l_102, l_105, l_111, l_112, l_114, l_115, l_116, l_117, l_120, l_144, l_200, l_201, l_240, l_300, l_320, l_400, l_500, l_550, l_560, l_649, l_650, l_1000, l_1400, l_2000, l_4000, l_10000, iN_add, iN_sub, iN_mul, iN_le_t, iN_le_f, iN_lt_t, iN_lt_f, iN_eq_f, inb_iN, ix_iN, isZ_0, isZ_1, ↓reduceIte, eq_self, kd_b ho, midW_ok ho hw.1 h, hA', e0]
/-- the first tick at which something holds, or none -/
def tillF (P : Nat → Bool) : Nat → Nat → Int32
  | 0, _ => -iN 9
  | f + 1, k => if P (k + 1) = true then iN (k + 1) else tillF P f (k + 1)
def tillS (q t v : Int32) (D : Nat → Int32) : Int32 := tillF (fun k => !decide (midM (wayS q t D k) < v)) 200 0
theorem till_ok {o a n : Nat} {X : Nat → Int32} {G : G_} {q t v : Int32} (ho : kd o = 0) (ha : kd a = 5) (hd : a < o ∨ o + 11 ≤ a) (hs : slR X n) (h4 : X 4 = iN 0) (h1 : G.1 a 2 = X 1) (h2 : G.1 a 3 = X 2) (h3 : G.1 a 4 = X 3) (hq : qR q) (ht : 1 ≤ t.toInt) :
    ∃ G', f_X0_ticksTill o a (iN n) q t v G = some (tillS q t v (bgS X), G') ∧ fr o G G' := by
  obtain ⟨B, hB, cB, fB⟩ := begin_ok ho ha hd hs.1 h1 h3 h4
  have wf0 := wf_bg hs (by unfold mD; rw [h4]; decide)
  have key := loop_iv (fun n v' s => f_X0_ticksTill_l13_5 o q t v n v' s) (fun j G2 => 1 ≤ j ∧ tillF (fun k => !decide (midM (wayS q t (bgS X) k) < v)) (201 - j) (j - 1) = tillS q t v (bgS X) ∧ cD o (wayS q t (bgS X) (j - 1)) G2 ∧ fr o B G2)
    (fun r => ∃ G', r = some (tillS q t v (bgS X), G') ∧ fr o B G') 1 201 ?_ ?_ (by omega) (n := FU) (fu_lt (by omega)) (s := B) ⟨by omega, rfl, cB, fr_refl⟩
  · obtain ⟨G', hG, fG⟩ := key
    refine ⟨G', ?_, fr_tr fB fG⟩
    have hG' : f_X0_ticksTill_l13_5 o q t v FU (iN 1) B = some (tillS q t v (bgS X), G') := hG
    unfold f_X0_ticksTill
    simp (disch := omega) only [chk_t, beq_self_eq_true, nm_s, bj1_s, bj2_s, bj3_s, mo_1, mo_0, l_0, l_1, l_2, l_3, l_4, l_5, l_6, l_7, l_8, l_9, l_10, l_11, l_12, l_13, l_14, l_15, l_16, l_17, l_18, l_19, l_20, l_21, l_30, l_31, l_32, l_36, l_40, l_41, l_42, l_43, l_44, l_45, l_46, l_47, l_48, l_49, l_50, l_51, l_52, l_57, l_58, l_60, l_64, l_72, l_80, l_92, l_98, l_99, l_100, l_102, l_105, l_111, l_112, l_114, l_115, l_116, l_117, l_120, l_144, l_200, l_201, l_240, l_300, l_320, l_400, l_500, l_550, l_560, l_649, l_650, l_1000, l_1400, l_2000, l_4000, l_10000, iN_add, iN_sub, iN_mul, iN_le_t, iN_le_f, iN_lt_t, iN_lt_f, iN_eq_f, inb_iN, ix_iN, isZ_0, isZ_1, ↓reduceIte, eq_self, kd_b ho, kd_b ha, h2, hB, hG']
  · intro f j G2 h3 h5 ⟨_, i0, i1, i2⟩
    obtain ⟨k, rfl⟩ : ∃ k, j = k + 1 := ⟨j - 1, by omega⟩
    rw [show k + 1 - 1 = k by omega] at i0 i1
    obtain ⟨G', g, c1, f1⟩ := goByWay_ok (k := k) (q := q) (t := t) ho (wf_way (k := k) (t := t) wf0 hq) hq ht (way_43 wf0 hq (bg_41 (by omega) (by omega))) i1
    have em := midM_ok ho (wf_way (k := k + 1) (t := t) wf0 hq).1 c1
    rw [show 201 - (k + 1) = (200 - (k + 1)) + 1 by omega] at i0
    unfold tillF at i0
    by_cases c : midM (wayS q t (bgS X) (k + 1)) < v
    · left
      refine ⟨G', ⟨by omega, ?_, c1, fr_tr i2 f1⟩, ?_⟩
      · rw [if_neg (by rw [decide_eq_true c]; decide)] at i0
        rw [show 201 - (k + 1 + 1) = 200 - (k + 1) by omega]
        exact i0
      · show f_X0_ticksTill_l13_5 o q t v (f + 1) (iN (k + 1)) G2 = f_X0_ticksTill_l13_5 o q t v f (iN (k + 1 + 1)) G'
        conv => lhs; unfold f_X0_ticksTill_l13_5
        simp (disch := omega) only [chk_t, beq_self_eq_true, nm_s, bj1_s, bj2_s, bj3_s, mo_1, mo_0, l_0, l_1, l_2, l_3, l_4, l_5, l_6, l_7, l_8, l_9, l_10, l_11, l_12, l_13, l_14, l_15, l_16, l_17, l_18, l_19, l_20, l_21, l_30, l_31, l_32, l_36, l_40, l_41, l_42, l_43, l_44, l_45, l_46, l_47, l_48, l_49, l_50, l_51, l_52, l_57, l_58, l_60, l_64, l_72, l_80, l_92, l_98, l_99, l_100, l_102, l_105, l_111, l_112, l_114, l_115, l_116, l_117, l_120, l_144, l_200, l_201, l_240, l_300, l_320, l_400, l_500, l_550, l_560, l_649, l_650, l_1000, l_1400, l_2000, l_4000, l_10000, iN_add, iN_sub, iN_mul, iN_le_t, iN_le_f, iN_lt_t, iN_lt_f, iN_eq_f, inb_iN, ix_iN, isZ_0, isZ_1, ↓reduceIte, eq_self, g, em, if_pos c]
    · right
      rw [if_pos (by rw [decide_eq_false c]; decide)] at i0
      refine ⟨G', ?_, fr_tr i2 f1⟩
      show f_X0_ticksTill_l13_5 o q t v (f + 1) (iN (k + 1)) G2 = _
      unfold f_X0_ticksTill_l13_5
      simp (disch := omega) only [chk_t, beq_self_eq_true, nm_s, bj1_s, bj2_s, bj3_s, mo_1, mo_0, l_0, l_1, l_2, l_3, l_4, l_5, l_6, l_7, l_8, l_9, l_10, l_11, l_12, l_13, l_14, l_15, l_16, l_17, l_18, l_19, l_20, l_21, l_30, l_31, l_32, l_36, l_40, l_41, l_42, l_43, l_44, l_45, l_46, l_47, l_48, l_49, l_50, l_51, l_52, l_57, l_58, l_60, l_64, l_72, l_80, l_92, l_98, l_99, l_100, l_102, l_105, l_111, l_112, l_114, l_115, l_116, l_117, l_120, l_144, l_200, l_201, l_240, l_300, l_320, l_400, l_500, l_550, l_560, l_649, l_650, l_1000, l_1400, l_2000, l_4000, l_10000, iN_add, iN_sub, iN_mul, iN_le_t, iN_le_f, iN_lt_t, iN_lt_f, iN_eq_f, inb_iN, ix_iN, isZ_0, isZ_1, ↓reduceIte, eq_self, g, em, if_neg c]
      rw [i0]
  · intro f G2 ⟨_, i0, i1, i2⟩
    refine ⟨G2, ?_, i2⟩
    show f_X0_ticksTill_l13_5 o q t v (f + 1) (iN 201) G2 = _
    rw [← i0]
    unfold f_X0_ticksTill_l13_5
    simp (disch := omega) only [chk_t, beq_self_eq_true, nm_s, bj1_s, bj2_s, bj3_s, mo_1, mo_0, l_0, l_1, l_2, l_3, l_4, l_5, l_6, l_7, l_8, l_9, l_10, l_11, l_12, l_13, l_14, l_15, l_16, l_17, l_18, l_19, l_20, l_21, l_30, l_31, l_32, l_36, l_40, l_41, l_42, l_43, l_44, l_45, l_46, l_47, l_48, l_49, l_50, l_51, l_52, l_57, l_58, l_60, l_64, l_72, l_80, l_92, l_98, l_99, l_100, l_102, l_105, l_111, l_112, l_114, l_115, l_116, l_117, l_120, l_144, l_200, l_201, l_240, l_300, l_320, l_400, l_500, l_550, l_560, l_649, l_650, l_1000, l_1400, l_2000, l_4000, l_10000, iN_add, iN_sub, iN_mul, iN_le_t, iN_le_f, iN_lt_t, iN_lt_f, iN_eq_f, inb_iN, ix_iN, isZ_0, isZ_1, ↓reduceIte, eq_self]
    rfl

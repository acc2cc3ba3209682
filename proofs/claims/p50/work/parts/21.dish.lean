/-! the calls of a dish: what the class answers, and what it changes -/
theorem rowAt_t {k : Nat} (h : k < 6) (G : G_) : f_X7_rowAt (iN k) G = some (some (51 + 2 * k)) ∧ kd (51 + 2 * k) = 4 := by
  rcases row_cases (iN k) G with ⟨e, _⟩ | ⟨j, hj, e, _, c, ho⟩
  · rw [inS_t (by omega) (by omega)] at e
    exact absurd e (by decide)
  · have := (iN_inj (by omega) (by omega)).mp e
    subst this
    exact ⟨c, ho⟩
theorem textAt_t {k : Nat} (h : k < 4) (G : G_) : f_X7_textAt (iN k) G = some (some (63 + 2 * k)) ∧ kd (63 + 2 * k) = 6 := by
  rcases text_cases (iN k) G with ⟨e, _⟩ | ⟨j, hj, e, _, c, ho⟩
  · rw [inS_t (by omega) (by omega)] at e
    exact absurd e (by decide)
  · have := (iN_inj (by omega) (by omega)).mp e
    subst this
    exact ⟨c, ho⟩
theorem depth_c {i w n mm : Nat} {D : Nat → Int32} {G : G_} (r1 : G.1 5 7 = iN 1) (hg : gD D n mm) (hc : cD 5 D G) (ci : i < n) (hw : w ≤ 2) : f_X7_depth (iN i) (iN w) G = some (iN 1, sI G 0 16 (D (52 + 20 * w + i))) := by
  have hn := hg.1.1
  have hb := hn.2
  have e8 : G.1 5 8 = iN n := (c_8 hc).trans hn.1
  have e1 := in_1 (a := 0) (k := i) (b := 19) (by omega) (by omega)
  have e2 := in_1 (a := 0) (k := w) (b := 2) (by omega) (by omega)
  have hw' : w = 0 ∨ w = 1 ∨ w = 2 := by omega
  have eC : f_X0_depthTells 5 (iN i) (iN w) G = some (D (52 + 20 * w + i)) := by
    unfold f_X0_depthTells
    rcases hw' with rfl | rfl | rfl
    · simp (disch := omega) only [chk_t, beq_self_eq_true, nm_s, bj1_s, bj2_s, bj3_s, mo_1, mo_0, l_0, l_1, l_2, l_3, l_4, l_5, l_6, l_7, l_8, l_9, l_10, l_11, l_12, l_13, l_14, l_15, l_16, l_17, l_18, l_19, l_20, l_21, l_24, l_30, l_31, l_32, l_36, l_40, l_41, l_42, l_43, l_44, l_45, l_46, l_47, l_48, l_49, l_50, l_51, l_52, l_57, l_58, l_60, l_61, l_64, l_72, l_80, l_92, l_98, l_99, l_100, l_102, l_105, l_111, l_112, l_114, l_115, l_116, l_117, l_120, l_144, l_200, l_201, l_240, l_300, l_320, l_400, l_500, l_512, l_550, l_560, l_649, l_650, l_1000, l_1032, l_1400, l_2000, l_4000, l_10000, l_268435455, iN_add, iN_sub, iN_mul, iN_le_t, iN_le_f, iN_lt_t, iN_lt_f, iN_eq_f, inb_iN, ix_iN, isZ_0, isZ_1, ↓reduceIte, eq_self, kd_b kd5, warmthAt_ok kd5 hn hc ci]
    · simp (disch := omega) only [chk_t, beq_self_eq_true, nm_s, bj1_s, bj2_s, bj3_s, mo_1, mo_0, l_0, l_1, l_2, l_3, l_4, l_5, l_6, l_7, l_8, l_9, l_10, l_11, l_12, l_13, l_14, l_15, l_16, l_17, l_18, l_19, l_20, l_21, l_24, l_30, l_31, l_32, l_36, l_40, l_41, l_42, l_43, l_44, l_45, l_46, l_47, l_48, l_49, l_50, l_51, l_52, l_57, l_58, l_60, l_61, l_64, l_72, l_80, l_92, l_98, l_99, l_100, l_102, l_105, l_111, l_112, l_114, l_115, l_116, l_117, l_120, l_144, l_200, l_201, l_240, l_300, l_320, l_400, l_500, l_512, l_550, l_560, l_649, l_650, l_1000, l_1032, l_1400, l_2000, l_4000, l_10000, l_268435455, iN_add, iN_sub, iN_mul, iN_le_t, iN_le_f, iN_lt_t, iN_lt_f, iN_eq_f, inb_iN, ix_iN, isZ_0, isZ_1, ↓reduceIte, eq_self, kd_b kd5, mostAt_ok kd5 hn hc ci]
    · simp (disch := omega) only [chk_t, beq_self_eq_true, nm_s, bj1_s, bj2_s, bj3_s, mo_1, mo_0, l_0, l_1, l_2, l_3, l_4, l_5, l_6, l_7, l_8, l_9, l_10, l_11, l_12, l_13, l_14, l_15, l_16, l_17, l_18, l_19, l_20, l_21, l_24, l_30, l_31, l_32, l_36, l_40, l_41, l_42, l_43, l_44, l_45, l_46, l_47, l_48, l_49, l_50, l_51, l_52, l_57, l_58, l_60, l_61, l_64, l_72, l_80, l_92, l_98, l_99, l_100, l_102, l_105, l_111, l_112, l_114, l_115, l_116, l_117, l_120, l_144, l_200, l_201, l_240, l_300, l_320, l_400, l_500, l_512, l_550, l_560, l_649, l_650, l_1000, l_1032, l_1400, l_2000, l_4000, l_10000, l_268435455, iN_add, iN_sub, iN_mul, iN_le_t, iN_le_f, iN_lt_t, iN_lt_f, iN_eq_f, inb_iN, ix_iN, isZ_0, isZ_1, ↓reduceIte, eq_self, kd_b kd5, juiceAt_ok kd5 hn hc ci]
  unfold f_X7_depth f_X7_told
  simp (disch := omega) only [chk_t, beq_self_eq_true, nm_s, bj1_s, bj2_s, bj3_s, mo_1, mo_0, l_0, l_1, l_2, l_3, l_4, l_5, l_6, l_7, l_8, l_9, l_10, l_11, l_12, l_13, l_14, l_15, l_16, l_17, l_18, l_19, l_20, l_21, l_24, l_30, l_31, l_32, l_36, l_40, l_41, l_42, l_43, l_44, l_45, l_46, l_47, l_48, l_49, l_50, l_51, l_52, l_57, l_58, l_60, l_61, l_64, l_72, l_80, l_92, l_98, l_99, l_100, l_102, l_105, l_111, l_112, l_114, l_115, l_116, l_117, l_120, l_144, l_200, l_201, l_240, l_300, l_320, l_400, l_500, l_512, l_550, l_560, l_649, l_650, l_1000, l_1032, l_1400, l_2000, l_4000, l_10000, l_268435455, iN_add, iN_sub, iN_mul, iN_le_t, iN_le_f, iN_lt_t, iN_lt_f, iN_eq_f, inb_iN, ix_iN, isZ_0, isZ_1, ↓reduceIte, eq_self, e1, e2, r1, e8, eC]
theorem skin_c {s w n mm : Nat} {D : Nat → Int32} {G : G_} (r1 : G.1 5 7 = iN 1) (hg : gD D n mm) (hc : cD 5 D G) (hs : s < 2) (hw : w ≤ 3) : f_X7_skin (iN s) (iN w) G = some (iN 1, sI G 0 16 (skinS s w D)) := by
  have e1 := in_1 (a := 0) (k := s) (b := 1) (by omega) (by omega)
  have e2 := in_1 (a := 0) (k := w) (b := 3) (by omega) (by omega)
  unfold f_X7_skin f_X7_told
  simp (disch := omega) only [chk_t, beq_self_eq_true, nm_s, bj1_s, bj2_s, bj3_s, mo_1, mo_0, l_0, l_1, l_2, l_3, l_4, l_5, l_6, l_7, l_8, l_9, l_10, l_11, l_12, l_13, l_14, l_15, l_16, l_17, l_18, l_19, l_20, l_21, l_24, l_30, l_31, l_32, l_36, l_40, l_41, l_42, l_43, l_44, l_45, l_46, l_47, l_48, l_49, l_50, l_51, l_52, l_57, l_58, l_60, l_61, l_64, l_72, l_80, l_92, l_98, l_99, l_100, l_102, l_105, l_111, l_112, l_114, l_115, l_116, l_117, l_120, l_144, l_200, l_201, l_240, l_300, l_320, l_400, l_500, l_512, l_550, l_560, l_649, l_650, l_1000, l_1032, l_1400, l_2000, l_4000, l_10000, l_268435455, iN_add, iN_sub, iN_mul, iN_le_t, iN_le_f, iN_lt_t, iN_lt_f, iN_eq_f, inb_iN, ix_iN, isZ_0, isZ_1, ↓reduceIte, eq_self, e1, e2, r1, cskin_ok kd5 hc hs hw]
theorem just_c {a b n mm : Nat} {D : Nat → Int32} {G : G_} (r1 : G.1 5 7 = iN 1) (hg : gD D n mm) (hc : cD 5 D G) (hab : a ≤ b) (hb : b ≤ 4000) : f_X7_just (iN a) (iN b) G = some (justS (iN a) (iN b) D, sI G 0 16 (juicesS D)) := by
  have w7 := isSpan_1 hab hb
  unfold f_X7_just f_X7_told
  simp (disch := omega) only [chk_t, beq_self_eq_true, nm_s, bj1_s, bj2_s, bj3_s, mo_1, mo_0, l_0, l_1, l_2, l_3, l_4, l_5, l_6, l_7, l_8, l_9, l_10, l_11, l_12, l_13, l_14, l_15, l_16, l_17, l_18, l_19, l_20, l_21, l_24, l_30, l_31, l_32, l_36, l_40, l_41, l_42, l_43, l_44, l_45, l_46, l_47, l_48, l_49, l_50, l_51, l_52, l_57, l_58, l_60, l_61, l_64, l_72, l_80, l_92, l_98, l_99, l_100, l_102, l_105, l_111, l_112, l_114, l_115, l_116, l_117, l_120, l_144, l_200, l_201, l_240, l_300, l_320, l_400, l_500, l_512, l_550, l_560, l_649, l_650, l_1000, l_1032, l_1400, l_2000, l_4000, l_10000, l_268435455, iN_add, iN_sub, iN_mul, iN_le_t, iN_le_f, iN_lt_t, iN_lt_f, iN_eq_f, inb_iN, ix_iN, isZ_0, isZ_1, ↓reduceIte, eq_self, w7, r1, cjust_ok kd5 hg.1.1 hc, cjuice_ok kd5 hg.1.1 hc]
theorem go_c {c n mm : Nat} {D : Nat → Int32} {G : G_} (r1 : G.1 5 7 = iN 1) (hg : gD D n mm) (hcd : cD 5 D G) (hc : c ≤ 200) (c3 : D 43 + iN c ≤ iN 300) : ∃ A, f_X7_go (iN c) G = some (goS D c 43, A) ∧ cD 5 (goS D c) A ∧ fr 5 G A := by
  have e1 := in_1 (a := 0) (k := c) (b := 200) (by omega) (by omega)
  have r12 : G.1 5 12 = D 43 := c_12 hcd
  obtain ⟨A, hA, cA, fA⟩ := cgo_ok (c := c) kd5 hg (by omega) hcd
  have a12 : A.1 5 12 = goS D c 43 := c_12 cA
  refine ⟨A, ?_, cA, fA⟩
  unfold f_X7_go
  simp (disch := omega) only [chk_t, beq_self_eq_true, nm_s, bj1_s, bj2_s, bj3_s, mo_1, mo_0, l_0, l_1, l_2, l_3, l_4, l_5, l_6, l_7, l_8, l_9, l_10, l_11, l_12, l_13, l_14, l_15, l_16, l_17, l_18, l_19, l_20, l_21, l_24, l_30, l_31, l_32, l_36, l_40, l_41, l_42, l_43, l_44, l_45, l_46, l_47, l_48, l_49, l_50, l_51, l_52, l_57, l_58, l_60, l_61, l_64, l_72, l_80, l_92, l_98, l_99, l_100, l_102, l_105, l_111, l_112, l_114, l_115, l_116, l_117, l_120, l_144, l_200, l_201, l_240, l_300, l_320, l_400, l_500, l_512, l_550, l_560, l_649, l_650, l_1000, l_1032, l_1400, l_2000, l_4000, l_10000, l_268435455, iN_add, iN_sub, iN_mul, iN_le_t, iN_le_f, iN_lt_t, iN_lt_f, iN_eq_f, inb_iN, ix_iN, isZ_0, isZ_1, ↓reduceIte, eq_self, e1, r1, r12, if_pos c3, hA, a12]
theorem dish_c {s p n mm : Nat} {X : Nat → Int32} {G : G_} (hs : s < 4) (q1 : G.1 (71 + s) 0 = iN 1) (hX2 : cSl (71 + s) X G) (hX1 : slR X n) (hp : p < 4) (t1 : G.1 (75 + 4 * p) 3 = iN 1) (hX4 : cPl (75 + 4 * p) X G) (hX3 : plR X mm) : ∃ A, f_X7_dish (iN s) (iN p) G = some (tkS X, A) ∧ cD 5 (bgS X) A ∧ A.1 5 7 = iN 1 ∧ (∀ q, q < 5 ∨ 16 ≤ q → A.1 q = G.1 q) ∧ A.2 = G.2 := by
  obtain ⟨c1, ho1⟩ := slabAt_t hs G
  obtain ⟨c2, ho2⟩ := planAt_t hp G
  have e5 : G.1 (75 + 4 * p) 5 = tkS X := hX4.2.1
  obtain ⟨G1, G2, g1, g2, c5, f1, f2⟩ := beginP_ok kd5 ho1 (by omega) ho2 (by omega) hX1.1 hX2.2.1 hX2.2.2.2 hX3.1 hX3.2.1 hX4
  have eA : ∀ q, q < 5 ∨ 16 ≤ q → (sI G2 5 7 (iN 1)).1 q = G.1 q := fun q hq => by rw [sI_p (by omega), f2.1.1 q (by omega), f1.1.1 q (by omega)]
  have cA : cD 5 (bgS X) (sI G2 5 7 (iN 1)) := by
    intro d j hc
    rw [← c5 d j hc]
    by_cases cc : d = 0
    · subst cc
      exact sI_j (by unfold cok at hc; omega)
    · rw [sI_p (by omega)]
  have x1 : G.1 (71 + s) 1 = iN n := hX2.1.trans hX1.1.1
  have x3 : G.1 (71 + s) 3 = X 2 := hX2.2.2.1
  have x5 : G2.1 (75 + 4 * p) 5 = tkS X := by rw [f2.1.1 _ (by omega), f1.1.1 _ (by omega)]; exact e5
  refine ⟨_, ?_, cA, sI_eq, eA, f2.1.2.trans f1.1.2⟩
  unfold f_X7_dish
  simp (disch := omega) only [chk_t, beq_self_eq_true, nm_s, bj1_s, bj2_s, bj3_s, mo_1, mo_0, l_0, l_1, l_2, l_3, l_4, l_5, l_6, l_7, l_8, l_9, l_10, l_11, l_12, l_13, l_14, l_15, l_16, l_17, l_18, l_19, l_20, l_21, l_24, l_30, l_31, l_32, l_36, l_40, l_41, l_42, l_43, l_44, l_45, l_46, l_47, l_48, l_49, l_50, l_51, l_52, l_57, l_58, l_60, l_61, l_64, l_72, l_80, l_92, l_98, l_99, l_100, l_102, l_105, l_111, l_112, l_114, l_115, l_116, l_117, l_120, l_144, l_200, l_201, l_240, l_300, l_320, l_400, l_500, l_512, l_550, l_560, l_649, l_650, l_1000, l_1032, l_1400, l_2000, l_4000, l_10000, l_268435455, iN_add, iN_sub, iN_mul, iN_le_t, iN_le_f, iN_lt_t, iN_lt_f, iN_eq_f, inb_iN, ix_iN, isZ_0, isZ_1, ↓reduceIte, eq_self, c1, c2, kd_b ho1, kd_b ho2, q1, t1, x1, x3, g1, g2, sI_p, x5]
theorem slice_c {r n mm : Nat} {D : Nat → Int32} {G : G_} (hr : r < 6) (r1 : G.1 5 7 = iN 1) (hg : gD D n mm) (hcd : cD 5 D G) : ∃ B, f_X7_slice (iN r) G = some (pinkS D, B) ∧ B.1 (51 + 2 * r) 1 = iN n ∧ (∀ i, i < 40 → B.1 (51 + 2 * r + 1) i = if i < n then colS D i else iN 0) ∧ (∀ q, q ≠ 51 + 2 * r → q ≠ 51 + 2 * r + 1 → B.1 q = G.1 q) ∧ B.2 = G.2 := by
  obtain ⟨c1, ho⟩ := rowAt_t hr G
  have hn := hg.1.1
  have hb := hn.2
  have e8 : G.1 5 8 = iN n := (c_8 hcd).trans hn.1
  obtain ⟨A, hA, a0, a1, a3, a4⟩ := rbegin_ok (o := 51 + 2 * r) (z := n) (G := G) ho (by omega)
  have cA : ∀ B : G_, (∀ q, q ≠ 51 + 2 * r → q ≠ 51 + 2 * r + 1 → B.1 q = G.1 q) → cD 5 (D) B := fun B hB => cD_fr hcd (fun q h1 h2 => hB q (by omega) (by omega))
  have hL : ∃ B, f_X7_slice_l38_9 (51 + 2 * r) FU (iN 0) A = some B ∧ B.1 (51 + 2 * r) 1 = iN n ∧ (∀ i, i < 40 → B.1 (51 + 2 * r + 1) i = if i < n then colS (D) i else iN 0) ∧ (∀ q, q ≠ 51 + 2 * r → q ≠ 51 + 2 * r + 1 → B.1 q = G.1 q) ∧ B.2 = G.2 := by
    refine loop_h (fun f v s => f_X7_slice_l38_9 (51 + 2 * r) f v s) (fun j B => B.1 (51 + 2 * r) 1 = iN n ∧ (∀ i, i < 40 → B.1 (51 + 2 * r + 1) i = if i < j then colS (D) i else iN 0) ∧ (∀ q, q ≠ 51 + 2 * r → q ≠ 51 + 2 * r + 1 → B.1 q = G.1 q) ∧ B.2 = G.2) _ 0 n ?_ ?_ (by omega) (n := FU) (fu_lt (by omega)) ⟨a0, fun i hi => by rw [if_neg (by omega)]; exact a1 i hi, a3, a4⟩
    · intro f j B h3 h4 ⟨i0, i1, i2, i3⟩
      refine ⟨sI B (51 + 2 * r + 1) j (colS (D) j), ⟨by rw [sI_p (by omega)]; exact i0, fun i hi => ?_, fun q h1 h2 => by rw [sI_p h2]; exact i2 q h1 h2, i3⟩, ?_⟩
      · by_cases c : i = j
        · subst c
          rw [sI_eq, if_pos (by omega)]
        · rw [sI_j c, i1 i hi]
          by_cases c2 : i < j
          · rw [if_pos c2, if_pos (by omega)]
          · rw [if_neg c2, if_neg (by omega)]
      · have b8 : B.1 5 8 = iN n := by rw [i2 5 (by omega) (by omega)]; exact e8
        show f_X7_slice_l38_9 (51 + 2 * r) (f + 1) (iN j) B = _
        conv => lhs; unfold f_X7_slice_l38_9
        simp (disch := omega) only [chk_t, beq_self_eq_true, nm_s, bj1_s, bj2_s, bj3_s, mo_1, mo_0, l_0, l_1, l_2, l_3, l_4, l_5, l_6, l_7, l_8, l_9, l_10, l_11, l_12, l_13, l_14, l_15, l_16, l_17, l_18, l_19, l_20, l_21, l_24, l_30, l_31, l_32, l_36, l_40, l_41, l_42, l_43, l_44, l_45, l_46, l_47, l_48, l_49, l_50, l_51, l_52, l_57, l_58, l_60, l_61, l_64, l_72, l_80, l_92, l_98, l_99, l_100, l_102, l_105, l_111, l_112, l_114, l_115, l_116, l_117, l_120, l_144, l_200, l_201, l_240, l_300, l_320, l_400, l_500, l_512, l_550, l_560, l_649, l_650, l_1000, l_1032, l_1400, l_2000, l_4000, l_10000, l_268435455, iN_add, iN_sub, iN_mul, iN_le_t, iN_le_f, iN_lt_t, iN_lt_f, iN_eq_f, inb_iN, ix_iN, isZ_0, isZ_1, ↓reduceIte, eq_self, b8, ccol_ok kd5 hn (cA B i2) h4, rset_ok ho i0 (show n ≤ 40 by omega) h4]
    · intro f B ⟨i0, i1, i2, i3⟩
      refine ⟨B, ?_, i0, i1, i2, i3⟩
      have b8 : B.1 5 8 = iN n := by rw [i2 5 (by omega) (by omega)]; exact e8
      show f_X7_slice_l38_9 (51 + 2 * r) (f + 1) (iN n) B = _
      unfold f_X7_slice_l38_9
      simp (disch := omega) only [chk_t, beq_self_eq_true, nm_s, bj1_s, bj2_s, bj3_s, mo_1, mo_0, l_0, l_1, l_2, l_3, l_4, l_5, l_6, l_7, l_8, l_9, l_10, l_11, l_12, l_13, l_14, l_15, l_16, l_17, l_18, l_19, l_20, l_21, l_24, l_30, l_31, l_32, l_36, l_40, l_41, l_42, l_43, l_44, l_45, l_46, l_47, l_48, l_49, l_50, l_51, l_52, l_57, l_58, l_60, l_61, l_64, l_72, l_80, l_92, l_98, l_99, l_100, l_102, l_105, l_111, l_112, l_114, l_115, l_116, l_117, l_120, l_144, l_200, l_201, l_240, l_300, l_320, l_400, l_500, l_512, l_550, l_560, l_649, l_650, l_1000, l_1032, l_1400, l_2000, l_4000, l_10000, l_268435455, iN_add, iN_sub, iN_mul, iN_le_t, iN_le_f, iN_lt_t, iN_lt_f, iN_eq_f, inb_iN, ix_iN, isZ_0, isZ_1, ↓reduceIte, eq_self, b8]
  obtain ⟨B, hB, b0, b1, b2, b3⟩ := hL
  refine ⟨B, ?_, b0, b1, b2, b3⟩
  unfold f_X7_slice
  simp (disch := omega) only [chk_t, beq_self_eq_true, nm_s, bj1_s, bj2_s, bj3_s, mo_1, mo_0, l_0, l_1, l_2, l_3, l_4, l_5, l_6, l_7, l_8, l_9, l_10, l_11, l_12, l_13, l_14, l_15, l_16, l_17, l_18, l_19, l_20, l_21, l_24, l_30, l_31, l_32, l_36, l_40, l_41, l_42, l_43, l_44, l_45, l_46, l_47, l_48, l_49, l_50, l_51, l_52, l_57, l_58, l_60, l_61, l_64, l_72, l_80, l_92, l_98, l_99, l_100, l_102, l_105, l_111, l_112, l_114, l_115, l_116, l_117, l_120, l_144, l_200, l_201, l_240, l_300, l_320, l_400, l_500, l_512, l_550, l_560, l_649, l_650, l_1000, l_1032, l_1400, l_2000, l_4000, l_10000, l_268435455, iN_add, iN_sub, iN_mul, iN_le_t, iN_le_f, iN_lt_t, iN_lt_f, iN_eq_f, inb_iN, ix_iN, isZ_0, isZ_1, ↓reduceIte, eq_self, c1, kd_b ho, r1, e8, hA, hB, cpink_ok kd5 hn (cA B b2)]
theorem cut_c {c n mm : Nat} {D : Nat → Int32} {G : G_} (r7 : G.1 5 7 = iN 1) (hg : gD D n mm) (hcd : cD 5 D G) (hc : c ≤ 60) : ∃ B, f_X7_cut (iN c) G = some (lossS D, sI B 0 16 (lossS (restS D c))) ∧ cc G B := by
  have e1 := in_1 (a := 0) (k := c) (b := 60) (by omega) (by omega)
  obtain ⟨at_, g, hp⟩ := hg.2
  obtain ⟨A, hA, cA, fA, A7⟩ := become_ok (o := 17) (a := 5) rfl kd5 (by omega) hg.1.1 hp.1 hp.2.1 (by rw [r7]; exact isZ_1) hcd
  obtain ⟨B, hB, cB, fB⟩ := crest_ok (c := c) rfl hg.1 (by omega) cA
  have wE := wf_rest (k := c) hg.1
  have cB5 : cD 5 D B := cD_fr hcd (fun q h1 h2 => by rw [fB.1.1 q (by omega), fA.1 q (by omega)])
  have eB : ∀ q, q < 17 ∨ 49 < q → B.1 q = G.1 q := fun q hq => by rw [fB.1.1 q (by omega), fA.1 q (by omega)]
  have ccB : cc G B := ⟨eB, fB.1.2.trans fA.2, fun _ => by rw [fB.2, A7, r7]; exact isZ_1⟩
  have l5 := closs_ok kd5 hg.1.1 hg.1.2.2.1 hg.1.2.2.2 cB5
  have l17 := closs_ok (o := 17) rfl wE.1 wE.2.2.1 wE.2.2.2 cB
  refine ⟨B, ?_, ccB⟩
  unfold f_X7_cut f_X7_told
  simp (disch := omega) only [chk_t, beq_self_eq_true, nm_s, bj1_s, bj2_s, bj3_s, mo_1, mo_0, l_0, l_1, l_2, l_3, l_4, l_5, l_6, l_7, l_8, l_9, l_10, l_11, l_12, l_13, l_14, l_15, l_16, l_17, l_18, l_19, l_20, l_21, l_24, l_30, l_31, l_32, l_36, l_40, l_41, l_42, l_43, l_44, l_45, l_46, l_47, l_48, l_49, l_50, l_51, l_52, l_57, l_58, l_60, l_61, l_64, l_72, l_80, l_92, l_98, l_99, l_100, l_102, l_105, l_111, l_112, l_114, l_115, l_116, l_117, l_120, l_144, l_200, l_201, l_240, l_300, l_320, l_400, l_500, l_512, l_550, l_560, l_649, l_650, l_1000, l_1032, l_1400, l_2000, l_4000, l_10000, l_268435455, iN_add, iN_sub, iN_mul, iN_le_t, iN_le_f, iN_lt_t, iN_lt_f, iN_eq_f, inb_iN, ix_iN, isZ_0, isZ_1, ↓reduceIte, eq_self, e1, r7, hA, hB, l5, l17]
theorem rise_c {n mm : Nat} {D : Nat → Int32} {G : G_} (r7 : G.1 5 7 = iN 1) (hg : gD D n mm) (hcd : cD 5 D G) : ∃ B, f_X7_rise G = some (riB (fun k => midW (restS D k)) 60 - midW D, sI B 0 16 (riA (fun k => midW (restS D k)) 60)) ∧ cc G B := by
  obtain ⟨at_, g, hp⟩ := hg.2
  obtain ⟨A, hA, cA, fA, A7⟩ := become_ok (o := 17) (a := 5) rfl kd5 (by omega) hg.1.1 hp.1 hp.2.1 (by rw [r7]; exact isZ_1) hcd
  have hn := hg.1.1
  have x0 := midW_ok (o := 17) rfl hn cA
  have hL : ∃ r, f_X7_rise_l39_9 (midW (D)) FU (midW (D)) (iN 0) (iN 1) A = some r ∧ r.1 = riB (fun k => midW (restS (D) k)) 60 ∧ r.2.1 = riA (fun k => midW (restS (D) k)) 60 ∧ fr 17 A r.2.2 := by
    refine loop_h (fun f v (s : Int32 × Int32 × G_) => f_X7_rise_l39_9 (midW (D)) f s.1 s.2.1 v s.2.2) (fun j s => s.1 = riB (fun k => midW (restS (D) k)) (j - 1) ∧ s.2.1 = riA (fun k => midW (restS (D) k)) (j - 1) ∧ cD 17 (restS (D) (j - 1)) s.2.2 ∧ fr 17 A s.2.2) _ 1 61 ?_ ?_ (by omega) (n := FU) (fu_lt (by omega)) (s := (midW (D), iN 0, A)) ⟨rfl, rfl, cA, fr_refl⟩
    · intro f j ⟨x, y, B⟩ h3 h4 ⟨i0, i1, i2, i3⟩
      obtain ⟨k, rfl⟩ : ∃ k, j = k + 1 := ⟨j - 1, by omega⟩
      rw [show k + 1 - 1 = k by omega] at i0 i1 i2
      have i0 : x = _ := i0
      have i1 : y = _ := i1
      obtain ⟨C, gC, cC, fC⟩ := heat_ok (k := iN 4) (o := 17) rfl (wf_rest (k := k) hg.1) qR_0 i2
      have xm := midW_ok (o := 17) rfl (wf_rest (k := k + 1) hg.1).1 cC
      refine ⟨(riB (fun k => midW (restS (D) k)) (k + 1), riA (fun k => midW (restS (D) k)) (k + 1), C), ⟨rfl, rfl, cC, fr_tr i3 fC⟩, ?_⟩
      show f_X7_rise_l39_9 (midW (D)) (f + 1) x y (iN (k + 1)) B = f_X7_rise_l39_9 (midW (D)) f (riB (fun k => midW (restS (D) k)) (k + 1)) (riA (fun k => midW (restS (D) k)) (k + 1)) (iN (k + 1 + 1)) C
      conv => lhs; unfold f_X7_rise_l39_9
      by_cases c : midW (restS (D) (k + 1)) ≤ x
      · have e1 : riB (fun k => midW (restS (D) k)) (k + 1) = x := by unfold riB; rw [← i0, if_pos c]
        have e2 : riA (fun k => midW (restS (D) k)) (k + 1) = y := by unfold riA; rw [← i0, if_pos c, i1]
        rw [e1, e2]
        simp (disch := omega) only [chk_t, beq_self_eq_true, nm_s, bj1_s, bj2_s, bj3_s, mo_1, mo_0, l_0, l_1, l_2, l_3, l_4, l_5, l_6, l_7, l_8, l_9, l_10, l_11, l_12, l_13, l_14, l_15, l_16, l_17, l_18, l_19, l_20, l_21, l_24, l_30, l_31, l_32, l_36, l_40, l_41, l_42, l_43, l_44, l_45, l_46, l_47, l_48, l_49, l_50, l_51, l_52, l_57, l_58, l_60, l_61, l_64, l_72, l_80, l_92, l_98, l_99, l_100, l_102, l_105, l_111, l_112, l_114, l_115, l_116, l_117, l_120, l_144, l_200, l_201, l_240, l_300, l_320, l_400, l_500, l_512, l_550, l_560, l_649, l_650, l_1000, l_1032, l_1400, l_2000, l_4000, l_10000, l_268435455, iN_add, iN_sub, iN_mul, iN_le_t, iN_le_f, iN_lt_t, iN_lt_f, iN_eq_f, inb_iN, ix_iN, isZ_0, isZ_1, ↓reduceIte, eq_self, gC, xm, if_pos c]
      · have e1 : riB (fun k => midW (restS (D) k)) (k + 1) = midW (restS (D) (k + 1)) := by unfold riB; rw [← i0, if_neg c]
        have e2 : riA (fun k => midW (restS (D) k)) (k + 1) = iN (k + 1) := by unfold riA; rw [← i0, if_neg c]
        rw [e1, e2]
        simp (disch := omega) only [chk_t, beq_self_eq_true, nm_s, bj1_s, bj2_s, bj3_s, mo_1, mo_0, l_0, l_1, l_2, l_3, l_4, l_5, l_6, l_7, l_8, l_9, l_10, l_11, l_12, l_13, l_14, l_15, l_16, l_17, l_18, l_19, l_20, l_21, l_24, l_30, l_31, l_32, l_36, l_40, l_41, l_42, l_43, l_44, l_45, l_46, l_47, l_48, l_49, l_50, l_51, l_52, l_57, l_58, l_60, l_61, l_64, l_72, l_80, l_92, l_98, l_99, l_100, l_102, l_105, l_111, l_112, l_114, l_115, l_116, l_117, l_120, l_144, l_200, l_201, l_240, l_300, l_320, l_400, l_500, l_512, l_550, l_560, l_649, l_650, l_1000, l_1032, l_1400, l_2000, l_4000, l_10000, l_268435455, iN_add, iN_sub, iN_mul, iN_le_t, iN_le_f, iN_lt_t, iN_lt_f, iN_eq_f, inb_iN, ix_iN, isZ_0, isZ_1, ↓reduceIte, eq_self, gC, xm, if_neg c]
    · intro f ⟨x, y, B⟩ ⟨i0, i1, i2, i3⟩
      refine ⟨(x, y, B), ?_, i0, i1, i3⟩
      show f_X7_rise_l39_9 (midW (D)) (f + 1) x y (iN 61) B = _
      unfold f_X7_rise_l39_9
      simp (disch := omega) only [chk_t, beq_self_eq_true, nm_s, bj1_s, bj2_s, bj3_s, mo_1, mo_0, l_0, l_1, l_2, l_3, l_4, l_5, l_6, l_7, l_8, l_9, l_10, l_11, l_12, l_13, l_14, l_15, l_16, l_17, l_18, l_19, l_20, l_21, l_24, l_30, l_31, l_32, l_36, l_40, l_41, l_42, l_43, l_44, l_45, l_46, l_47, l_48, l_49, l_50, l_51, l_52, l_57, l_58, l_60, l_61, l_64, l_72, l_80, l_92, l_98, l_99, l_100, l_102, l_105, l_111, l_112, l_114, l_115, l_116, l_117, l_120, l_144, l_200, l_201, l_240, l_300, l_320, l_400, l_500, l_512, l_550, l_560, l_649, l_650, l_1000, l_1032, l_1400, l_2000, l_4000, l_10000, l_268435455, iN_add, iN_sub, iN_mul, iN_le_t, iN_le_f, iN_lt_t, iN_lt_f, iN_eq_f, inb_iN, ix_iN, isZ_0, isZ_1, ↓reduceIte, eq_self]
  obtain ⟨⟨x, y, B⟩, hB, ex, ey, fB⟩ := hL
  have ex : x = _ := ex
  have ey : y = _ := ey
  have eB : ∀ q, q < 17 ∨ 49 < q → B.1 q = G.1 q := fun q hq => by
    have h1 := fB.1.1 q (by omega)
    rw [h1, fA.1 q (by omega)]
  have ccB : cc G B := ⟨eB, fB.1.2.trans fA.2, fun _ => by rw [fB.2, A7, r7]; exact isZ_1⟩
  refine ⟨B, ?_, ccB⟩
  have hB' : f_X7_rise_l39_9 (midW D) FU (midW D) (iN 0) (iN 1) A = some (x, y, B) := hB
  rw [← ex, ← ey]
  unfold f_X7_rise f_X7_told
  simp (disch := omega) only [chk_t, beq_self_eq_true, nm_s, bj1_s, bj2_s, bj3_s, mo_1, mo_0, l_0, l_1, l_2, l_3, l_4, l_5, l_6, l_7, l_8, l_9, l_10, l_11, l_12, l_13, l_14, l_15, l_16, l_17, l_18, l_19, l_20, l_21, l_24, l_30, l_31, l_32, l_36, l_40, l_41, l_42, l_43, l_44, l_45, l_46, l_47, l_48, l_49, l_50, l_51, l_52, l_57, l_58, l_60, l_61, l_64, l_72, l_80, l_92, l_98, l_99, l_100, l_102, l_105, l_111, l_112, l_114, l_115, l_116, l_117, l_120, l_144, l_200, l_201, l_240, l_300, l_320, l_400, l_500, l_512, l_550, l_560, l_649, l_650, l_1000, l_1032, l_1400, l_2000, l_4000, l_10000, l_268435455, iN_add, iN_sub, iN_mul, iN_le_t, iN_le_f, iN_lt_t, iN_lt_f, iN_eq_f, inb_iN, ix_iN, isZ_0, isZ_1, ↓reduceIte, eq_self, r7, hA, x0, hB']
theorem at_c {r z k : Nat} {G : G_} (hr : r < 6) (hz : G.1 (51 + 2 * r) 1 = iN z) (h40 : z ≤ 40) (hk : k < z) : f_X7_at (iN r) (iN k) G = some (iN 1, sI G 0 16 (G.1 (51 + 2 * r + 1) k)) := by
  obtain ⟨c1, ho⟩ := rowAt_t hr G
  rcases rhas_cases ho hz h40 (iN k) with ⟨c2, c3⟩ | ⟨j, hj, e, c2, c3⟩
  · rw [iN_sub (by omega), inS_t (by omega) (by omega)] at c3
    exact absurd c3 (by decide)
  · have e := (iN_inj (by omega) (by omega)).mp e
    subst e
    unfold f_X7_at f_X4_value f_X7_told
    simp (disch := omega) only [chk_t, beq_self_eq_true, nm_s, bj1_s, bj2_s, bj3_s, mo_1, mo_0, l_0, l_1, l_2, l_3, l_4, l_5, l_6, l_7, l_8, l_9, l_10, l_11, l_12, l_13, l_14, l_15, l_16, l_17, l_18, l_19, l_20, l_21, l_24, l_30, l_31, l_32, l_36, l_40, l_41, l_42, l_43, l_44, l_45, l_46, l_47, l_48, l_49, l_50, l_51, l_52, l_57, l_58, l_60, l_61, l_64, l_72, l_80, l_92, l_98, l_99, l_100, l_102, l_105, l_111, l_112, l_114, l_115, l_116, l_117, l_120, l_144, l_200, l_201, l_240, l_300, l_320, l_400, l_500, l_512, l_550, l_560, l_649, l_650, l_1000, l_1032, l_1400, l_2000, l_4000, l_10000, l_268435455, iN_add, iN_sub, iN_mul, iN_le_t, iN_le_f, iN_lt_t, iN_lt_f, iN_eq_f, inb_iN, ix_iN, isZ_0, isZ_1, ↓reduceIte, eq_self, c1, kd_b ho, rthere_t ho hz h40, c2]
theorem tear_c {r z : Nat} {G : G_} (hr : r < 6) (hz : G.1 (51 + 2 * r) 1 = iN z) (h40 : z ≤ 40) : f_X7_tear (iN r) G = some (iN 1, sI G (51 + 2 * r) 1 (-iN 1)) := by
  obtain ⟨c1, ho⟩ := rowAt_t hr G
  unfold f_X7_tear
  simp (disch := omega) only [chk_t, beq_self_eq_true, nm_s, bj1_s, bj2_s, bj3_s, mo_1, mo_0, l_0, l_1, l_2, l_3, l_4, l_5, l_6, l_7, l_8, l_9, l_10, l_11, l_12, l_13, l_14, l_15, l_16, l_17, l_18, l_19, l_20, l_21, l_24, l_30, l_31, l_32, l_36, l_40, l_41, l_42, l_43, l_44, l_45, l_46, l_47, l_48, l_49, l_50, l_51, l_52, l_57, l_58, l_60, l_61, l_64, l_72, l_80, l_92, l_98, l_99, l_100, l_102, l_105, l_111, l_112, l_114, l_115, l_116, l_117, l_120, l_144, l_200, l_201, l_240, l_300, l_320, l_400, l_500, l_512, l_550, l_560, l_649, l_650, l_1000, l_1032, l_1400, l_2000, l_4000, l_10000, l_268435455, iN_add, iN_sub, iN_mul, iN_le_t, iN_le_f, iN_lt_t, iN_lt_f, iN_eq_f, inb_iN, ix_iN, isZ_0, isZ_1, ↓reduceIte, eq_self, c1, kd_b ho, rthere_t ho hz h40]
theorem asked_c {G : G_} : f_X7_asked G = some (G.1 0 16) := rfl
theorem upper_c {G : G_} : f_X7_upper G = some (G.2 0 17) := rfl

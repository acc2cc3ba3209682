/-! slice, cut, rise -/
theorem rset_ok {o z i : Nat} {x : Int32} {G : G_} (ho : kd o = 4) (hz : G.1 o 1 = iN z) (h40 : z ≤ 40) (hi : i < z) : f_X4_set o (iN i) x G = some (sI G (o + 1) i x) := by
  rcases rhas_cases ho hz h40 (iN i) with ⟨c, c2⟩ | ⟨k, hk, ek, c, c2⟩
  · rw [iN_sub (by omega), inS_t (by omega) (by omega)] at c2
    exact absurd c2 (by decide)
  · have ek := (iN_inj (by omega) (by omega)).mp ek
    subst ek
    unfold f_X4_set
    simp (disch := omega) only [chk_t, beq_self_eq_true, nm_s, bj1_s, bj2_s, bj3_s, mo_1, mo_0, l_0, l_1, l_2, l_3, l_4, l_5, l_6, l_7, l_8, l_9, l_10, l_11, l_12, l_13, l_14, l_15, l_16, l_17, l_18, l_19, l_20, l_21, l_30, l_31, l_32, l_36, l_40, l_41, l_42, l_43, l_44, l_45, l_46, l_47, l_48, l_49, l_50, l_51, l_52, l_57, l_58, l_60, l_64, l_72, l_80, l_92, l_98, l_99, l_100, l_102, l_105, l_111, l_112, l_114, l_115, l_116, l_117, l_120, l_144, l_200, l_201, l_240, l_300, l_320, l_400, l_500, l_550, l_560, l_649, l_650, l_1000, l_1400, l_2000, l_4000, l_10000, iN_add, iN_sub, iN_mul, iN_le_t, iN_le_f, iN_lt_t, iN_lt_f, iN_eq_f, inb_iN, ix_iN, isZ_0, isZ_1, ↓reduceIte, eq_self, kd_b ho, c]
theorem op_slice (a1 : Int32) {G : G_} (h : RR G) : pOK (f_X7_slice a1) (f_X8_slice a1) G := by
  rcases row_cases a1 G with ⟨e1, c1⟩ | ⟨r, hr, rfl, e1, c1, ho⟩
  · refine pOK_same (x := -iN 1) h ?_ ?_
    · unfold f_X7_slice
      simp (disch := omega) only [chk_t, beq_self_eq_true, nm_s, bj1_s, bj2_s, bj3_s, mo_1, mo_0, l_0, l_1, l_2, l_3, l_4, l_5, l_6, l_7, l_8, l_9, l_10, l_11, l_12, l_13, l_14, l_15, l_16, l_17, l_18, l_19, l_20, l_21, l_30, l_31, l_32, l_36, l_40, l_41, l_42, l_43, l_44, l_45, l_46, l_47, l_48, l_49, l_50, l_51, l_52, l_57, l_58, l_60, l_64, l_72, l_80, l_92, l_98, l_99, l_100, l_102, l_105, l_111, l_112, l_114, l_115, l_116, l_117, l_120, l_144, l_200, l_201, l_240, l_300, l_320, l_400, l_500, l_550, l_560, l_649, l_650, l_1000, l_1400, l_2000, l_4000, l_10000, iN_add, iN_sub, iN_mul, iN_le_t, iN_le_f, iN_lt_t, iN_lt_f, iN_eq_f, inb_iN, ix_iN, isZ_0, isZ_1, ↓reduceIte, eq_self, c1]
    · unfold f_X8_slice
      simp (disch := omega) only [chk_t, beq_self_eq_true, nm_s, bj1_s, bj2_s, bj3_s, mo_1, mo_0, l_0, l_1, l_2, l_3, l_4, l_5, l_6, l_7, l_8, l_9, l_10, l_11, l_12, l_13, l_14, l_15, l_16, l_17, l_18, l_19, l_20, l_21, l_30, l_31, l_32, l_36, l_40, l_41, l_42, l_43, l_44, l_45, l_46, l_47, l_48, l_49, l_50, l_51, l_52, l_57, l_58, l_60, l_64, l_72, l_80, l_92, l_98, l_99, l_100, l_102, l_105, l_111, l_112, l_114, l_115, l_116, l_117, l_120, l_144, l_200, l_201, l_240, l_300, l_320, l_400, l_500, l_550, l_560, l_649, l_650, l_1000, l_1400, l_2000, l_4000, l_10000, iN_add, iN_sub, iN_mul, iN_le_t, iN_le_f, iN_lt_t, iN_lt_f, iN_eq_f, inb_iN, ix_iN, isZ_0, isZ_1, ↓reduceIte, eq_self, row8, e1]
  · obtain ⟨r1, r2⟩ := dish0 h.1
    rcases r2 with r2 | ⟨r2, n, mm, hg, hu, hcd⟩
    · refine pOK_same (x := -iN 4) h ?_ ?_
      · unfold f_X7_slice
        simp (disch := omega) only [chk_t, beq_self_eq_true, nm_s, bj1_s, bj2_s, bj3_s, mo_1, mo_0, l_0, l_1, l_2, l_3, l_4, l_5, l_6, l_7, l_8, l_9, l_10, l_11, l_12, l_13, l_14, l_15, l_16, l_17, l_18, l_19, l_20, l_21, l_30, l_31, l_32, l_36, l_40, l_41, l_42, l_43, l_44, l_45, l_46, l_47, l_48, l_49, l_50, l_51, l_52, l_57, l_58, l_60, l_64, l_72, l_80, l_92, l_98, l_99, l_100, l_102, l_105, l_111, l_112, l_114, l_115, l_116, l_117, l_120, l_144, l_200, l_201, l_240, l_300, l_320, l_400, l_500, l_550, l_560, l_649, l_650, l_1000, l_1400, l_2000, l_4000, l_10000, iN_add, iN_sub, iN_mul, iN_le_t, iN_le_f, iN_lt_t, iN_lt_f, iN_eq_f, inb_iN, ix_iN, isZ_0, isZ_1, ↓reduceIte, eq_self, c1, kd_b ho, r1, r2]
      · unfold f_X8_slice
        simp (disch := omega) only [chk_t, beq_self_eq_true, nm_s, bj1_s, bj2_s, bj3_s, mo_1, mo_0, l_0, l_1, l_2, l_3, l_4, l_5, l_6, l_7, l_8, l_9, l_10, l_11, l_12, l_13, l_14, l_15, l_16, l_17, l_18, l_19, l_20, l_21, l_30, l_31, l_32, l_36, l_40, l_41, l_42, l_43, l_44, l_45, l_46, l_47, l_48, l_49, l_50, l_51, l_52, l_57, l_58, l_60, l_64, l_72, l_80, l_92, l_98, l_99, l_100, l_102, l_105, l_111, l_112, l_114, l_115, l_116, l_117, l_120, l_144, l_200, l_201, l_240, l_300, l_320, l_400, l_500, l_550, l_560, l_649, l_650, l_1000, l_1400, l_2000, l_4000, l_10000, iN_add, iN_sub, iN_mul, iN_le_t, iN_le_f, iN_lt_t, iN_lt_f, iN_eq_f, inb_iN, ix_iN, isZ_0, isZ_1, ↓reduceIte, eq_self, row8, e1, r2]
    · have hn := hg.1.1
      have hb := hn.2
      have e8 : G.1 5 8 = iN n := (c_8 hcd).trans hn.1
      obtain ⟨A, hA, a0, a1, a3, a4⟩ := rbegin_ok (o := 51 + 2 * r) (z := n) (G := G) ho (by omega)
      have cA : ∀ B : G_, (∀ q, q ≠ 51 + 2 * r → q ≠ 51 + 2 * r + 1 → B.1 q = G.1 q) → cD 5 (DM 0 G) B := fun B hB => cD_fr hcd (fun q h1 h2 => hB q (by omega) (by omega))
      have hL : ∃ B, f_X7_slice_l38_9 (51 + 2 * r) FU (iN 0) A = some B ∧ B.1 (51 + 2 * r) 1 = iN n ∧ (∀ i, i < 40 → B.1 (51 + 2 * r + 1) i = if i < n then colS (DM 0 G) i else iN 0) ∧ (∀ q, q ≠ 51 + 2 * r → q ≠ 51 + 2 * r + 1 → B.1 q = G.1 q) ∧ B.2 = G.2 := by
        refine loop_h (fun f v s => f_X7_slice_l38_9 (51 + 2 * r) f v s) (fun j B => B.1 (51 + 2 * r) 1 = iN n ∧ (∀ i, i < 40 → B.1 (51 + 2 * r + 1) i = if i < j then colS (DM 0 G) i else iN 0) ∧ (∀ q, q ≠ 51 + 2 * r → q ≠ 51 + 2 * r + 1 → B.1 q = G.1 q) ∧ B.2 = G.2) _ 0 n ?_ ?_ (by omega) (n := FU) (fu_lt (by omega)) ⟨a0, fun i hi => by rw [if_neg (by omega)]; exact a1 i hi, a3, a4⟩
        · intro f j B h3 h4 ⟨i0, i1, i2, i3⟩
          refine ⟨sI B (51 + 2 * r + 1) j (colS (DM 0 G) j), ⟨by rw [sI_p (by omega)]; exact i0, fun i hi => ?_, fun q h1 h2 => by rw [sI_p h2]; exact i2 q h1 h2, i3⟩, ?_⟩
          · by_cases c : i = j
            · subst c
              rw [sI_eq, if_pos (by omega)]
            · rw [sI_j c, i1 i hi]
              by_cases c2 : i < j
              · rw [if_pos c2, if_pos (by omega)]
              · rw [if_neg c2, if_neg (by omega)]
          · have b8 : B.1 5 8 = iN n := by rw [i2 5 (by omega) (by omega)]; exact e8
            show f_X7_slice_l38_9 (51 + 2 * r) (f + 1) (iN j) B = _
            conv => lhs; unfold f_X7_slice_l38_9
            simp (disch := omega) only [chk_t, beq_self_eq_true, nm_s, bj1_s, bj2_s, bj3_s, mo_1, mo_0, l_0, l_1, l_2, l_3, l_4, l_5, l_6, l_7, l_8, l_9, l_10, l_11, l_12, l_13, l_14, l_15, l_16, l_17, l_18, l_19, l_20, l_21, l_30, l_31, l_32, l_36, l_40, l_41, l_42, l_43, l_44, l_45, l_46, l_47, l_48, l_49, l_50, l_51, l_52, l_57, l_58, l_60, l_64, l_72, l_80, l_92, l_98, l_99, l_100, l_102, l_105, l_111, l_112, l_114, l_115, l_116, l_117, l_120, l_144, l_200, l_201, l_240, l_300, l_320, l_400, l_500, l_550, l_560, l_649, l_650, l_1000, l_1400, l_2000, l_4000, l_10000, iN_add, iN_sub, iN_mul, iN_le_t, iN_le_f, iN_lt_t, iN_lt_f, iN_eq_f, inb_iN, ix_iN, isZ_0, isZ_1, ↓reduceIte, eq_self, b8, ccol_ok kd5 hn (cA B i2) h4, rset_ok ho i0 (show n ≤ 40 by omega) h4]
        · intro f B ⟨i0, i1, i2, i3⟩
          refine ⟨B, ?_, i0, i1, i2, i3⟩
          have b8 : B.1 5 8 = iN n := by rw [i2 5 (by omega) (by omega)]; exact e8
          show f_X7_slice_l38_9 (51 + 2 * r) (f + 1) (iN n) B = _
          unfold f_X7_slice_l38_9
          simp (disch := omega) only [chk_t, beq_self_eq_true, nm_s, bj1_s, bj2_s, bj3_s, mo_1, mo_0, l_0, l_1, l_2, l_3, l_4, l_5, l_6, l_7, l_8, l_9, l_10, l_11, l_12, l_13, l_14, l_15, l_16, l_17, l_18, l_19, l_20, l_21, l_30, l_31, l_32, l_36, l_40, l_41, l_42, l_43, l_44, l_45, l_46, l_47, l_48, l_49, l_50, l_51, l_52, l_57, l_58, l_60, l_64, l_72, l_80, l_92, l_98, l_99, l_100, l_102, l_105, l_111, l_112, l_114, l_115, l_116, l_117, l_120, l_144, l_200, l_201, l_240, l_300, l_320, l_400, l_500, l_550, l_560, l_649, l_650, l_1000, l_1400, l_2000, l_4000, l_10000, iN_add, iN_sub, iN_mul, iN_le_t, iN_le_f, iN_lt_t, iN_lt_f, iN_eq_f, inb_iN, ix_iN, isZ_0, isZ_1, ↓reduceIte, eq_self, b8]
      obtain ⟨B, hB, b0, b1, b2, b3⟩ := hL
      have hC : f_X7_slice (iN r) G = some (pinkS (DM 0 G), B) := by
        unfold f_X7_slice
        simp (disch := omega) only [chk_t, beq_self_eq_true, nm_s, bj1_s, bj2_s, bj3_s, mo_1, mo_0, l_0, l_1, l_2, l_3, l_4, l_5, l_6, l_7, l_8, l_9, l_10, l_11, l_12, l_13, l_14, l_15, l_16, l_17, l_18, l_19, l_20, l_21, l_30, l_31, l_32, l_36, l_40, l_41, l_42, l_43, l_44, l_45, l_46, l_47, l_48, l_49, l_50, l_51, l_52, l_57, l_58, l_60, l_64, l_72, l_80, l_92, l_98, l_99, l_100, l_102, l_105, l_111, l_112, l_114, l_115, l_116, l_117, l_120, l_144, l_200, l_201, l_240, l_300, l_320, l_400, l_500, l_550, l_560, l_649, l_650, l_1000, l_1400, l_2000, l_4000, l_10000, iN_add, iN_sub, iN_mul, iN_le_t, iN_le_f, iN_lt_t, iN_lt_f, iN_eq_f, inb_iN, ix_iN, isZ_0, isZ_1, ↓reduceIte, eq_self, c1, kd_b ho, r1, r2, e8, hA, hB, cpink_ok kd5 hn (cA B b2)]
      have B138 : B.1 138 0 = iN 1 := by rw [b2 138 (by omega) (by omega)]; exact r2
      have eD : DM 0 B = DM 0 G := DM_of (b2 139 (by omega) (by omega))
      have hL2 : ∃ C, f_X8_slice_l39_12 (iN r) FU (iN 0) (sI (LG 0 B) 126 r (iN n)) = some C ∧ (∀ i, i < 40 → C.1 127 (40 * r + i) = if i < n then colS (DM 0 G) i else iN 0) ∧ (∀ j, j < 40 * r ∨ 40 * r + 40 ≤ j → C.1 127 j = G.1 127 j) ∧ (∀ q, q ≠ 127 → C.1 q = (sI (LG 0 B) 126 r (iN n)).1 q) ∧ C.2 = G.2 := by
        refine loop_h (fun f v s => f_X8_slice_l39_12 (iN r) f v s) (fun k C => (∀ i, i < k → C.1 127 (40 * r + i) = if i < n then colS (DM 0 G) i else iN 0) ∧ (∀ j, j < 40 * r ∨ 40 * r + 40 ≤ j → C.1 127 j = G.1 127 j) ∧ (∀ q, q ≠ 127 → C.1 q = (sI (LG 0 B) 126 r (iN n)).1 q) ∧ C.2 = G.2) _ 0 40 ?_ ?_ (by omega) (n := FU) (fu_lt (by omega)) ⟨fun i h => by omega, fun j _ => by rw [sI_p (by omega), LG_o (by omega), b2 127 (by omega) (by omega)], fun _ _ => rfl, b3⟩
        · intro f k C h3 h4 ⟨i0, i1, i2, i3⟩
          refine ⟨sI C 127 (40 * r + k) (if k < n then colS (DM 0 G) k else iN 0), ⟨fun i h5 => ?_, fun j hj => by rw [sI_j (by omega)]; exact i1 j hj, fun q hq => by rw [sI_p hq]; exact i2 q hq, i3⟩, ?_⟩
          · by_cases c : i = k
            · subst c; exact sI_eq
            · rw [sI_j (by omega)]; exact i0 i (by omega)
          · have c23 : C.1 124 23 = iN (112 * 0) := by rw [i2 124 (by omega), sI_p (by omega)]; exact sI_eq
            have hbC : bM 0 C := ⟨by omega, c23⟩
            have dC : DM 0 C = DM 0 G := by rw [← eD]; exact DM_of (by rw [i2 139 (by omega), sI_p (by omega), LG_o (by omega)])
            have eC := stM_eta 0 C
            rw [dC] at eC
            have v0 := v_ok (D := DM 0 G) (W := WM C) hbC (p := 0) (by omega)
            rw [eC, hn.1] at v0
            show f_X8_slice_l39_12 (iN r) (f + 1) (iN k) C = _
            conv => lhs; unfold f_X8_slice_l39_12
            by_cases c : k < n
            · have vc := mcol_ok (D := DM 0 G) (W := WM C) hbC (i := k) (by omega)
              rw [eC] at vc
              rw [if_pos c]
              simp (disch := omega) only [chk_t, beq_self_eq_true, nm_s, bj1_s, bj2_s, bj3_s, mo_1, mo_0, l_0, l_1, l_2, l_3, l_4, l_5, l_6, l_7, l_8, l_9, l_10, l_11, l_12, l_13, l_14, l_15, l_16, l_17, l_18, l_19, l_20, l_21, l_30, l_31, l_32, l_36, l_40, l_41, l_42, l_43, l_44, l_45, l_46, l_47, l_48, l_49, l_50, l_51, l_52, l_57, l_58, l_60, l_64, l_72, l_80, l_92, l_98, l_99, l_100, l_102, l_105, l_111, l_112, l_114, l_115, l_116, l_117, l_120, l_144, l_200, l_201, l_240, l_300, l_320, l_400, l_500, l_550, l_560, l_649, l_650, l_1000, l_1400, l_2000, l_4000, l_10000, iN_add, iN_sub, iN_mul, iN_le_t, iN_le_f, iN_lt_t, iN_lt_f, iN_eq_f, inb_iN, ix_iN, isZ_0, isZ_1, ↓reduceIte, eq_self, v0, vc]
            · rw [if_neg c]
              simp (disch := omega) only [chk_t, beq_self_eq_true, nm_s, bj1_s, bj2_s, bj3_s, mo_1, mo_0, l_0, l_1, l_2, l_3, l_4, l_5, l_6, l_7, l_8, l_9, l_10, l_11, l_12, l_13, l_14, l_15, l_16, l_17, l_18, l_19, l_20, l_21, l_30, l_31, l_32, l_36, l_40, l_41, l_42, l_43, l_44, l_45, l_46, l_47, l_48, l_49, l_50, l_51, l_52, l_57, l_58, l_60, l_64, l_72, l_80, l_92, l_98, l_99, l_100, l_102, l_105, l_111, l_112, l_114, l_115, l_116, l_117, l_120, l_144, l_200, l_201, l_240, l_300, l_320, l_400, l_500, l_550, l_560, l_649, l_650, l_1000, l_1400, l_2000, l_4000, l_10000, iN_add, iN_sub, iN_mul, iN_le_t, iN_le_f, iN_lt_t, iN_lt_f, iN_eq_f, inb_iN, ix_iN, isZ_0, isZ_1, ↓reduceIte, eq_self, v0]
        · intro f C hI
          refine ⟨C, ?_, hI⟩
          show f_X8_slice_l39_12 (iN r) (f + 1) (iN 40) C = _
          unfold f_X8_slice_l39_12
          simp (disch := omega) only [chk_t, beq_self_eq_true, nm_s, bj1_s, bj2_s, bj3_s, mo_1, mo_0, l_0, l_1, l_2, l_3, l_4, l_5, l_6, l_7, l_8, l_9, l_10, l_11, l_12, l_13, l_14, l_15, l_16, l_17, l_18, l_19, l_20, l_21, l_30, l_31, l_32, l_36, l_40, l_41, l_42, l_43, l_44, l_45, l_46, l_47, l_48, l_49, l_50, l_51, l_52, l_57, l_58, l_60, l_64, l_72, l_80, l_92, l_98, l_99, l_100, l_102, l_105, l_111, l_112, l_114, l_115, l_116, l_117, l_120, l_144, l_200, l_201, l_240, l_300, l_320, l_400, l_500, l_550, l_560, l_649, l_650, l_1000, l_1400, l_2000, l_4000, l_10000, iN_add, iN_sub, iN_mul, iN_le_t, iN_le_f, iN_lt_t, iN_lt_f, iN_eq_f, inb_iN, ix_iN, isZ_0, isZ_1, ↓reduceIte, eq_self]
      obtain ⟨C, hC2, k0, k1, k2, k3⟩ := hL2
      have c23 : C.1 124 23 = iN (112 * 0) := by rw [k2 124 (by omega), sI_p (by omega)]; exact sI_eq
      have hbC : bM 0 C := ⟨by omega, c23⟩
      have dC : DM 0 C = DM 0 G := by rw [← eD]; exact DM_of (by rw [k2 139 (by omega), sI_p (by omega), LG_o (by omega)])
      have eCC := stM_eta 0 C
      rw [dC] at eCC
      have vp := mpink_ok (D := DM 0 G) (W := WM C) hbC hn
      rw [eCC] at vp
      have eC : ∀ q, q ≠ 124 → q ≠ 126 → q ≠ 127 → q ≠ 51 + 2 * r → q ≠ 51 + 2 * r + 1 → C.1 q = G.1 q := fun q h1 h2 h3 h4 h5 => by rw [k2 q h3, sI_p h2, LG_o h1, b2 q h4 h5]
      refine ⟨pinkS (DM 0 G), B, C, hC, ?_, ?_⟩
      · unfold f_X8_slice
        simp (disch := omega) only [chk_t, beq_self_eq_true, nm_s, bj1_s, bj2_s, bj3_s, mo_1, mo_0, l_0, l_1, l_2, l_3, l_4, l_5, l_6, l_7, l_8, l_9, l_10, l_11, l_12, l_13, l_14, l_15, l_16, l_17, l_18, l_19, l_20, l_21, l_30, l_31, l_32, l_36, l_40, l_41, l_42, l_43, l_44, l_45, l_46, l_47, l_48, l_49, l_50, l_51, l_52, l_57, l_58, l_60, l_64, l_72, l_80, l_92, l_98, l_99, l_100, l_102, l_105, l_111, l_112, l_114, l_115, l_116, l_117, l_120, l_144, l_200, l_201, l_240, l_300, l_320, l_400, l_500, l_550, l_560, l_649, l_650, l_1000, l_1400, l_2000, l_4000, l_10000, iN_add, iN_sub, iN_mul, iN_le_t, iN_le_f, iN_lt_t, iN_lt_f, iN_eq_f, inb_iN, ix_iN, isZ_0, isZ_1, ↓reduceIte, eq_self, row8, e1, B138, look_ok, v_LG, eD, hn.1, hC2, vp]
      · refine RR_1 h ?_ (fun q hq => eC q (by omega) (by omega) (by omega) (by omega) (by omega)) (by rw [eC 0 (by omega) (by omega) (by omega) (by omega) (by omega)]) (by rw [k2 124 (by omega), sI_p (by omega), LG_j (by omega), b2 124 (by omega) (by omega)]) k3 (by rw [eC 0 (by omega) (by omega) (by omega) (by omega) (by omega), k2 124 (by omega), sI_p (by omega), LG_j (by omega), b2 124 (by omega) (by omega)]; exact h.2)
        intro s hs
        have hs' := h.1.1 s hs
        by_cases c : s = r
        · subst c
          refine ⟨?_, Or.inr ⟨n, by omega, ?_⟩, fun i hi => ?_⟩
          · rw [k2 _ (by omega), k2 _ (by omega), sI_eq, sI_p (by omega), LG_o (by omega)]; exact b0
          · rw [k2 _ (by omega), sI_eq]
          · rw [k0 i hi, k2 _ (by omega), sI_p (by omega), LG_o (by omega), show 52 + 2 * s = 51 + 2 * s + 1 by omega]; exact b1 i hi
        · refine ⟨?_, ?_, fun i hi => ?_⟩
          · rw [eC _ (by omega) (by omega) (by omega) (by omega) (by omega), k2 126 (by omega), sI_j c, LG_o (by omega), b2 126 (by omega) (by omega)]; exact hs'.1
          · rw [k2 126 (by omega), sI_j c, LG_o (by omega), b2 126 (by omega) (by omega)]; exact hs'.2.1
          · rw [eC _ (by omega) (by omega) (by omega) (by omega) (by omega), k1 _ (by omega)]; exact hs'.2.2 i hi
/-- the dish tried on: the reference's copy in region 4 -/
def tryS (G : G_) : Nat → Int32 := cpS (DM 0 G) (DM 4 G)
theorem try_p {G : G_} {p : Nat} (hp : p < 112) : tryS G p = DM 0 G p := spD_in (by omega) hp
theorem try_c {G A : G_} (h : ∀ q, 50 ≤ q → A.1 q = G.1 q) : f_X8_copyDish (iN 0) (iN 4) A = some (stM 4 (tryS G) (WM A) A) := by
  have m := copyDish_ok (a := 0) (b := 4) (G := A) (by omega) (by omega) (by omega)
  have e : ∀ k, DM k A = DM k G := fun k => DM_of (h 139 (by omega))
  rw [e, e] at m
  exact m
theorem try_l {A : G_} {D W : Nat → Int32} : f_X8_look (iN 4) (stM 4 D W A) = some (stM 4 D W (LG 4 A)) := by
  rw [look_ok]
  unfold LG
  rw [st_sI (by omega) (by omega)]
theorem op_cut (a1 : Int32) {G : G_} (h : RR G) : pOK (f_X7_cut a1) (f_X8_cut a1) G := by
  rcases in_N 0 60 a1 with e1 | ⟨e1, c, rfl, -, hc⟩
  · refine pOK_same (x := -iN 1) h ?_ ?_
    · unfold f_X7_cut
      rw [in7, bj1_s]
      exact if_pos e1
    · unfold f_X8_cut
      rw [in8, bj1_s]
      exact if_pos e1
  · obtain ⟨r1, r2⟩ := dish0 h.1
    rcases r2 with r2 | ⟨r2, n, mm, hg, hu, hcd⟩
    · refine pOK_same (x := -iN 4) h ?_ ?_
      · unfold f_X7_cut
        simp (disch := omega) only [chk_t, beq_self_eq_true, nm_s, bj1_s, bj2_s, bj3_s, mo_1, mo_0, l_0, l_1, l_2, l_3, l_4, l_5, l_6, l_7, l_8, l_9, l_10, l_11, l_12, l_13, l_14, l_15, l_16, l_17, l_18, l_19, l_20, l_21, l_30, l_31, l_32, l_36, l_40, l_41, l_42, l_43, l_44, l_45, l_46, l_47, l_48, l_49, l_50, l_51, l_52, l_57, l_58, l_60, l_64, l_72, l_80, l_92, l_98, l_99, l_100, l_102, l_105, l_111, l_112, l_114, l_115, l_116, l_117, l_120, l_144, l_200, l_201, l_240, l_300, l_320, l_400, l_500, l_550, l_560, l_649, l_650, l_1000, l_1400, l_2000, l_4000, l_10000, iN_add, iN_sub, iN_mul, iN_le_t, iN_le_f, iN_lt_t, iN_lt_f, iN_eq_f, inb_iN, ix_iN, isZ_0, isZ_1, ↓reduceIte, eq_self, in7, e1, r1, r2]
      · unfold f_X8_cut
        simp (disch := omega) only [chk_t, beq_self_eq_true, nm_s, bj1_s, bj2_s, bj3_s, mo_1, mo_0, l_0, l_1, l_2, l_3, l_4, l_5, l_6, l_7, l_8, l_9, l_10, l_11, l_12, l_13, l_14, l_15, l_16, l_17, l_18, l_19, l_20, l_21, l_30, l_31, l_32, l_36, l_40, l_41, l_42, l_43, l_44, l_45, l_46, l_47, l_48, l_49, l_50, l_51, l_52, l_57, l_58, l_60, l_64, l_72, l_80, l_92, l_98, l_99, l_100, l_102, l_105, l_111, l_112, l_114, l_115, l_116, l_117, l_120, l_144, l_200, l_201, l_240, l_300, l_320, l_400, l_500, l_550, l_560, l_649, l_650, l_1000, l_1400, l_2000, l_4000, l_10000, iN_add, iN_sub, iN_mul, iN_le_t, iN_le_f, iN_lt_t, iN_lt_f, iN_eq_f, inb_iN, ix_iN, isZ_0, isZ_1, ↓reduceIte, eq_self, in8, e1, r2]
    · obtain ⟨at_, g, hp⟩ := hg.2
      have r7 : G.1 5 7 = iN 1 := r1.trans r2
      have gE := gD_cg hg (D' := tryS G) (fun p hp => try_p hp)
      have cE := cD_cg hcd (dz_g hg) (D' := tryS G) (fun p hp => try_p hp)
      obtain ⟨A, hA, cA, fA, A7⟩ := become_ok (o := 17) (a := 5) rfl kd5 (by omega) gE.1.1 ((try_p (by omega)).trans hp.1) hp.2.1 (by rw [r7]; exact isZ_1) cE
      obtain ⟨B, hB, cB, fB⟩ := crest_ok (c := c) rfl gE.1 (by omega) cA
      have wE := wf_rest (k := c) gE.1
      have cB5 : cD 5 (tryS G) B := cD_fr cE (fun q h1 h2 => by rw [fB.1.1 q (by omega), fA.1 q (by omega)])
      have eB : ∀ q, q < 17 ∨ 49 < q → B.1 q = G.1 q := fun q hq => by rw [fB.1.1 q (by omega), fA.1 q (by omega)]
      have ccB : cc G B := ⟨eB, fB.1.2.trans fA.2, fun _ => by rw [fB.2, A7, r7]; exact isZ_1⟩
      have l5 := closs_ok kd5 gE.1.1 gE.1.2.2.1 gE.1.2.2.2 cB5
      have l17 := closs_ok (o := 17) rfl wE.1 wE.2.2.1 wE.2.2.2 cB
      have hbM := bM_LG (m := 4) (G := sI B 0 16 (lossS (restS (tryS G) c))) (by omega)
      obtain ⟨W', m3⟩ := mrests_ok (D := tryS G) (W := WM (sI B 0 16 (lossS (restS (tryS G) c)))) (c := c) hbM gE.1.1 (by omega)
      have m2 := mloss_ok (D := tryS G) (W := WM (sI B 0 16 (lossS (restS (tryS G) c)))) hbM gE.1.1
      have m4 := mloss_ok (D := restS (tryS G) c) (W := W') hbM wE.1
      have m1 := try_c (G := G) (A := sI B 0 16 (lossS (restS (tryS G) c))) (fun q hq => by rw [sI_p (by omega), eB q (by omega)])
      refine pOK_tell (x := lossS (tryS G)) (y := lossS (restS (tryS G) c)) (G1 := B) (H := stM 4 (restS (tryS G) c) W' (LG 4 (sI B 0 16 (lossS (restS (tryS G) c))))) h ?_ ccB ?_ (mf_st mf_LG)
      · unfold f_X7_cut f_X7_told
        simp (disch := omega) only [chk_t, beq_self_eq_true, nm_s, bj1_s, bj2_s, bj3_s, mo_1, mo_0, l_0, l_1, l_2, l_3, l_4, l_5, l_6, l_7, l_8, l_9, l_10, l_11, l_12, l_13, l_14, l_15, l_16, l_17, l_18, l_19, l_20, l_21, l_30, l_31, l_32, l_36, l_40, l_41, l_42, l_43, l_44, l_45, l_46, l_47, l_48, l_49, l_50, l_51, l_52, l_57, l_58, l_60, l_64, l_72, l_80, l_92, l_98, l_99, l_100, l_102, l_105, l_111, l_112, l_114, l_115, l_116, l_117, l_120, l_144, l_200, l_201, l_240, l_300, l_320, l_400, l_500, l_550, l_560, l_649, l_650, l_1000, l_1400, l_2000, l_4000, l_10000, iN_add, iN_sub, iN_mul, iN_le_t, iN_le_f, iN_lt_t, iN_lt_f, iN_eq_f, inb_iN, ix_iN, isZ_0, isZ_1, ↓reduceIte, eq_self, in7, e1, r7, hA, hB, l5, l17]
      · have b138 : B.1 138 0 = iN 1 := by rw [eB 138 (by omega)]; exact r2
        unfold f_X8_cut f_X8_tells
        simp (disch := omega) only [chk_t, beq_self_eq_true, nm_s, bj1_s, bj2_s, bj3_s, mo_1, mo_0, l_0, l_1, l_2, l_3, l_4, l_5, l_6, l_7, l_8, l_9, l_10, l_11, l_12, l_13, l_14, l_15, l_16, l_17, l_18, l_19, l_20, l_21, l_30, l_31, l_32, l_36, l_40, l_41, l_42, l_43, l_44, l_45, l_46, l_47, l_48, l_49, l_50, l_51, l_52, l_57, l_58, l_60, l_64, l_72, l_80, l_92, l_98, l_99, l_100, l_102, l_105, l_111, l_112, l_114, l_115, l_116, l_117, l_120, l_144, l_200, l_201, l_240, l_300, l_320, l_400, l_500, l_550, l_560, l_649, l_650, l_1000, l_1400, l_2000, l_4000, l_10000, iN_add, iN_sub, iN_mul, iN_le_t, iN_le_f, iN_lt_t, iN_lt_f, iN_eq_f, inb_iN, ix_iN, isZ_0, isZ_1, ↓reduceIte, eq_self, in8, e1, sI_p, b138, m1, try_l, m2, m3, m4]
/-- the greatest so far, and when it was so first -/
def riB (f : Nat → Int32) : Nat → Int32
  | 0 => f 0
  | k + 1 => if f (k + 1) ≤ riB f k then riB f k else f (k + 1)
def riA (f : Nat → Int32) : Nat → Int32
  | 0 => iN 0
  | k + 1 => if f (k + 1) ≤ riB f k then riA f k else iN (k + 1)
theorem gt_le (a b : Int32) : (if b < a then a else b) = if b ≤ a then a else b := by
  by_cases c : b < a
  · rw [if_pos c, if_pos (t_le.mpr (by have := t_lt.mp c; omega))]
  · rw [if_neg c]
    by_cases c2 : b ≤ a
    · rw [if_pos c2, t_eq]
      have := t_le.mp c2
      have : ¬ b.toInt < a.toInt := fun e => c (t_lt.mpr e)
      omega
    · rw [if_neg c2]
theorem op_rise {G : G_} (h : RR G) : pOK f_X7_rise f_X8_rise G := by
  obtain ⟨r1, r2⟩ := dish0 h.1
  rcases r2 with r2 | ⟨r2, n, mm, hg, hu, hcd⟩
  · refine pOK_same (x := -iN 4) h ?_ ?_
    · unfold f_X7_rise
      simp (disch := omega) only [chk_t, beq_self_eq_true, nm_s, bj1_s, bj2_s, bj3_s, mo_1, mo_0, l_0, l_1, l_2, l_3, l_4, l_5, l_6, l_7, l_8, l_9, l_10, l_11, l_12, l_13, l_14, l_15, l_16, l_17, l_18, l_19, l_20, l_21, l_30, l_31, l_32, l_36, l_40, l_41, l_42, l_43, l_44, l_45, l_46, l_47, l_48, l_49, l_50, l_51, l_52, l_57, l_58, l_60, l_64, l_72, l_80, l_92, l_98, l_99, l_100, l_102, l_105, l_111, l_112, l_114, l_115, l_116, l_117, l_120, l_144, l_200, l_201, l_240, l_300, l_320, l_400, l_500, l_550, l_560, l_649, l_650, l_1000, l_1400, l_2000, l_4000, l_10000, iN_add, iN_sub, iN_mul, iN_le_t, iN_le_f, iN_lt_t, iN_lt_f, iN_eq_f, inb_iN, ix_iN, isZ_0, isZ_1, ↓reduceIte, eq_self, r1, r2]
    · unfold f_X8_rise
      simp (disch := omega) only [chk_t, beq_self_eq_true, nm_s, bj1_s, bj2_s, bj3_s, mo_1, mo_0, l_0, l_1, l_2, l_3, l_4, l_5, l_6, l_7, l_8, l_9, l_10, l_11, l_12, l_13, l_14, l_15, l_16, l_17, l_18, l_19, l_20, l_21, l_30, l_31, l_32, l_36, l_40, l_41, l_42, l_43, l_44, l_45, l_46, l_47, l_48, l_49, l_50, l_51, l_52, l_57, l_58, l_60, l_64, l_72, l_80, l_92, l_98, l_99, l_100, l_102, l_105, l_111, l_112, l_114, l_115, l_116, l_117, l_120, l_144, l_200, l_201, l_240, l_300, l_320, l_400, l_500, l_550, l_560, l_649, l_650, l_1000, l_1400, l_2000, l_4000, l_10000, iN_add, iN_sub, iN_mul, iN_le_t, iN_le_f, iN_lt_t, iN_lt_f, iN_eq_f, inb_iN, ix_iN, isZ_0, isZ_1, ↓reduceIte, eq_self, r2]
  · obtain ⟨at_, g, hp⟩ := hg.2
    have r7 : G.1 5 7 = iN 1 := r1.trans r2
    have gE := gD_cg hg (D' := tryS G) (fun p hp => try_p hp)
    have cE := cD_cg hcd (dz_g hg) (D' := tryS G) (fun p hp => try_p hp)
    obtain ⟨A, hA, cA, fA, A7⟩ := become_ok (o := 17) (a := 5) rfl kd5 (by omega) gE.1.1 ((try_p (by omega)).trans hp.1) hp.2.1 (by rw [r7]; exact isZ_1) cE
    have hn := gE.1.1
    have x0 := midW_ok (o := 17) rfl hn cA
    have hL : ∃ r, f_X7_rise_l39_9 (midW (tryS G)) FU (midW (tryS G)) (iN 0) (iN 1) A = some r ∧ r.1 = riB (fun k => midW (restS (tryS G) k)) 60 ∧ r.2.1 = riA (fun k => midW (restS (tryS G) k)) 60 ∧ fr 17 A r.2.2 := by
      refine loop_h (fun f v (s : Int32 × Int32 × G_) => f_X7_rise_l39_9 (midW (tryS G)) f s.1 s.2.1 v s.2.2) (fun j s => s.1 = riB (fun k => midW (restS (tryS G) k)) (j - 1) ∧ s.2.1 = riA (fun k => midW (restS (tryS G) k)) (j - 1) ∧ cD 17 (restS (tryS G) (j - 1)) s.2.2 ∧ fr 17 A s.2.2) _ 1 61 ?_ ?_ (by omega) (n := FU) (fu_lt (by omega)) (s := (midW (tryS G), iN 0, A)) ⟨rfl, rfl, cA, fr_refl⟩
      · intro f j ⟨x, y, B⟩ h3 h4 ⟨i0, i1, i2, i3⟩
        obtain ⟨k, rfl⟩ : ∃ k, j = k + 1 := ⟨j - 1, by omega⟩
        rw [show k + 1 - 1 = k by omega] at i0 i1 i2
        have i0 : x = _ := i0
        have i1 : y = _ := i1
        obtain ⟨C, gC, cC, fC⟩ := heat_ok (k := iN 4) (o := 17) rfl (wf_rest (k := k) gE.1) qR_0 i2
        have xm := midW_ok (o := 17) rfl (wf_rest (k := k + 1) gE.1).1 cC
        refine ⟨(riB (fun k => midW (restS (tryS G) k)) (k + 1), riA (fun k => midW (restS (tryS G) k)) (k + 1), C), ⟨rfl, rfl, cC, fr_tr i3 fC⟩, ?_⟩
        show f_X7_rise_l39_9 (midW (tryS G)) (f + 1) x y (iN (k + 1)) B = f_X7_rise_l39_9 (midW (tryS G)) f (riB (fun k => midW (restS (tryS G) k)) (k + 1)) (riA (fun k => midW (restS (tryS G) k)) (k + 1)) (iN (k + 1 + 1)) C
        conv => lhs; unfold f_X7_rise_l39_9
        by_cases c : midW (restS (tryS G) (k + 1)) ≤ x
        · have e1 : riB (fun k => midW (restS (tryS G) k)) (k + 1) = x := by unfold riB; rw [← i0, if_pos c]
          have e2 : riA (fun k => midW (restS (tryS G) k)) (k + 1) = y := by unfold riA; rw [← i0, if_pos c, i1]
          rw [e1, e2]
          simp (disch := omega) only [chk_t, beq_self_eq_true, nm_s, bj1_s, bj2_s, bj3_s, mo_1, mo_0, l_0, l_1, l_2, l_3, l_4, l_5, l_6, l_7, l_8, l_9, l_10, l_11, l_12, l_13, l_14, l_15, l_16, l_17, l_18, l_19, l_20, l_21, l_30, l_31, l_32, l_36, l_40, l_41, l_42, l_43, l_44, l_45, l_46, l_47, l_48, l_49, l_50, l_51, l_52, l_57, l_58, l_60, l_64, l_72, l_80, l_92, l_98, l_99, l_100, l_102, l_105, l_111, l_112, l_114, l_115, l_116, l_117, l_120, l_144, l_200, l_201, l_240, l_300, l_320, l_400, l_500, l_550, l_560, l_649, l_650, l_1000, l_1400, l_2000, l_4000, l_10000, iN_add, iN_sub, iN_mul, iN_le_t, iN_le_f, iN_lt_t, iN_lt_f, iN_eq_f, inb_iN, ix_iN, isZ_0, isZ_1, ↓reduceIte, eq_self, gC, xm, if_pos c]
        · have e1 : riB (fun k => midW (restS (tryS G) k)) (k + 1) = midW (restS (tryS G) (k + 1)) := by unfold riB; rw [← i0, if_neg c]
          have e2 : riA (fun k => midW (restS (tryS G) k)) (k + 1) = iN (k + 1) := by unfold riA; rw [← i0, if_neg c]
          rw [e1, e2]
          simp (disch := omega) only [chk_t, beq_self_eq_true, nm_s, bj1_s, bj2_s, bj3_s, mo_1, mo_0, l_0, l_1, l_2, l_3, l_4, l_5, l_6, l_7, l_8, l_9, l_10, l_11, l_12, l_13, l_14, l_15, l_16, l_17, l_18, l_19, l_20, l_21, l_30, l_31, l_32, l_36, l_40, l_41, l_42, l_43, l_44, l_45, l_46, l_47, l_48, l_49, l_50, l_51, l_52, l_57, l_58, l_60, l_64, l_72, l_80, l_92, l_98, l_99, l_100, l_102, l_105, l_111, l_112, l_114, l_115, l_116, l_117, l_120, l_144, l_200, l_201, l_240, l_300, l_320, l_400, l_500, l_550, l_560, l_649, l_650, l_1000, l_1400, l_2000, l_4000, l_10000, iN_add, iN_sub, iN_mul, iN_le_t, iN_le_f, iN_lt_t, iN_lt_f, iN_eq_f, inb_iN, ix_iN, isZ_0, isZ_1, ↓reduceIte, eq_self, gC, xm, if_neg c]
      · intro f ⟨x, y, B⟩ ⟨i0, i1, i2, i3⟩
        refine ⟨(x, y, B), ?_, i0, i1, i3⟩
        show f_X7_rise_l39_9 (midW (tryS G)) (f + 1) x y (iN 61) B = _
        unfold f_X7_rise_l39_9
        simp (disch := omega) only [chk_t, beq_self_eq_true, nm_s, bj1_s, bj2_s, bj3_s, mo_1, mo_0, l_0, l_1, l_2, l_3, l_4, l_5, l_6, l_7, l_8, l_9, l_10, l_11, l_12, l_13, l_14, l_15, l_16, l_17, l_18, l_19, l_20, l_21, l_30, l_31, l_32, l_36, l_40, l_41, l_42, l_43, l_44, l_45, l_46, l_47, l_48, l_49, l_50, l_51, l_52, l_57, l_58, l_60, l_64, l_72, l_80, l_92, l_98, l_99, l_100, l_102, l_105, l_111, l_112, l_114, l_115, l_116, l_117, l_120, l_144, l_200, l_201, l_240, l_300, l_320, l_400, l_500, l_550, l_560, l_649, l_650, l_1000, l_1400, l_2000, l_4000, l_10000, iN_add, iN_sub, iN_mul, iN_le_t, iN_le_f, iN_lt_t, iN_lt_f, iN_eq_f, inb_iN, ix_iN, isZ_0, isZ_1, ↓reduceIte, eq_self]
    obtain ⟨⟨x, y, B⟩, hB, ex, ey, fB⟩ := hL
    have ex : x = _ := ex
    have ey : y = _ := ey
    have eB : ∀ q, q < 17 ∨ 49 < q → B.1 q = G.1 q := fun q hq => by
      have h1 := fB.1.1 q (by omega)
      rw [h1, fA.1 q (by omega)]
    have ccB : cc G B := ⟨eB, fB.1.2.trans fA.2, fun _ => by rw [fB.2, A7, r7]; exact isZ_1⟩
    have hbM := bM_LG (m := 4) (G := sI B 0 16 y) (by omega)
    have hM : ∀ W, ∃ r, f_X8_rise_l42_14 (midW (tryS G)) FU (midW (tryS G)) (iN 0) (iN 1) (stM 4 (tryS G) W (LG 4 (sI B 0 16 y))) = some r ∧ r.1 = x ∧ r.2.1 = y ∧ ∃ D' W', r.2.2 = stM 4 D' W' (LG 4 (sI B 0 16 y)) := by
      intro W
      refine loop_h (fun f v (s : Int32 × Int32 × G_) => f_X8_rise_l42_14 (midW (tryS G)) f s.1 s.2.1 v s.2.2) (fun j s => s.1 = riB (fun k => midW (restS (tryS G) k)) (j - 1) ∧ s.2.1 = riA (fun k => midW (restS (tryS G) k)) (j - 1) ∧ ∃ W', s.2.2 = stM 4 (restS (tryS G) (j - 1)) W' (LG 4 (sI B 0 16 y))) _ 1 61 ?_ ?_ (by omega) (n := FU) (fu_lt (by omega)) (s := (midW (tryS G), iN 0, stM 4 (tryS G) W (LG 4 (sI B 0 16 y)))) ⟨rfl, rfl, W, rfl⟩
      · intro f j ⟨x', y', H⟩ h3 h4 ⟨i0, i1, W1, i2⟩
        obtain ⟨k, rfl⟩ : ∃ k, j = k + 1 := ⟨j - 1, by omega⟩
        rw [show k + 1 - 1 = k by omega] at i0 i1 i2
        have i0 : x' = _ := i0
        have i1 : y' = _ := i1
        have i2 : H = _ := i2
        subst i2
        obtain ⟨W2, t1⟩ := mrests_ok (D := restS (tryS G) k) (W := W1) (c := 1) hbM (wf_rest (k := k) gE.1).1 (by omega)
        have t1 : f_X8_rests (iN 1) (stM 4 (restS (tryS G) k) W1 (LG 4 (sI B 0 16 y))) = some (stM 4 (restS (tryS G) (k + 1)) W2 (LG 4 (sI B 0 16 y))) := t1
        have hn1 := (wf_rest (k := k + 1) gE.1).1
        refine ⟨(riB (fun k => midW (restS (tryS G) k)) (k + 1), riA (fun k => midW (restS (tryS G) k)) (k + 1), stM 4 (restS (tryS G) (k + 1)) W2 (LG 4 (sI B 0 16 y))), ⟨rfl, rfl, W2, rfl⟩, ?_⟩
        show f_X8_rise_l42_14 (midW (tryS G)) (f + 1) x' y' (iN (k + 1)) (stM 4 (restS (tryS G) k) W1 (LG 4 (sI B 0 16 y))) = f_X8_rise_l42_14 (midW (tryS G)) f (riB (fun k => midW (restS (tryS G) k)) (k + 1)) (riA (fun k => midW (restS (tryS G) k)) (k + 1)) (iN (k + 1 + 1)) (stM 4 (restS (tryS G) (k + 1)) W2 (LG 4 (sI B 0 16 y)))
        conv => lhs; unfold f_X8_rise_l42_14
        by_cases c : midW (restS (tryS G) (k + 1)) ≤ x'
        · have e1 : riB (fun k => midW (restS (tryS G) k)) (k + 1) = x' := by unfold riB; rw [← i0, if_pos c]
          have e2 : riA (fun k => midW (restS (tryS G) k)) (k + 1) = y' := by unfold riA; rw [← i0, if_pos c]; exact i1.symm
          rw [e1, e2]
          simp (disch := omega) only [chk_t, beq_self_eq_true, nm_s, bj1_s, bj2_s, bj3_s, mo_1, mo_0, l_0, l_1, l_2, l_3, l_4, l_5, l_6, l_7, l_8, l_9, l_10, l_11, l_12, l_13, l_14, l_15, l_16, l_17, l_18, l_19, l_20, l_21, l_30, l_31, l_32, l_36, l_40, l_41, l_42, l_43, l_44, l_45, l_46, l_47, l_48, l_49, l_50, l_51, l_52, l_57, l_58, l_60, l_64, l_72, l_80, l_92, l_98, l_99, l_100, l_102, l_105, l_111, l_112, l_114, l_115, l_116, l_117, l_120, l_144, l_200, l_201, l_240, l_300, l_320, l_400, l_500, l_550, l_560, l_649, l_650, l_1000, l_1400, l_2000, l_4000, l_10000, iN_add, iN_sub, iN_mul, iN_le_t, iN_le_f, iN_lt_t, iN_lt_f, iN_eq_f, inb_iN, ix_iN, isZ_0, isZ_1, ↓reduceIte, eq_self, t1, mmid_ok hbM hn1, midWv hbM hn1, if_pos c, greater_ok, gt_le]
        · have e1 : riB (fun k => midW (restS (tryS G) k)) (k + 1) = midW (restS (tryS G) (k + 1)) := by unfold riB; rw [← i0, if_neg c]
          have e2 : riA (fun k => midW (restS (tryS G) k)) (k + 1) = iN (k + 1) := by unfold riA; rw [← i0, if_neg c]
          rw [e1, e2]
          simp (disch := omega) only [chk_t, beq_self_eq_true, nm_s, bj1_s, bj2_s, bj3_s, mo_1, mo_0, l_0, l_1, l_2, l_3, l_4, l_5, l_6, l_7, l_8, l_9, l_10, l_11, l_12, l_13, l_14, l_15, l_16, l_17, l_18, l_19, l_20, l_21, l_30, l_31, l_32, l_36, l_40, l_41, l_42, l_43, l_44, l_45, l_46, l_47, l_48, l_49, l_50, l_51, l_52, l_57, l_58, l_60, l_64, l_72, l_80, l_92, l_98, l_99, l_100, l_102, l_105, l_111, l_112, l_114, l_115, l_116, l_117, l_120, l_144, l_200, l_201, l_240, l_300, l_320, l_400, l_500, l_550, l_560, l_649, l_650, l_1000, l_1400, l_2000, l_4000, l_10000, iN_add, iN_sub, iN_mul, iN_le_t, iN_le_f, iN_lt_t, iN_lt_f, iN_eq_f, inb_iN, ix_iN, isZ_0, isZ_1, ↓reduceIte, eq_self, t1, mmid_ok hbM hn1, midWv hbM hn1, if_neg c, greater_ok, gt_le]
      · intro f ⟨x', y', H⟩ ⟨i0, i1, W1, i2⟩
        have i0 : x' = _ := i0
        have i1 : y' = _ := i1
        refine ⟨(x', y', H), ?_, i0.trans ex.symm, i1.trans ey.symm, _, W1, i2⟩
        show f_X8_rise_l42_14 (midW (tryS G)) (f + 1) x' y' (iN 61) H = _
        unfold f_X8_rise_l42_14
        simp (disch := omega) only [chk_t, beq_self_eq_true, nm_s, bj1_s, bj2_s, bj3_s, mo_1, mo_0, l_0, l_1, l_2, l_3, l_4, l_5, l_6, l_7, l_8, l_9, l_10, l_11, l_12, l_13, l_14, l_15, l_16, l_17, l_18, l_19, l_20, l_21, l_30, l_31, l_32, l_36, l_40, l_41, l_42, l_43, l_44, l_45, l_46, l_47, l_48, l_49, l_50, l_51, l_52, l_57, l_58, l_60, l_64, l_72, l_80, l_92, l_98, l_99, l_100, l_102, l_105, l_111, l_112, l_114, l_115, l_116, l_117, l_120, l_144, l_200, l_201, l_240, l_300, l_320, l_400, l_500, l_550, l_560, l_649, l_650, l_1000, l_1400, l_2000, l_4000, l_10000, iN_add, iN_sub, iN_mul, iN_le_t, iN_le_f, iN_lt_t, iN_lt_f, iN_eq_f, inb_iN, ix_iN, isZ_0, isZ_1, ↓reduceIte, eq_self]
    obtain ⟨⟨x', y', H⟩, hH, ex', ey', D', W', eH⟩ := hM (WM (sI B 0 16 y))
    have ex' : x' = x := ex'
    have ey' : y' = y := ey'
    have eH : H = _ := eH
    subst ex' ey' eH
    have m1 := try_c (G := G) (A := sI B 0 16 y') (fun q hq => by rw [sI_p (by omega), eB q (by omega)])
    have hB' : f_X7_rise_l39_9 (midW (tryS G)) FU (midW (tryS G)) (iN 0) (iN 1) A = some (x', y', B) := hB
    have hH' : f_X8_rise_l42_14 (midW (tryS G)) FU (midW (tryS G)) (iN 0) (iN 1) (stM 4 (tryS G) (WM (sI B 0 16 y')) (LG 4 (sI B 0 16 y'))) = some (x', y', stM 4 D' W' (LG 4 (sI B 0 16 y'))) := hH
    refine pOK_tell (x := x' - midW (tryS G)) (y := y') (G1 := B) (H := stM 4 D' W' (LG 4 (sI B 0 16 y'))) h ?_ ccB ?_ (mf_st mf_LG)
    · unfold f_X7_rise f_X7_told
      simp (disch := omega) only [chk_t, beq_self_eq_true, nm_s, bj1_s, bj2_s, bj3_s, mo_1, mo_0, l_0, l_1, l_2, l_3, l_4, l_5, l_6, l_7, l_8, l_9, l_10, l_11, l_12, l_13, l_14, l_15, l_16, l_17, l_18, l_19, l_20, l_21, l_30, l_31, l_32, l_36, l_40, l_41, l_42, l_43, l_44, l_45, l_46, l_47, l_48, l_49, l_50, l_51, l_52, l_57, l_58, l_60, l_64, l_72, l_80, l_92, l_98, l_99, l_100, l_102, l_105, l_111, l_112, l_114, l_115, l_116, l_117, l_120, l_144, l_200, l_201, l_240, l_300, l_320, l_400, l_500, l_550, l_560, l_649, l_650, l_1000, l_1400, l_2000, l_4000, l_10000, iN_add, iN_sub, iN_mul, iN_le_t, iN_le_f, iN_lt_t, iN_lt_f, iN_eq_f, inb_iN, ix_iN, isZ_0, isZ_1, ↓reduceIte, eq_self, r7, hA, x0, hB']
    · have b138 : B.1 138 0 = iN 1 := by rw [eB 138 (by omega)]; exact r2
      unfold f_X8_rise f_X8_tells
      simp (disch := omega) only [chk_t, beq_self_eq_true, nm_s, bj1_s, bj2_s, bj3_s, mo_1, mo_0, l_0, l_1, l_2, l_3, l_4, l_5, l_6, l_7, l_8, l_9, l_10, l_11, l_12, l_13, l_14, l_15, l_16, l_17, l_18, l_19, l_20, l_21, l_30, l_31, l_32, l_36, l_40, l_41, l_42, l_43, l_44, l_45, l_46, l_47, l_48, l_49, l_50, l_51, l_52, l_57, l_58, l_60, l_64, l_72, l_80, l_92, l_98, l_99, l_100, l_102, l_105, l_111, l_112, l_114, l_115, l_116, l_117, l_120, l_144, l_200, l_201, l_240, l_300, l_320, l_400, l_500, l_550, l_560, l_649, l_650, l_1000, l_1400, l_2000, l_4000, l_10000, iN_add, iN_sub, iN_mul, iN_le_t, iN_le_f, iN_lt_t, iN_lt_f, iN_eq_f, inb_iN, ix_iN, isZ_0, isZ_1, ↓reduceIte, eq_self, sI_p, b138, m1, try_l, mmid_ok hbM hn, midWv hbM hn, hH']

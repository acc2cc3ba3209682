/-! plan -/
theorem PL_4 {k : Nat} {G : G_} : PL k G 4 = G.1 134 k := if_pos rfl
theorem PL_5 {k p : Nat} {G : G_} : PL k G (5 + p) = G.1 135 (36 * k + p) := by
  unfold PL
  rw [if_neg (by omega), show 5 + p - 5 = p by omega]
theorem op_plan (a1 a2 : Int32) {G : G_} (h : RR G) : pOK (f_X7_plan a1 a2) (f_X8_plan a1 a2) G := by
  rcases plan_cases a1 G with ⟨e1, c1⟩ | ⟨k, hk, rfl, e1, c1, ho⟩
  · refine pOK_same (x := -iN 1) h ?_ (by unfold f_X8_plan; simp (disch := omega) only [chk_t, beq_self_eq_true, nm_s, bj1_s, bj2_s, bj3_s, mo_1, mo_0, l_0, l_1, l_2, l_3, l_4, l_5, l_6, l_7, l_8, l_9, l_10, l_11, l_12, l_13, l_14, l_15, l_16, l_17, l_18, l_19, l_20, l_21, l_30, l_31, l_32, l_36, l_40, l_41, l_42, l_43, l_44, l_45, l_46, l_47, l_48, l_49, l_50, l_51, l_52, l_57, l_58, l_60, l_64, l_72, l_80, l_92, l_98, l_99, l_100, l_102, l_105, l_111, l_112, l_114, l_115, l_116, l_117, l_120, l_144, l_200, l_201, l_240, l_300, l_320, l_400, l_500, l_550, l_560, l_649, l_650, l_1000, l_1400, l_2000, l_4000, l_10000, iN_add, iN_sub, iN_mul, iN_le_t, iN_le_f, iN_lt_t, iN_lt_f, iN_eq_f, inb_iN, ix_iN, isZ_0, isZ_1, ↓reduceIte, eq_self, place8, e1])
    rcases text_cases a2 G with ⟨e2, c2⟩ | ⟨t, ht, rfl, e2, c2, ho2⟩
    · unfold f_X7_plan
      simp (disch := omega) only [chk_t, beq_self_eq_true, nm_s, bj1_s, bj2_s, bj3_s, mo_1, mo_0, l_0, l_1, l_2, l_3, l_4, l_5, l_6, l_7, l_8, l_9, l_10, l_11, l_12, l_13, l_14, l_15, l_16, l_17, l_18, l_19, l_20, l_21, l_30, l_31, l_32, l_36, l_40, l_41, l_42, l_43, l_44, l_45, l_46, l_47, l_48, l_49, l_50, l_51, l_52, l_57, l_58, l_60, l_64, l_72, l_80, l_92, l_98, l_99, l_100, l_102, l_105, l_111, l_112, l_114, l_115, l_116, l_117, l_120, l_144, l_200, l_201, l_240, l_300, l_320, l_400, l_500, l_550, l_560, l_649, l_650, l_1000, l_1400, l_2000, l_4000, l_10000, iN_add, iN_sub, iN_mul, iN_le_t, iN_le_f, iN_lt_t, iN_lt_f, iN_eq_f, inb_iN, ix_iN, isZ_0, isZ_1, ↓reduceIte, eq_self, c1, c2]
    · unfold f_X7_plan
      simp (disch := omega) only [chk_t, beq_self_eq_true, nm_s, bj1_s, bj2_s, bj3_s, mo_1, mo_0, l_0, l_1, l_2, l_3, l_4, l_5, l_6, l_7, l_8, l_9, l_10, l_11, l_12, l_13, l_14, l_15, l_16, l_17, l_18, l_19, l_20, l_21, l_30, l_31, l_32, l_36, l_40, l_41, l_42, l_43, l_44, l_45, l_46, l_47, l_48, l_49, l_50, l_51, l_52, l_57, l_58, l_60, l_64, l_72, l_80, l_92, l_98, l_99, l_100, l_102, l_105, l_111, l_112, l_114, l_115, l_116, l_117, l_120, l_144, l_200, l_201, l_240, l_300, l_320, l_400, l_500, l_550, l_560, l_649, l_650, l_1000, l_1400, l_2000, l_4000, l_10000, iN_add, iN_sub, iN_mul, iN_le_t, iN_le_f, iN_lt_t, iN_lt_f, iN_eq_f, inb_iN, ix_iN, isZ_0, isZ_1, ↓reduceIte, eq_self, c1, c2]
  · rcases text_cases a2 G with ⟨e2, c2⟩ | ⟨t, ht, rfl, e2, c2, ho2⟩
    · refine pOK_same (x := -iN 1) h ?_ (by unfold f_X8_plan; simp (disch := omega) only [chk_t, beq_self_eq_true, nm_s, bj1_s, bj2_s, bj3_s, mo_1, mo_0, l_0, l_1, l_2, l_3, l_4, l_5, l_6, l_7, l_8, l_9, l_10, l_11, l_12, l_13, l_14, l_15, l_16, l_17, l_18, l_19, l_20, l_21, l_30, l_31, l_32, l_36, l_40, l_41, l_42, l_43, l_44, l_45, l_46, l_47, l_48, l_49, l_50, l_51, l_52, l_57, l_58, l_60, l_64, l_72, l_80, l_92, l_98, l_99, l_100, l_102, l_105, l_111, l_112, l_114, l_115, l_116, l_117, l_120, l_144, l_200, l_201, l_240, l_300, l_320, l_400, l_500, l_550, l_560, l_649, l_650, l_1000, l_1400, l_2000, l_4000, l_10000, iN_add, iN_sub, iN_mul, iN_le_t, iN_le_f, iN_lt_t, iN_lt_f, iN_eq_f, inb_iN, ix_iN, isZ_0, isZ_1, ↓reduceIte, eq_self, place8, e1, text8, e2])
      unfold f_X7_plan
      simp (disch := omega) only [chk_t, beq_self_eq_true, nm_s, bj1_s, bj2_s, bj3_s, mo_1, mo_0, l_0, l_1, l_2, l_3, l_4, l_5, l_6, l_7, l_8, l_9, l_10, l_11, l_12, l_13, l_14, l_15, l_16, l_17, l_18, l_19, l_20, l_21, l_30, l_31, l_32, l_36, l_40, l_41, l_42, l_43, l_44, l_45, l_46, l_47, l_48, l_49, l_50, l_51, l_52, l_57, l_58, l_60, l_64, l_72, l_80, l_92, l_98, l_99, l_100, l_102, l_105, l_111, l_112, l_114, l_115, l_116, l_117, l_120, l_144, l_200, l_201, l_240, l_300, l_320, l_400, l_500, l_550, l_560, l_649, l_650, l_1000, l_1400, l_2000, l_4000, l_10000, iN_add, iN_sub, iN_mul, iN_le_t, iN_le_f, iN_lt_t, iN_lt_f, iN_eq_f, inb_iN, ix_iN, isZ_0, isZ_1, ↓reduceIte, eq_self, c1, c2, kd_b ho]
    · obtain ⟨t1, t2, t3⟩ := h.1.2.1 t ht
      rcases t2 with t2 | ⟨z, hz, t2⟩
      · have tt := tthere_f ho2 (t1.trans t2)
        refine pOK_found (f := 1) (by omega) h ?_ ?_
        · unfold f_X7_plan
          simp (disch := omega) only [chk_t, beq_self_eq_true, nm_s, bj1_s, bj2_s, bj3_s, mo_1, mo_0, l_0, l_1, l_2, l_3, l_4, l_5, l_6, l_7, l_8, l_9, l_10, l_11, l_12, l_13, l_14, l_15, l_16, l_17, l_18, l_19, l_20, l_21, l_30, l_31, l_32, l_36, l_40, l_41, l_42, l_43, l_44, l_45, l_46, l_47, l_48, l_49, l_50, l_51, l_52, l_57, l_58, l_60, l_64, l_72, l_80, l_92, l_98, l_99, l_100, l_102, l_105, l_111, l_112, l_114, l_115, l_116, l_117, l_120, l_144, l_200, l_201, l_240, l_300, l_320, l_400, l_500, l_550, l_560, l_649, l_650, l_1000, l_1400, l_2000, l_4000, l_10000, iN_add, iN_sub, iN_mul, iN_le_t, iN_le_f, iN_lt_t, iN_lt_f, iN_eq_f, inb_iN, ix_iN, isZ_0, isZ_1, ↓reduceIte, eq_self, c1, c2, kd_b ho, kd_b ho2, tt, found_ok]
        · unfold f_X8_plan
          simp (disch := omega) only [chk_t, beq_self_eq_true, nm_s, bj1_s, bj2_s, bj3_s, mo_1, mo_0, l_0, l_1, l_2, l_3, l_4, l_5, l_6, l_7, l_8, l_9, l_10, l_11, l_12, l_13, l_14, l_15, l_16, l_17, l_18, l_19, l_20, l_21, l_30, l_31, l_32, l_36, l_40, l_41, l_42, l_43, l_44, l_45, l_46, l_47, l_48, l_49, l_50, l_51, l_52, l_57, l_58, l_60, l_64, l_72, l_80, l_92, l_98, l_99, l_100, l_102, l_105, l_111, l_112, l_114, l_115, l_116, l_117, l_120, l_144, l_200, l_201, l_240, l_300, l_320, l_400, l_500, l_550, l_560, l_649, l_650, l_1000, l_1400, l_2000, l_4000, l_10000, iN_add, iN_sub, iN_mul, iN_le_t, iN_le_f, iN_lt_t, iN_lt_f, iN_eq_f, inb_iN, ix_iN, isZ_0, isZ_1, ↓reduceIte, eq_self, place8, e1, text8, e2, fndC_o, t2, le_m1, meets_ok]
      · have tt := tthere_t ho2 (t1.trans t2) hz
        have hcT := cT_R2 h.1.2.1 ht t2 hz
        obtain ⟨e, c', W', T', r1, r2, r3⟩ := plan_read (B := fun i => G.1 130 (80 * t + i)) ht hz
        obtain ⟨A, a1, a2, a3, a4⟩ := r2 G hcT
        by_cases he : e = -iN 9
        · obtain ⟨b0, b5, b1⟩ := a4 he
          obtain ⟨p1, p2, p3, p4⟩ := r1 he
          have hk41 : kd 41 = 2 := rfl
          obtain ⟨C, d0, d1, d2, d5, d6, d3, d4⟩ := pbecome_ok (o := 75 + 4 * k) (a := 41) (G := A) ho hk41 (by omega) b0 p1
          have eC : ∀ q, 49 < q → (q < 75 + 4 * k ∨ 75 + 4 * k + 4 ≤ q) → C.1 q = G.1 q := fun q h1 h2 => (d3 q h2).trans (cc_at a2 h1)
          obtain ⟨H, m0, m1, m2⟩ := r3 C ⟨by rw [eC 129 (by omega) (by omega)]; exact t2, fun i hi => by rw [eC 130 (by omega) (by omega)]⟩
          obtain ⟨m3, m4⟩ := m2 he
          obtain ⟨H2, n0, n1, n2, n3, n4⟩ := plancopy (k := k) (H := H) hk
          have n17 : H2.1 124 17 = iN c' := (congrFun (n3 124 (by omega)) 17).trans m3
          refine ⟨iN c', C, sI (sI H2 134 k (iN c')) 133 k (iN 1), ?_, ?_, ?_⟩
          · unfold f_X7_plan
            simp (disch := omega) only [chk_t, beq_self_eq_true, nm_s, bj1_s, bj2_s, bj3_s, mo_1, mo_0, l_0, l_1, l_2, l_3, l_4, l_5, l_6, l_7, l_8, l_9, l_10, l_11, l_12, l_13, l_14, l_15, l_16, l_17, l_18, l_19, l_20, l_21, l_30, l_31, l_32, l_36, l_40, l_41, l_42, l_43, l_44, l_45, l_46, l_47, l_48, l_49, l_50, l_51, l_52, l_57, l_58, l_60, l_64, l_72, l_80, l_92, l_98, l_99, l_100, l_102, l_105, l_111, l_112, l_114, l_115, l_116, l_117, l_120, l_144, l_200, l_201, l_240, l_300, l_320, l_400, l_500, l_550, l_560, l_649, l_650, l_1000, l_1400, l_2000, l_4000, l_10000, iN_add, iN_sub, iN_mul, iN_le_t, iN_le_f, iN_lt_t, iN_lt_f, iN_eq_f, inb_iN, ix_iN, isZ_0, isZ_1, ↓reduceIte, eq_self, c1, c2, kd_b ho, kd_b ho2, tt, a1, a3, he, d0, d2]
          · have c129 : C.1 129 t = iN z := by rw [eC 129 (by omega) (by omega)]; exact t2
            unfold f_X8_plan
            simp (disch := omega) only [chk_t, beq_self_eq_true, nm_s, bj1_s, bj2_s, bj3_s, mo_1, mo_0, l_0, l_1, l_2, l_3, l_4, l_5, l_6, l_7, l_8, l_9, l_10, l_11, l_12, l_13, l_14, l_15, l_16, l_17, l_18, l_19, l_20, l_21, l_30, l_31, l_32, l_36, l_40, l_41, l_42, l_43, l_44, l_45, l_46, l_47, l_48, l_49, l_50, l_51, l_52, l_57, l_58, l_60, l_64, l_72, l_80, l_92, l_98, l_99, l_100, l_102, l_105, l_111, l_112, l_114, l_115, l_116, l_117, l_120, l_144, l_200, l_201, l_240, l_300, l_320, l_400, l_500, l_550, l_560, l_649, l_650, l_1000, l_1400, l_2000, l_4000, l_10000, iN_add, iN_sub, iN_mul, iN_le_t, iN_le_f, iN_lt_t, iN_lt_f, iN_eq_f, inb_iN, ix_iN, isZ_0, isZ_1, ↓reduceIte, eq_self, place8, e1, text8, e2, c129, m0, he, n0, sI_p, n17]
          · have k1 : ∀ q, q ≠ 133 → q ≠ 134 → q ≠ 135 → (sI (sI H2 134 k (iN c')) 133 k (iN 1)).1 q = H.1 q := fun q g1 g2 g3 => by rw [sI_p g1, sI_p g2, n3 q g3]
            have k134 : ∀ s, (sI (sI H2 134 k (iN c')) 133 k (iN 1)).1 134 s = if s = k then iN c' else H.1 134 s := fun s => by
              rw [sI_p (by omega)]
              by_cases c : s = k
              · subst c
                rw [sI_eq, if_pos rfl]
              · rw [sI_j c, if_neg c, n3 134 (by omega)]
            have k133 : ∀ s, (sI (sI H2 134 k (iN c')) 133 k (iN 1)).1 133 s = if s = k then iN 1 else H.1 133 s := fun s => by
              by_cases c : s = k
              · subst c
                rw [sI_eq, if_pos rfl]
              · rw [sI_j c, if_neg c, sI_p (by omega), n3 133 (by omega)]
            have k135 : (sI (sI H2 134 k (iN c')) 133 k (iN 1)).1 135 = H2.1 135 := by rw [sI_p (by omega), sI_p (by omega)]
            have k2' : (sI (sI H2 134 k (iN c')) 133 k (iN 1)).2 = H2.2 := rfl
            generalize sI (sI H2 134 k (iN c')) 133 k (iN 1) = K at *
            have eK : ∀ q, relq q → q ≠ 133 → q ≠ 134 → q ≠ 135 → (q < 75 + 4 * k ∨ 75 + 4 * k + 4 ≤ q) → 49 < q → K.1 q = G.1 q := fun q g1 g2 g3 g4 g5 g6 => by rw [k1 q g2 g3 g4, m1.1 q (Or.inr g1), eC q g6 g5]
            have eL : ∀ q, q < 124 → K.1 q = C.1 q := fun q g1 => by rw [k1 q (by omega) (by omega) (by omega), m1.1 q (by omega)]
            have eG : ∀ q, q < 17 → C.1 q = G.1 q := fun q hq => (d3 q (by omega)).trans (a2.1 q (by omega))
            have c124 : C.1 124 = G.1 124 := eC 124 (by omega) (by omega)
            have k124 : K.1 124 = H.1 124 := k1 124 (by omega) (by omega) (by omega)
            refine RR_4 h ?_ (fun q hq => ?_) (fun j hj => ?_) ?_ ?_ ?_ ?_ ?_
            · intro s hs
              have hs' := h.1.2.2.2.1 s hs
              by_cases c : s = k
              · subst c
                have v4 : PL s K 4 = iN c' := by rw [PL_4, k134, if_pos rfl]
                have v5 : ∀ j, j < 3 * c' → PL s K (5 + j) = W' j := fun j hj => by rw [PL_5, k135, n1 j (by omega), m4 j hj]
                have vm : mD (PL s K) = c' := mD_N v4 p1
                have vt : tkS (PL s K) = iN T' := by
                  unfold tkS
                  rw [vm, sumS_congr (g := fun i => W' (3 * i + 2)) (fun i hi => by rw [show 5 + 3 * i + 2 = 5 + (3 * i + 2) by omega]; exact v5 _ (by omega)), p4]
                refine ⟨?_, Or.inr ⟨by rw [k133, if_pos rfl], c', v4, p1, fun i hi => ?_, T', p2, vt⟩, fun _ => ⟨?_, ?_, fun i hi => ?_⟩⟩
                · rw [eL _ (by omega), d1, k133, if_pos rfl]
                · obtain ⟨a, b, l, w1, w2, w3, w4⟩ := p3 i hi
                  exact ⟨a, b, l, (v5 _ (by omega)).trans w1, by rw [show 5 + 3 * i + 1 = 5 + (3 * i + 1) by omega]; exact (v5 _ (by omega)).trans w2, by rw [show 5 + 3 * i + 2 = 5 + (3 * i + 2) by omega]; exact (v5 _ (by omega)).trans w3, w4⟩
                · rw [eL _ (by omega), d2, v4]
                · rw [eL _ (by omega), d5, vt, ← p4]
                  exact sumS_congr (fun i hi => (b1 i hi).2.2)
                · rw [vm] at hi
                  obtain ⟨w1, w2, w3⟩ := d6 i hi
                  obtain ⟨x1, x2, x3⟩ := b1 i hi
                  rw [eL _ (by omega), eL _ (by omega), eL _ (by omega), w1, w2, w3, show 5 + 3 * i + 1 = 5 + (3 * i + 1) by omega, show 5 + 3 * i + 2 = 5 + (3 * i + 2) by omega, v5 _ (by omega), v5 _ (by omega), v5 _ (by omega)]
                  exact ⟨x1, x2, x3⟩
              · have v : ∀ p, 4 ≤ p → p < 41 → PL s K p = PL s G p := fun p g1 g2 => by
                  by_cases c4 : p = 4
                  · subst c4
                    rw [PL_4, PL_4, k134, if_neg c, m1.1 134 (Or.inr (by unfold relq; omega)), eC 134 (by omega) (by omega)]
                  · obtain ⟨j, rfl⟩ : ∃ j, p = 5 + j := ⟨p - 5, by omega⟩
                    rw [PL_5, PL_5, k135, n2 _ (by omega), m1.1 135 (Or.inr (by unfold relq; omega)), eC 135 (by omega) (by omega)]
                have w : ∀ q, 75 + 4 * s ≤ q → q < 75 + 4 * s + 4 → K.1 q = G.1 q := fun q g1 g2 => by
                  rw [eL _ (by omega)]
                  exact eC _ (by omega) (by omega)
                have u : K.1 133 s = G.1 133 s := by rw [k133, if_neg c, m1.1 133 (Or.inr (by unfold relq; omega)), eC 133 (by omega) (by omega)]
                rw [w _ (by omega) (by omega), u]
                refine ⟨hs'.1, ?_, ?_⟩
                · rcases hs'.2.1 with hh | ⟨hh, mm, hpl⟩
                  · exact Or.inl hh
                  · exact Or.inr ⟨hh, mm, pl_keep hpl v⟩
                · intro u1
                  rcases hs'.2.1 with hh | ⟨hh, mm, hpl⟩
                  · rw [u1] at hh
                    exact absurd hh (by decide)
                  · exact cPl_keep hpl v (cPl_cc (A := K) (hs'.2.2 u1) w)
            · by_cases h17 : q < 17
              · rw [eL q (by omega)]
                exact eG q h17
              · exact eK q (by unfold relq; omega) (by omega) (by omega) (by omega) (by omega) (by omega)
            · rw [k1 139 (by omega) (by omega) (by omega), m1.2.2.2.1 j hj, eC 139 (by omega) (by omega)]
            · rw [eL 17 (by omega), d3 17 (by omega)]
              exact a2.2.2 h.1.2.2.2.2.2.2.2.2.2
            · rw [eL 0 (by omega), eG 0 (by omega)]
            · rw [k124, m1.2.1, c124]
            · rw [k2', n4, m1.2.2.2.2, d4, a2.2.1]
            · rw [eL 0 (by omega), eG 0 (by omega), k124, m1.2.2.1, c124]
              exact h.2
        · obtain ⟨H, m0, m1, -⟩ := r3 A ⟨by rw [cc_at a2 (by omega)]; exact t2, fun i hi => by rw [cc_at a2 (by omega)]⟩
          have he' := eq_false he
          refine pOK_none (x := -iN 4) (G1 := A) (H := H) h ?_ a2 ?_ m1
          · unfold f_X7_plan
            simp (disch := omega) only [chk_t, beq_self_eq_true, nm_s, bj1_s, bj2_s, bj3_s, mo_1, mo_0, l_0, l_1, l_2, l_3, l_4, l_5, l_6, l_7, l_8, l_9, l_10, l_11, l_12, l_13, l_14, l_15, l_16, l_17, l_18, l_19, l_20, l_21, l_30, l_31, l_32, l_36, l_40, l_41, l_42, l_43, l_44, l_45, l_46, l_47, l_48, l_49, l_50, l_51, l_52, l_57, l_58, l_60, l_64, l_72, l_80, l_92, l_98, l_99, l_100, l_102, l_105, l_111, l_112, l_114, l_115, l_116, l_117, l_120, l_144, l_200, l_201, l_240, l_300, l_320, l_400, l_500, l_550, l_560, l_649, l_650, l_1000, l_1400, l_2000, l_4000, l_10000, iN_add, iN_sub, iN_mul, iN_le_t, iN_le_f, iN_lt_t, iN_lt_f, iN_eq_f, inb_iN, ix_iN, isZ_0, isZ_1, ↓reduceIte, eq_self, c1, c2, kd_b ho, kd_b ho2, tt, a1, a3, he']
          · have c129 : A.1 129 t = iN z := by rw [cc_at a2 (by omega)]; exact t2
            unfold f_X8_plan
            simp (disch := omega) only [chk_t, beq_self_eq_true, nm_s, bj1_s, bj2_s, bj3_s, mo_1, mo_0, l_0, l_1, l_2, l_3, l_4, l_5, l_6, l_7, l_8, l_9, l_10, l_11, l_12, l_13, l_14, l_15, l_16, l_17, l_18, l_19, l_20, l_21, l_30, l_31, l_32, l_36, l_40, l_41, l_42, l_43, l_44, l_45, l_46, l_47, l_48, l_49, l_50, l_51, l_52, l_57, l_58, l_60, l_64, l_72, l_80, l_92, l_98, l_99, l_100, l_102, l_105, l_111, l_112, l_114, l_115, l_116, l_117, l_120, l_144, l_200, l_201, l_240, l_300, l_320, l_400, l_500, l_550, l_560, l_649, l_650, l_1000, l_1400, l_2000, l_4000, l_10000, iN_add, iN_sub, iN_mul, iN_le_t, iN_le_f, iN_lt_t, iN_lt_f, iN_eq_f, inb_iN, ix_iN, isZ_0, isZ_1, ↓reduceIte, eq_self, place8, e1, text8, e2, c129, m0, he']

/-! which, odds: the answers -/
theorem np_1 {r : Nat} {M : G_} (hr : r < 6) (e : M.1 126 r = -iN 1) : f_X8_needPairs (iN r) M = some (-iN 3, fndM 1 M) := by
  unfold f_X8_needPairs
  simp (disch := omega) only [chk_t, beq_self_eq_true, nm_s, bj1_s, bj2_s, bj3_s, mo_1, mo_0, l_0, l_1, l_2, l_3, l_4, l_5, l_6, l_7, l_8, l_9, l_10, l_11, l_12, l_13, l_14, l_15, l_16, l_17, l_18, l_19, l_20, l_21, l_30, l_31, l_32, l_36, l_40, l_41, l_42, l_43, l_44, l_45, l_46, l_47, l_48, l_49, l_50, l_51, l_52, l_57, l_58, l_60, l_64, l_72, l_80, l_92, l_98, l_99, l_100, l_102, l_105, l_111, l_112, l_114, l_115, l_116, l_117, l_120, l_144, l_200, l_201, l_240, l_300, l_320, l_400, l_500, l_550, l_560, l_649, l_650, l_1000, l_1400, l_2000, l_4000, l_10000, iN_add, iN_sub, iN_mul, iN_le_t, iN_le_f, iN_lt_t, iN_lt_f, iN_eq_f, inb_iN, ix_iN, isZ_0, isZ_1, ↓reduceIte, eq_self, e, le_m1, meets_ok]
theorem np_5 {r z : Nat} {M : G_} (hr : r < 6) (hz : z ≤ 40) (e : M.1 126 r = iN z) (h : inS (iN 3) (iN 20) (iN z) = iN 0) : f_X8_needPairs (iN r) M = some (-iN 3, fndM 5 M) := by
  unfold f_X8_needPairs
  simp (disch := omega) only [chk_t, beq_self_eq_true, nm_s, bj1_s, bj2_s, bj3_s, mo_1, mo_0, l_0, l_1, l_2, l_3, l_4, l_5, l_6, l_7, l_8, l_9, l_10, l_11, l_12, l_13, l_14, l_15, l_16, l_17, l_18, l_19, l_20, l_21, l_30, l_31, l_32, l_36, l_40, l_41, l_42, l_43, l_44, l_45, l_46, l_47, l_48, l_49, l_50, l_51, l_52, l_57, l_58, l_60, l_64, l_72, l_80, l_92, l_98, l_99, l_100, l_102, l_105, l_111, l_112, l_114, l_115, l_116, l_117, l_120, l_144, l_200, l_201, l_240, l_300, l_320, l_400, l_500, l_550, l_560, l_649, l_650, l_1000, l_1400, l_2000, l_4000, l_10000, iN_add, iN_sub, iN_mul, iN_le_t, iN_le_f, iN_lt_t, iN_lt_f, iN_eq_f, inb_iN, ix_iN, isZ_0, isZ_1, ↓reduceIte, eq_self, e, in8, h, meets_ok]
theorem np_3 {r z : Nat} {M : G_} {g : Nat → Int32} (hr : r < 6) (hz : z ≤ 40) (e : M.1 126 r = iN z) (h : inS (iN 3) (iN 20) (iN z) = iN 1) (hg : ∀ i, i < z → M.1 127 (40 * r + i) = g i) (ha : alS g z = iN 0) : f_X8_needPairs (iN r) M = some (-iN 3, fndM 3 M) := by
  have hm := mall_ok hr hz e hg
  rw [ha] at hm
  unfold f_X8_needPairs
  simp (disch := omega) only [chk_t, beq_self_eq_true, nm_s, bj1_s, bj2_s, bj3_s, mo_1, mo_0, l_0, l_1, l_2, l_3, l_4, l_5, l_6, l_7, l_8, l_9, l_10, l_11, l_12, l_13, l_14, l_15, l_16, l_17, l_18, l_19, l_20, l_21, l_30, l_31, l_32, l_36, l_40, l_41, l_42, l_43, l_44, l_45, l_46, l_47, l_48, l_49, l_50, l_51, l_52, l_57, l_58, l_60, l_64, l_72, l_80, l_92, l_98, l_99, l_100, l_102, l_105, l_111, l_112, l_114, l_115, l_116, l_117, l_120, l_144, l_200, l_201, l_240, l_300, l_320, l_400, l_500, l_550, l_560, l_649, l_650, l_1000, l_1400, l_2000, l_4000, l_10000, iN_add, iN_sub, iN_mul, iN_le_t, iN_le_f, iN_lt_t, iN_lt_f, iN_eq_f, inb_iN, ix_iN, isZ_0, isZ_1, ↓reduceIte, eq_self, e, in8, h, hm, meets_ok]
theorem np_0 {r z : Nat} {G M : G_} (h : RR0 G) (hM : ∀ q, 51 ≤ q → M.1 q = G.1 q) (hr : r < 6) (hz : z ≤ 20) (ez : G.1 126 r = iN z) (hi : inS (iN 3) (iN 20) (iN z) = iN 1) (ha : alS (fun i => G.1 127 (40 * r + i)) z = iN 1) : ∃ H, f_X8_needPairs (iN r) M = some (iN 0, H) ∧ mf M H ∧ ∀ i, i < 16 → H.1 144 i = uS r z G i := by
  obtain ⟨H, h1, h2, h3⟩ := mpairs_ok h hM hr hz ez
  refine ⟨H, ?_, h2, h3⟩
  have e : M.1 126 r = iN z := by rw [hM 126 (by omega)]; exact ez
  have hm := mall_ok (G := M) (g := fun i => G.1 127 (40 * r + i)) hr (by omega) e (fun i _ => by rw [hM 127 (by omega)])
  rw [ha] at hm
  unfold f_X8_needPairs
  simp (disch := omega) only [chk_t, beq_self_eq_true, nm_s, bj1_s, bj2_s, bj3_s, mo_1, mo_0, l_0, l_1, l_2, l_3, l_4, l_5, l_6, l_7, l_8, l_9, l_10, l_11, l_12, l_13, l_14, l_15, l_16, l_17, l_18, l_19, l_20, l_21, l_30, l_31, l_32, l_36, l_40, l_41, l_42, l_43, l_44, l_45, l_46, l_47, l_48, l_49, l_50, l_51, l_52, l_57, l_58, l_60, l_64, l_72, l_80, l_92, l_98, l_99, l_100, l_102, l_105, l_111, l_112, l_114, l_115, l_116, l_117, l_120, l_144, l_200, l_201, l_240, l_300, l_320, l_400, l_500, l_550, l_560, l_649, l_650, l_1000, l_1400, l_2000, l_4000, l_10000, iN_add, iN_sub, iN_mul, iN_le_t, iN_le_f, iN_lt_t, iN_lt_f, iN_eq_f, inb_iN, ix_iN, isZ_0, isZ_1, ↓reduceIte, eq_self, e, in8, hi, hm, h1]
theorem leastP_ok {H : G_} {f : Nat → Int32} (hf : f20 f) (hH : ∀ i, i < 16 → H.1 144 i = f i) : f_X8_leastPair H = some (leS f 16).2 := by
  have key := loop_cl (fun n v s => f_X8_leastPair_l5_3 H n s v) (fun j => (leS f j).2) 0 16 (some (leS f 16).2) (by
    intro n j h1 h2
    have e := hH j h2
    have st : (leS f (j + 1)).2 = if f j < iN 0 then (leS f j).2 else if (leS f j).2 = -iN 9 then iN j else if (leS f j).1 ≤ f j then (leS f j).2 else iN j := by
      conv => lhs; unfold leS
      split
      · rfl
      · split
        · rfl
        · split
          · rfl
          · rfl
    show f_X8_leastPair_l5_3 H (n + 1) (leS f j).2 (iN j) = f_X8_leastPair_l5_3 H n (leS f (j + 1)).2 (iN (j + 1))
    rw [st]
    conv => lhs; unfold f_X8_leastPair_l5_3
    by_cases c : f j < iN 0
    · simp (disch := omega) only [chk_t, beq_self_eq_true, nm_s, bj1_s, bj2_s, bj3_s, mo_1, mo_0, l_0, l_1, l_2, l_3, l_4, l_5, l_6, l_7, l_8, l_9, l_10, l_11, l_12, l_13, l_14, l_15, l_16, l_17, l_18, l_19, l_20, l_21, l_30, l_31, l_32, l_36, l_40, l_41, l_42, l_43, l_44, l_45, l_46, l_47, l_48, l_49, l_50, l_51, l_52, l_57, l_58, l_60, l_64, l_72, l_80, l_92, l_98, l_99, l_100, l_102, l_105, l_111, l_112, l_114, l_115, l_116, l_117, l_120, l_144, l_200, l_201, l_240, l_300, l_320, l_400, l_500, l_550, l_560, l_649, l_650, l_1000, l_1400, l_2000, l_4000, l_10000, iN_add, iN_sub, iN_mul, iN_le_t, iN_le_f, iN_lt_t, iN_lt_f, iN_eq_f, inb_iN, ix_iN, isZ_0, isZ_1, ↓reduceIte, eq_self, e, if_pos c]
    · rcases leS_ok hf j (by omega) with ⟨g1, g2⟩ | ⟨b, c', g1, g2, g3, g4, g5, g6⟩
      · rw [g1]
        simp (disch := omega) only [chk_t, beq_self_eq_true, nm_s, bj1_s, bj2_s, bj3_s, mo_1, mo_0, l_0, l_1, l_2, l_3, l_4, l_5, l_6, l_7, l_8, l_9, l_10, l_11, l_12, l_13, l_14, l_15, l_16, l_17, l_18, l_19, l_20, l_21, l_30, l_31, l_32, l_36, l_40, l_41, l_42, l_43, l_44, l_45, l_46, l_47, l_48, l_49, l_50, l_51, l_52, l_57, l_58, l_60, l_64, l_72, l_80, l_92, l_98, l_99, l_100, l_102, l_105, l_111, l_112, l_114, l_115, l_116, l_117, l_120, l_144, l_200, l_201, l_240, l_300, l_320, l_400, l_500, l_550, l_560, l_649, l_650, l_1000, l_1400, l_2000, l_4000, l_10000, iN_add, iN_sub, iN_mul, iN_le_t, iN_le_f, iN_lt_t, iN_lt_f, iN_eq_f, inb_iN, ix_iN, isZ_0, isZ_1, ↓reduceIte, eq_self, e, if_neg c]
      · rw [g4]
        have e9 : (iN b = -iN 9) = False := eq_false (ne_m9 (by omega))
        have eb : H.1 144 b = iN c' := (hH b (by omega)).trans g3
        by_cases cq : iN c' ≤ f j
        · simp (disch := omega) only [chk_t, beq_self_eq_true, nm_s, bj1_s, bj2_s, bj3_s, mo_1, mo_0, l_0, l_1, l_2, l_3, l_4, l_5, l_6, l_7, l_8, l_9, l_10, l_11, l_12, l_13, l_14, l_15, l_16, l_17, l_18, l_19, l_20, l_21, l_30, l_31, l_32, l_36, l_40, l_41, l_42, l_43, l_44, l_45, l_46, l_47, l_48, l_49, l_50, l_51, l_52, l_57, l_58, l_60, l_64, l_72, l_80, l_92, l_98, l_99, l_100, l_102, l_105, l_111, l_112, l_114, l_115, l_116, l_117, l_120, l_144, l_200, l_201, l_240, l_300, l_320, l_400, l_500, l_550, l_560, l_649, l_650, l_1000, l_1400, l_2000, l_4000, l_10000, iN_add, iN_sub, iN_mul, iN_le_t, iN_le_f, iN_lt_t, iN_lt_f, iN_eq_f, inb_iN, ix_iN, isZ_0, isZ_1, ↓reduceIte, eq_self, e, if_neg c, e9, eb, if_pos cq]
        · simp (disch := omega) only [chk_t, beq_self_eq_true, nm_s, bj1_s, bj2_s, bj3_s, mo_1, mo_0, l_0, l_1, l_2, l_3, l_4, l_5, l_6, l_7, l_8, l_9, l_10, l_11, l_12, l_13, l_14, l_15, l_16, l_17, l_18, l_19, l_20, l_21, l_30, l_31, l_32, l_36, l_40, l_41, l_42, l_43, l_44, l_45, l_46, l_47, l_48, l_49, l_50, l_51, l_52, l_57, l_58, l_60, l_64, l_72, l_80, l_92, l_98, l_99, l_100, l_102, l_105, l_111, l_112, l_114, l_115, l_116, l_117, l_120, l_144, l_200, l_201, l_240, l_300, l_320, l_400, l_500, l_550, l_560, l_649, l_650, l_1000, l_1400, l_2000, l_4000, l_10000, iN_add, iN_sub, iN_mul, iN_le_t, iN_le_f, iN_lt_t, iN_lt_f, iN_eq_f, inb_iN, ix_iN, isZ_0, isZ_1, ↓reduceIte, eq_self, e, if_neg c, e9, eb, if_neg cq]) (by
    intro n
    show f_X8_leastPair_l5_3 H (n + 1) (leS f 16).2 (iN 16) = _
    unfold f_X8_leastPair_l5_3
    simp (disch := omega) only [chk_t, beq_self_eq_true, nm_s, bj1_s, bj2_s, bj3_s, mo_1, mo_0, l_0, l_1, l_2, l_3, l_4, l_5, l_6, l_7, l_8, l_9, l_10, l_11, l_12, l_13, l_14, l_15, l_16, l_17, l_18, l_19, l_20, l_21, l_30, l_31, l_32, l_36, l_40, l_41, l_42, l_43, l_44, l_45, l_46, l_47, l_48, l_49, l_50, l_51, l_52, l_57, l_58, l_60, l_64, l_72, l_80, l_92, l_98, l_99, l_100, l_102, l_105, l_111, l_112, l_114, l_115, l_116, l_117, l_120, l_144, l_200, l_201, l_240, l_300, l_320, l_400, l_500, l_550, l_560, l_649, l_650, l_1000, l_1400, l_2000, l_4000, l_10000, iN_add, iN_sub, iN_mul, iN_le_t, iN_le_f, iN_lt_t, iN_lt_f, iN_eq_f, inb_iN, ix_iN, isZ_0, isZ_1, ↓reduceIte, eq_self]) (by omega) (n := FU) (fu_lt (by omega))
  have key : f_X8_leastPair_l5_3 H FU (-iN 9) (iN 0) = some (leS f 16).2 := key
  unfold f_X8_leastPair
  simp (disch := omega) only [chk_t, beq_self_eq_true, nm_s, bj1_s, bj2_s, bj3_s, mo_1, mo_0, l_0, l_1, l_2, l_3, l_4, l_5, l_6, l_7, l_8, l_9, l_10, l_11, l_12, l_13, l_14, l_15, l_16, l_17, l_18, l_19, l_20, l_21, l_30, l_31, l_32, l_36, l_40, l_41, l_42, l_43, l_44, l_45, l_46, l_47, l_48, l_49, l_50, l_51, l_52, l_57, l_58, l_60, l_64, l_72, l_80, l_92, l_98, l_99, l_100, l_102, l_105, l_111, l_112, l_114, l_115, l_116, l_117, l_120, l_144, l_200, l_201, l_240, l_300, l_320, l_400, l_500, l_550, l_560, l_649, l_650, l_1000, l_1400, l_2000, l_4000, l_10000, iN_add, iN_sub, iN_mul, iN_le_t, iN_le_f, iN_lt_t, iN_lt_f, iN_eq_f, inb_iN, ix_iN, isZ_0, isZ_1, ↓reduceIte, eq_self, key]
/-- all that keeps which and odds from the pairs, and what they have else -/
theorem row_what {r : Nat} {G : G_} (h : RR0 G) (hr : r < 6) :
    (∃ f, 1 ≤ f ∧ f ≤ 5 ∧ f_X7_wrongSlice (51 + 2 * r) G = some (iN f) ∧ f_X8_needPairs (iN r) (fndC f G) = some (-iN 3, fndM f (fndC f G))) ∨
    (f_X7_wrongSlice (51 + 2 * r) G = some (iN 0) ∧ ∃ z, z ≤ 20 ∧ G.1 126 r = iN z ∧ ∀ M : G_, (∀ q, 51 ≤ q → M.1 q = G.1 q) → ∃ H, f_X8_needPairs (iN r) M = some (iN 0, H) ∧ mf M H ∧ ∀ i, i < 16 → H.1 144 i = uS r z G i) := by
  obtain ⟨q1, q2, q3⟩ := h.1 r hr
  have ho := (rrk r hr).2
  have eF : ∀ f q, 51 ≤ q → (fndC f G).1 q = G.1 q := fun f q hq => fndC_o (by omega) (by omega)
  rcases q2 with q2 | ⟨z, hz, q2⟩
  · left
    have rz := q1.trans q2
    refine ⟨1, by omega, by omega, ?_, np_1 hr (by rw [eF 1 126 (by omega)]; exact q2)⟩
    unfold f_X7_wrongSlice
    simp (disch := omega) only [chk_t, beq_self_eq_true, nm_s, bj1_s, bj2_s, bj3_s, mo_1, mo_0, l_0, l_1, l_2, l_3, l_4, l_5, l_6, l_7, l_8, l_9, l_10, l_11, l_12, l_13, l_14, l_15, l_16, l_17, l_18, l_19, l_20, l_21, l_30, l_31, l_32, l_36, l_40, l_41, l_42, l_43, l_44, l_45, l_46, l_47, l_48, l_49, l_50, l_51, l_52, l_57, l_58, l_60, l_64, l_72, l_80, l_92, l_98, l_99, l_100, l_102, l_105, l_111, l_112, l_114, l_115, l_116, l_117, l_120, l_144, l_200, l_201, l_240, l_300, l_320, l_400, l_500, l_550, l_560, l_649, l_650, l_1000, l_1400, l_2000, l_4000, l_10000, iN_add, iN_sub, iN_mul, iN_le_t, iN_le_f, iN_lt_t, iN_lt_f, iN_eq_f, inb_iN, ix_iN, isZ_0, isZ_1, ↓reduceIte, eq_self, kd_b ho, rthere_f ho rz]
  · have rz := q1.trans q2
    have hw := cwrong_ok (G := G) (g := fun i => G.1 127 (40 * r + i)) ho hz rz (fun i hi => by rw [show 51 + 2 * r + 1 = 52 + 2 * r by omega]; exact q3 i (by omega))
    rcases inS_01 (iN 3) (iN 20) (iN z) with e | e
    · left
      rw [if_pos e] at hw
      exact ⟨5, by omega, by omega, hw, np_5 hr hz (by rw [eF 5 126 (by omega)]; exact q2) e⟩
    · rw [if_neg (by rw [e]; decide)] at hw
      have hz20 : z ≤ 20 := by
        rcases in_N 3 20 (iN z) with h0 | ⟨_, k, h1, _, h3⟩
        · rw [e] at h0
          exact absurd h0 (by decide)
        · have := (iN_inj (by omega) (by omega)).mp h1
          omega
      rcases alS_01 (fun i => G.1 127 (40 * r + i)) z with a | a
      · left
        rw [if_pos a] at hw
        exact ⟨3, by omega, by omega, hw, np_3 hr hz (by rw [eF 3 126 (by omega)]; exact q2) e (fun i _ => by rw [eF 3 127 (by omega)]) a⟩
      · right
        rw [if_neg (by rw [a]; decide)] at hw
        exact ⟨hw, z, hz20, q2, fun M hM => np_0 h hM hr hz20 q2 e a⟩
theorem op_which (a1 : Int32) {G : G_} (h : RR G) : pOK (f_X7_which a1) (f_X8_which a1) G := by
  rcases row_cases a1 G with ⟨e1, c1⟩ | ⟨r, hr, rfl, e1, c1, ho⟩
  · refine pOK_same (x := -iN 1) h ?_ ?_
    · unfold f_X7_which
      simp (disch := omega) only [chk_t, beq_self_eq_true, nm_s, bj1_s, bj2_s, bj3_s, mo_1, mo_0, l_0, l_1, l_2, l_3, l_4, l_5, l_6, l_7, l_8, l_9, l_10, l_11, l_12, l_13, l_14, l_15, l_16, l_17, l_18, l_19, l_20, l_21, l_30, l_31, l_32, l_36, l_40, l_41, l_42, l_43, l_44, l_45, l_46, l_47, l_48, l_49, l_50, l_51, l_52, l_57, l_58, l_60, l_64, l_72, l_80, l_92, l_98, l_99, l_100, l_102, l_105, l_111, l_112, l_114, l_115, l_116, l_117, l_120, l_144, l_200, l_201, l_240, l_300, l_320, l_400, l_500, l_550, l_560, l_649, l_650, l_1000, l_1400, l_2000, l_4000, l_10000, iN_add, iN_sub, iN_mul, iN_le_t, iN_le_f, iN_lt_t, iN_lt_f, iN_eq_f, inb_iN, ix_iN, isZ_0, isZ_1, ↓reduceIte, eq_self, c1]
    · unfold f_X8_which
      simp (disch := omega) only [chk_t, beq_self_eq_true, nm_s, bj1_s, bj2_s, bj3_s, mo_1, mo_0, l_0, l_1, l_2, l_3, l_4, l_5, l_6, l_7, l_8, l_9, l_10, l_11, l_12, l_13, l_14, l_15, l_16, l_17, l_18, l_19, l_20, l_21, l_30, l_31, l_32, l_36, l_40, l_41, l_42, l_43, l_44, l_45, l_46, l_47, l_48, l_49, l_50, l_51, l_52, l_57, l_58, l_60, l_64, l_72, l_80, l_92, l_98, l_99, l_100, l_102, l_105, l_111, l_112, l_114, l_115, l_116, l_117, l_120, l_144, l_200, l_201, l_240, l_300, l_320, l_400, l_500, l_550, l_560, l_649, l_650, l_1000, l_1400, l_2000, l_4000, l_10000, iN_add, iN_sub, iN_mul, iN_le_t, iN_le_f, iN_lt_t, iN_lt_f, iN_eq_f, inb_iN, ix_iN, isZ_0, isZ_1, ↓reduceIte, eq_self, row8, e1]
  · rcases row_what h.1 hr with ⟨f, f1, f5, w7, w8⟩ | ⟨w7, z, hz, ez, hN⟩
    · have f0 : (iN f = iN 0) = False := iN_eq_f (by omega) (by omega) (by omega)
      refine pOK_found (f := f) ⟨f1, f5⟩ h ?_ ?_
      · unfold f_X7_which
        simp (disch := omega) only [chk_t, beq_self_eq_true, nm_s, bj1_s, bj2_s, bj3_s, mo_1, mo_0, l_0, l_1, l_2, l_3, l_4, l_5, l_6, l_7, l_8, l_9, l_10, l_11, l_12, l_13, l_14, l_15, l_16, l_17, l_18, l_19, l_20, l_21, l_30, l_31, l_32, l_36, l_40, l_41, l_42, l_43, l_44, l_45, l_46, l_47, l_48, l_49, l_50, l_51, l_52, l_57, l_58, l_60, l_64, l_72, l_80, l_92, l_98, l_99, l_100, l_102, l_105, l_111, l_112, l_114, l_115, l_116, l_117, l_120, l_144, l_200, l_201, l_240, l_300, l_320, l_400, l_500, l_550, l_560, l_649, l_650, l_1000, l_1400, l_2000, l_4000, l_10000, iN_add, iN_sub, iN_mul, iN_le_t, iN_le_f, iN_lt_t, iN_lt_f, iN_eq_f, inb_iN, ix_iN, isZ_0, isZ_1, ↓reduceIte, eq_self, c1, kd_b ho, w7, f0, found_ok]
      · unfold f_X8_which
        simp (disch := omega) only [chk_t, beq_self_eq_true, nm_s, bj1_s, bj2_s, bj3_s, mo_1, mo_0, l_0, l_1, l_2, l_3, l_4, l_5, l_6, l_7, l_8, l_9, l_10, l_11, l_12, l_13, l_14, l_15, l_16, l_17, l_18, l_19, l_20, l_21, l_30, l_31, l_32, l_36, l_40, l_41, l_42, l_43, l_44, l_45, l_46, l_47, l_48, l_49, l_50, l_51, l_52, l_57, l_58, l_60, l_64, l_72, l_80, l_92, l_98, l_99, l_100, l_102, l_105, l_111, l_112, l_114, l_115, l_116, l_117, l_120, l_144, l_200, l_201, l_240, l_300, l_320, l_400, l_500, l_550, l_560, l_649, l_650, l_1000, l_1400, l_2000, l_4000, l_10000, iN_add, iN_sub, iN_mul, iN_le_t, iN_le_f, iN_lt_t, iN_lt_f, iN_eq_f, inb_iN, ix_iN, isZ_0, isZ_1, ↓reduceIte, eq_self, row8, e1, w8, le_m3]
    · have hf := uS_r r z G hz
      obtain ⟨C, hC, ccC, c48⟩ := cleast_ok h.1 hr hz ez
      rcases leS_ok hf 16 (by omega) with ⟨g1, g2⟩ | ⟨b, c, g1, g2, g3, g4, g5, g6⟩
      · obtain ⟨H, m1, m2, m3⟩ := hN C (fun q hq => cc_at ccC (by omega))
        have m4 := leastP_ok hf m3
        rw [g1] at hC m4
        refine pOK_none (x := -iN 9) (G1 := C) (H := H) h ?_ ccC ?_ m2
        · have key : f_X7_which_l37_11 (-iN 1) C FU (iN 0) = some (-iN 9, C) := by
            show f_X7_which_l37_11 (-iN 1) C (999 + 1) (iN 0) = some (-iN 9, C)
            unfold f_X7_which_l37_11
            simp (disch := omega) only [chk_t, beq_self_eq_true, nm_s, bj1_s, bj2_s, bj3_s, mo_1, mo_0, l_0, l_1, l_2, l_3, l_4, l_5, l_6, l_7, l_8, l_9, l_10, l_11, l_12, l_13, l_14, l_15, l_16, l_17, l_18, l_19, l_20, l_21, l_30, l_31, l_32, l_36, l_40, l_41, l_42, l_43, l_44, l_45, l_46, l_47, l_48, l_49, l_50, l_51, l_52, l_57, l_58, l_60, l_64, l_72, l_80, l_92, l_98, l_99, l_100, l_102, l_105, l_111, l_112, l_114, l_115, l_116, l_117, l_120, l_144, l_200, l_201, l_240, l_300, l_320, l_400, l_500, l_550, l_560, l_649, l_650, l_1000, l_1400, l_2000, l_4000, l_10000, iN_add, iN_sub, iN_mul, iN_le_t, iN_le_f, iN_lt_t, iN_lt_f, iN_eq_f, inb_iN, ix_iN, isZ_0, isZ_1, ↓reduceIte, eq_self, lt_m1]
          unfold f_X7_which
          simp (disch := omega) only [chk_t, beq_self_eq_true, nm_s, bj1_s, bj2_s, bj3_s, mo_1, mo_0, l_0, l_1, l_2, l_3, l_4, l_5, l_6, l_7, l_8, l_9, l_10, l_11, l_12, l_13, l_14, l_15, l_16, l_17, l_18, l_19, l_20, l_21, l_30, l_31, l_32, l_36, l_40, l_41, l_42, l_43, l_44, l_45, l_46, l_47, l_48, l_49, l_50, l_51, l_52, l_57, l_58, l_60, l_64, l_72, l_80, l_92, l_98, l_99, l_100, l_102, l_105, l_111, l_112, l_114, l_115, l_116, l_117, l_120, l_144, l_200, l_201, l_240, l_300, l_320, l_400, l_500, l_550, l_560, l_649, l_650, l_1000, l_1400, l_2000, l_4000, l_10000, iN_add, iN_sub, iN_mul, iN_le_t, iN_le_f, iN_lt_t, iN_lt_f, iN_eq_f, inb_iN, ix_iN, isZ_0, isZ_1, ↓reduceIte, eq_self, c1, kd_b ho, w7, hC, key]
        · unfold f_X8_which
          simp (disch := omega) only [chk_t, beq_self_eq_true, nm_s, bj1_s, bj2_s, bj3_s, mo_1, mo_0, l_0, l_1, l_2, l_3, l_4, l_5, l_6, l_7, l_8, l_9, l_10, l_11, l_12, l_13, l_14, l_15, l_16, l_17, l_18, l_19, l_20, l_21, l_30, l_31, l_32, l_36, l_40, l_41, l_42, l_43, l_44, l_45, l_46, l_47, l_48, l_49, l_50, l_51, l_52, l_57, l_58, l_60, l_64, l_72, l_80, l_92, l_98, l_99, l_100, l_102, l_105, l_111, l_112, l_114, l_115, l_116, l_117, l_120, l_144, l_200, l_201, l_240, l_300, l_320, l_400, l_500, l_550, l_560, l_649, l_650, l_1000, l_1400, l_2000, l_4000, l_10000, iN_add, iN_sub, iN_mul, iN_le_t, iN_le_f, iN_lt_t, iN_lt_f, iN_eq_f, inb_iN, ix_iN, isZ_0, isZ_1, ↓reduceIte, eq_self, row8, e1, m1, m4]
      · obtain ⟨H, m1, m2, m3⟩ := hN (sI C 0 16 (iN c)) (fun q hq => cc_50 ccC q (by omega))
        have m4 := leastP_ok hf m3
        rw [g4] at hC m4
        have ediv : iN b / iN 4 = iN (b / 4) := iN_div (by omega) (by omega) (by omega)
        have e9 : (iN b = -iN 9) = False := eq_false (ne_m9 (by omega))
        have eb : H.1 144 b = iN c := (m3 b g1).trans g3
        refine pOK_tell (x := iN (10 * (b / 4) + (b - b / 4 * 4))) (y := iN c) (G1 := C) (H := H) h ?_ ccC ?_ m2
        · have key : f_X7_which_l37_11 (iN c) C FU (iN 0) = some (iN (10 * (b / 4) + (b - b / 4 * 4)), sI C 0 16 (iN c)) := by
            refine loop_cl (fun n v (_ : Unit) => f_X7_which_l37_11 (iN c) C n v) (fun _ => ()) 0 b _ ?_ ?_ (by omega) (n := FU) (fu_lt (by omega))
            · intro n j h1 h2
              have ej := c48 j (by omega)
              have nj : (uS r z G j = iN c) = False := eq_false (fun e => by
                have := g6 j c h2 g2 e
                omega)
              show f_X7_which_l37_11 (iN c) C (n + 1) (iN j) = f_X7_which_l37_11 (iN c) C n (iN (j + 1))
              conv => lhs; unfold f_X7_which_l37_11
              simp (disch := omega) only [chk_t, beq_self_eq_true, nm_s, bj1_s, bj2_s, bj3_s, mo_1, mo_0, l_0, l_1, l_2, l_3, l_4, l_5, l_6, l_7, l_8, l_9, l_10, l_11, l_12, l_13, l_14, l_15, l_16, l_17, l_18, l_19, l_20, l_21, l_30, l_31, l_32, l_36, l_40, l_41, l_42, l_43, l_44, l_45, l_46, l_47, l_48, l_49, l_50, l_51, l_52, l_57, l_58, l_60, l_64, l_72, l_80, l_92, l_98, l_99, l_100, l_102, l_105, l_111, l_112, l_114, l_115, l_116, l_117, l_120, l_144, l_200, l_201, l_240, l_300, l_320, l_400, l_500, l_550, l_560, l_649, l_650, l_1000, l_1400, l_2000, l_4000, l_10000, iN_add, iN_sub, iN_mul, iN_le_t, iN_le_f, iN_lt_t, iN_lt_f, iN_eq_f, inb_iN, ix_iN, isZ_0, isZ_1, ↓reduceIte, eq_self, ej, nj]
            · intro n
              have ej := (c48 b g1).trans g3
              show f_X7_which_l37_11 (iN c) C (n + 1) (iN b) = _
              unfold f_X7_which_l37_11 f_X7_told
              simp (disch := omega) only [chk_t, beq_self_eq_true, nm_s, bj1_s, bj2_s, bj3_s, mo_1, mo_0, l_0, l_1, l_2, l_3, l_4, l_5, l_6, l_7, l_8, l_9, l_10, l_11, l_12, l_13, l_14, l_15, l_16, l_17, l_18, l_19, l_20, l_21, l_30, l_31, l_32, l_36, l_40, l_41, l_42, l_43, l_44, l_45, l_46, l_47, l_48, l_49, l_50, l_51, l_52, l_57, l_58, l_60, l_64, l_72, l_80, l_92, l_98, l_99, l_100, l_102, l_105, l_111, l_112, l_114, l_115, l_116, l_117, l_120, l_144, l_200, l_201, l_240, l_300, l_320, l_400, l_500, l_550, l_560, l_649, l_650, l_1000, l_1400, l_2000, l_4000, l_10000, iN_add, iN_sub, iN_mul, iN_le_t, iN_le_f, iN_lt_t, iN_lt_f, iN_eq_f, inb_iN, ix_iN, isZ_0, isZ_1, ↓reduceIte, eq_self, ej, ediv]
          unfold f_X7_which
          simp (disch := omega) only [chk_t, beq_self_eq_true, nm_s, bj1_s, bj2_s, bj3_s, mo_1, mo_0, l_0, l_1, l_2, l_3, l_4, l_5, l_6, l_7, l_8, l_9, l_10, l_11, l_12, l_13, l_14, l_15, l_16, l_17, l_18, l_19, l_20, l_21, l_30, l_31, l_32, l_36, l_40, l_41, l_42, l_43, l_44, l_45, l_46, l_47, l_48, l_49, l_50, l_51, l_52, l_57, l_58, l_60, l_64, l_72, l_80, l_92, l_98, l_99, l_100, l_102, l_105, l_111, l_112, l_114, l_115, l_116, l_117, l_120, l_144, l_200, l_201, l_240, l_300, l_320, l_400, l_500, l_550, l_560, l_649, l_650, l_1000, l_1400, l_2000, l_4000, l_10000, iN_add, iN_sub, iN_mul, iN_le_t, iN_le_f, iN_lt_t, iN_lt_f, iN_eq_f, inb_iN, ix_iN, isZ_0, isZ_1, ↓reduceIte, eq_self, c1, kd_b ho, w7, hC, key]
        · unfold f_X8_which f_X8_tells
          simp (disch := omega) only [chk_t, beq_self_eq_true, nm_s, bj1_s, bj2_s, bj3_s, mo_1, mo_0, l_0, l_1, l_2, l_3, l_4, l_5, l_6, l_7, l_8, l_9, l_10, l_11, l_12, l_13, l_14, l_15, l_16, l_17, l_18, l_19, l_20, l_21, l_30, l_31, l_32, l_36, l_40, l_41, l_42, l_43, l_44, l_45, l_46, l_47, l_48, l_49, l_50, l_51, l_52, l_57, l_58, l_60, l_64, l_72, l_80, l_92, l_98, l_99, l_100, l_102, l_105, l_111, l_112, l_114, l_115, l_116, l_117, l_120, l_144, l_200, l_201, l_240, l_300, l_320, l_400, l_500, l_550, l_560, l_649, l_650, l_1000, l_1400, l_2000, l_4000, l_10000, iN_add, iN_sub, iN_mul, iN_le_t, iN_le_f, iN_lt_t, iN_lt_f, iN_eq_f, inb_iN, ix_iN, isZ_0, isZ_1, ↓reduceIte, eq_self, row8, e1, m1, m4, e9, eb, ediv]

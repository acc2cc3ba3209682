/-! class and reference hold the same: the relation, what leaves it, its guards -/
def szR (b : Nat) (s : Int32) : Prop := s = -iN 1 ∨ ∃ z, z ≤ b ∧ s = iN z
def dp (k : Nat) : Nat := if k = 0 then 5 else 80 + 11 * k
-- rows of numbers that agree below 112
theorem wfD_cg {D D' : Nat → Int32} {n : Nat} (h : wfD D n) (e : ∀ p, p < 112 → D' p = D p) : wfD D' n := by
  obtain ⟨hn, hm, hw, hj⟩ := h
  have h2 := hn.2
  have hnn := okN_n hn
  have en : nD D' = nD D := nD_of (e 0 (by omega))
  refine ⟨okN_keep hn (e 0 (by omega)), by rw [mD_of (e 4 (by omega))]; exact hm, fun i hi => ?_, fun i hi => ?_⟩
  · rw [en] at hi
    rw [e _ (by omega)]
    exact hw i hi
  · rw [en] at hi
    rw [e _ (by omega)]
    exact hj i hi
theorem plD_cg {D D' : Nat → Int32} {mm at_ g : Nat} (h : plD D mm at_ g) (e : ∀ p, p < 112 → D' p = D p) : plD D' mm at_ g := by
  obtain ⟨p1, p2, p3, p4, p5, p6, p7⟩ := h
  refine ⟨by rw [e _ (by omega)]; exact p1, p2, by rw [e _ (by omega)]; exact p3, p4, by rw [e _ (by omega)]; exact p5, fun i hi => stOK_keep (p6 i hi) (by omega) (fun p hp => e p (by omega)), ?_⟩
  rcases p7 with h | ⟨h, a, c, h1, h2, h3, h4⟩
  · exact Or.inl h
  · exact Or.inr ⟨h, a, c, by rw [e _ (by omega)]; exact h1, h2, by rw [e _ (by omega)]; exact h3, h4⟩
theorem gD_cg {D D' : Nat → Int32} {n mm : Nat} (h : gD D n mm) (e : ∀ p, p < 112 → D' p = D p) : gD D' n mm := by
  obtain ⟨h1, a, g, h2⟩ := h
  exact ⟨wfD_cg h1 e, a, g, plD_cg h2 e⟩
theorem upOK_cg {D D' : Nat → Int32} (h : upOK D) (e : ∀ p, p < 112 → D' p = D p) : upOK D' := by
  unfold upOK
  rw [e 45 (by omega), e 46 (by omega), e 44 (by omega)]
  exact h
theorem cD_cg {o : Nat} {D D' : Nat → Int32} {G : G_} (h : cD o D G) (hz : dz D) (e : ∀ p, p < 112 → D' p = D p) : cD o D' G := by
  intro d j hc
  rw [nD_of (e 0 (by omega)), mD_of (e 4 (by omega))] at hc
  rw [e _ (ci_inv hz.1 hz.2 hc).2.2.1]
  exact h d j hc
theorem dz_g {D : Nat → Int32} {n mm : Nat} (h : gD D n mm) : dz D := dz_of h.1.1 h.1.2.1
theorem dp_r {k : Nat} (h : k < 4) : (dp k = 5 ∧ k = 0) ∨ (91 ≤ dp k ∧ dp k + 11 ≤ 124 ∧ dp k = 80 + 11 * k ∧ 1 ≤ k) := by
  unfold dp
  split <;> omega
/-- what the class may change without its being told -/
def cc (G G' : G_) : Prop := (∀ q, q < 17 ∨ 49 < q → G'.1 q = G.1 q) ∧ G'.2 = G.2 ∧ (isZ (G.1 17 7) = true → isZ (G'.1 17 7) = true)
theorem cc_refl {G : G_} : cc G G := ⟨fun _ _ => rfl, rfl, id⟩
theorem cc_tr {G G' G'' : G_} (h : cc G G') (h2 : cc G' G'') : cc G G'' := ⟨fun q hq => (h2.1 q hq).trans (h.1 q hq), h2.2.1.trans h.2.1, fun e => h2.2.2 (h.2.2 e)⟩
theorem cc_fr0 {o : Nat} {G G' : G_} (h : fr0 o G G') (h1 : 18 ≤ o) (h2 : o + 11 ≤ 50) : cc G G' := ⟨fun q hq => h.1 q (by omega), h.2, fun e => by rw [h.1 17 (by omega)]; exact e⟩
theorem cc_fr {o : Nat} {G G' : G_} (h : fr o G G') (h1 : 17 ≤ o) (h2 : o + 11 ≤ 50) : cc G G' := by
  refine ⟨fun q hq => h.1.1 q (by omega), h.1.2, fun e => ?_⟩
  by_cases c : o = 17
  · subst c
    rw [h.2]
    exact e
  · rw [h.1.1 17 (by omega)]
    exact e
theorem cc_sI {G G' : G_} {p j : Nat} {v : Int32} (h : cc G G') (h1 : 18 ≤ p) (h2 : p ≤ 49) : cc G (sI G' p j v) := ⟨fun q hq => by rw [sI_p (by omega)]; exact h.1 q hq, h.2.1, fun e => by rw [sI_p (by omega)]; exact h.2.2 e⟩
def fndC (f : Nat) (G : G_) : G_ := sI (sI G 0 15 (iN f)) 50 f (G.1 50 f + iN 1)
theorem found_ok {f : Nat} {G : G_} (h : f ≤ 5) : f_X7_found (iN f) G = some (-iN 3, fndC f G) := by
  unfold f_X7_found fndC
  simp (disch := omega) only [chk_t, beq_self_eq_true, nm_s, bj1_s, bj2_s, bj3_s, mo_1, mo_0, l_0, l_1, l_2, l_3, l_4, l_5, l_6, l_7, l_8, l_9, l_10, l_11, l_12, l_13, l_14, l_15, l_16, l_17, l_18, l_19, l_20, l_21, l_24, l_30, l_31, l_32, l_36, l_40, l_41, l_42, l_43, l_44, l_45, l_46, l_47, l_48, l_49, l_50, l_51, l_52, l_57, l_58, l_60, l_61, l_64, l_72, l_80, l_92, l_98, l_99, l_100, l_102, l_105, l_111, l_112, l_114, l_115, l_116, l_117, l_120, l_144, l_200, l_201, l_240, l_300, l_320, l_400, l_500, l_512, l_550, l_560, l_649, l_650, l_1000, l_1032, l_1400, l_2000, l_4000, l_10000, l_268435455, iN_add, iN_sub, iN_mul, iN_le_t, iN_le_f, iN_lt_t, iN_lt_f, iN_eq_f, inb_iN, ix_iN, isZ_0, isZ_1, ↓reduceIte, eq_self, sI_p]
theorem fndC_o {f q : Nat} {G : G_} (h : q ≠ 0) (h2 : q ≠ 50) : (fndC f G).1 q = G.1 q := by
  unfold fndC
  rw [sI_p h2, sI_p h]
-- guards
theorem inS_f {a b k : Nat} (h : k < a ∨ b < k) (ha : a < 2147483648) (hb : b < 2147483648) (hk : k < 2147483648) : inS (iN a) (iN b) (iN k) = iN 0 := by
  unfold inS
  by_cases c : k < a
  · rw [if_pos ((iN_lt hk ha).mpr c)]
  · rw [if_neg (fun e => c ((iN_lt hk ha).mp e)), if_pos ((iN_lt hb hk).mpr (by omega))]
theorem inS_t {a b k : Nat} (h : a ≤ k ∧ k ≤ b) (hb : b < 2147483648) : inS (iN a) (iN b) (iN k) = iN 1 := by
  unfold inS
  rw [if_neg (fun e => by have := (iN_lt (by omega) (by omega)).mp e; omega), if_neg (fun e => by have := (iN_lt (by omega) (by omega)).mp e; omega)]
theorem in_N (a b : Nat) (x : Int32) (hb : b < 2147483648 := by decide) (ha : a < 2147483648 := by decide) : inS (iN a) (iN b) x = iN 0 ∨ (inS (iN a) (iN b) x = iN 1 ∧ ∃ k, x = iN k ∧ a ≤ k ∧ k ≤ b) := by
  by_cases h0 : 0 ≤ x.toInt
  · have e := iN_ex h0
    have hx := t_rng x
    have hi := ix_t h0
    by_cases c : a ≤ ix x ∧ ix x ≤ b
    · right
      refine ⟨?_, ix x, e, c.1, c.2⟩
      rw [e, inS_t c hb]
    · left
      rw [e]
      exact inS_f (by omega) ha hb (by omega)
  · left
    unfold inS
    rw [if_pos (t_lt.mpr (by rw [li ha]; omega))]
theorem row_cases (x : Int32) (G : G_) : (inS (iN 0) (iN 5) x = iN 0 ∧ f_X7_rowAt x G = some none) ∨ ∃ k, k < 6 ∧ x = iN k ∧ inS (iN 0) (iN 5) x = iN 1 ∧ f_X7_rowAt x G = some (some (51 + 2 * k)) ∧ kd (51 + 2 * k) = 4 := by
  rcases in_N 0 5 x with h | ⟨h, k, rfl, h1, h2⟩
  · left
    refine ⟨h, ?_⟩
    unfold inS at h
    unfold f_X7_rowAt
    by_cases c : x < iN 0
    · simp (disch := omega) only [chk_t, beq_self_eq_true, nm_s, bj1_s, bj2_s, bj3_s, mo_1, mo_0, l_0, l_1, l_2, l_3, l_4, l_5, l_6, l_7, l_8, l_9, l_10, l_11, l_12, l_13, l_14, l_15, l_16, l_17, l_18, l_19, l_20, l_21, l_24, l_30, l_31, l_32, l_36, l_40, l_41, l_42, l_43, l_44, l_45, l_46, l_47, l_48, l_49, l_50, l_51, l_52, l_57, l_58, l_60, l_61, l_64, l_72, l_80, l_92, l_98, l_99, l_100, l_102, l_105, l_111, l_112, l_114, l_115, l_116, l_117, l_120, l_144, l_200, l_201, l_240, l_300, l_320, l_400, l_500, l_512, l_550, l_560, l_649, l_650, l_1000, l_1032, l_1400, l_2000, l_4000, l_10000, l_268435455, iN_add, iN_sub, iN_mul, iN_le_t, iN_le_f, iN_lt_t, iN_lt_f, iN_eq_f, inb_iN, ix_iN, isZ_0, isZ_1, ↓reduceIte, eq_self, c]
    · rw [if_neg c] at h
      by_cases c2 : iN 5 < x
      · have : (iN 6 ≤ x) = True := eq_true (t_le.mpr (by have := t_lt.mp c2; rw [li (by omega)] at this ⊢; omega))
        simp (disch := omega) only [chk_t, beq_self_eq_true, nm_s, bj1_s, bj2_s, bj3_s, mo_1, mo_0, l_0, l_1, l_2, l_3, l_4, l_5, l_6, l_7, l_8, l_9, l_10, l_11, l_12, l_13, l_14, l_15, l_16, l_17, l_18, l_19, l_20, l_21, l_24, l_30, l_31, l_32, l_36, l_40, l_41, l_42, l_43, l_44, l_45, l_46, l_47, l_48, l_49, l_50, l_51, l_52, l_57, l_58, l_60, l_61, l_64, l_72, l_80, l_92, l_98, l_99, l_100, l_102, l_105, l_111, l_112, l_114, l_115, l_116, l_117, l_120, l_144, l_200, l_201, l_240, l_300, l_320, l_400, l_500, l_512, l_550, l_560, l_649, l_650, l_1000, l_1032, l_1400, l_2000, l_4000, l_10000, l_268435455, iN_add, iN_sub, iN_mul, iN_le_t, iN_le_f, iN_lt_t, iN_lt_f, iN_eq_f, inb_iN, ix_iN, isZ_0, isZ_1, ↓reduceIte, eq_self, c, this]
      · rw [if_neg c2] at h
        exact absurd h (by decide)
  · right
    refine ⟨k, by omega, rfl, h, ?_, ?_⟩
    · have hk : k = 0 ∨ k = 1 ∨ k = 2 ∨ k = 3 ∨ k = 4 ∨ k = 5 := by omega
      rcases hk with rfl | rfl | rfl | rfl | rfl | rfl <;> rfl
    · have hk : k = 0 ∨ k = 1 ∨ k = 2 ∨ k = 3 ∨ k = 4 ∨ k = 5 := by omega
      rcases hk with rfl | rfl | rfl | rfl | rfl | rfl <;> rfl
theorem at_none {x : Int32} {b : Nat} (hb : b < 1000) (h : inS (iN 0) (iN b) x = iN 0) : (x < iN 0) = True ∨ ((x < iN 0) = False ∧ (iN (b + 1) ≤ x) = True) := by
  unfold inS at h
  by_cases c : x < iN 0
  · exact Or.inl (eq_true c)
  · rw [if_neg c] at h
    by_cases c2 : iN b < x
    · exact Or.inr ⟨eq_false c, eq_true (t_le.mpr (by have := t_lt.mp c2; rw [li (by omega)] at this ⊢; omega))⟩
    · rw [if_neg c2] at h
      exact absurd h (by decide)
theorem text_cases (x : Int32) (G : G_) : (inS (iN 0) (iN 3) x = iN 0 ∧ f_X7_textAt x G = some none) ∨ ∃ k, k < 4 ∧ x = iN k ∧ inS (iN 0) (iN 3) x = iN 1 ∧ f_X7_textAt x G = some (some (63 + 2 * k)) ∧ kd (63 + 2 * k) = 6 := by
  rcases in_N 0 3 x with h | ⟨h, k, rfl, h1, h2⟩
  · left
    refine ⟨h, ?_⟩
    unfold f_X7_textAt
    rcases at_none (b := 3) (by omega) h with c | ⟨c, c2⟩
    · simp (disch := omega) only [chk_t, beq_self_eq_true, nm_s, bj1_s, bj2_s, bj3_s, mo_1, mo_0, l_0, l_1, l_2, l_3, l_4, l_5, l_6, l_7, l_8, l_9, l_10, l_11, l_12, l_13, l_14, l_15, l_16, l_17, l_18, l_19, l_20, l_21, l_24, l_30, l_31, l_32, l_36, l_40, l_41, l_42, l_43, l_44, l_45, l_46, l_47, l_48, l_49, l_50, l_51, l_52, l_57, l_58, l_60, l_61, l_64, l_72, l_80, l_92, l_98, l_99, l_100, l_102, l_105, l_111, l_112, l_114, l_115, l_116, l_117, l_120, l_144, l_200, l_201, l_240, l_300, l_320, l_400, l_500, l_512, l_550, l_560, l_649, l_650, l_1000, l_1032, l_1400, l_2000, l_4000, l_10000, l_268435455, iN_add, iN_sub, iN_mul, iN_le_t, iN_le_f, iN_lt_t, iN_lt_f, iN_eq_f, inb_iN, ix_iN, isZ_0, isZ_1, ↓reduceIte, eq_self, c]
    · simp (disch := omega) only [chk_t, beq_self_eq_true, nm_s, bj1_s, bj2_s, bj3_s, mo_1, mo_0, l_0, l_1, l_2, l_3, l_4, l_5, l_6, l_7, l_8, l_9, l_10, l_11, l_12, l_13, l_14, l_15, l_16, l_17, l_18, l_19, l_20, l_21, l_24, l_30, l_31, l_32, l_36, l_40, l_41, l_42, l_43, l_44, l_45, l_46, l_47, l_48, l_49, l_50, l_51, l_52, l_57, l_58, l_60, l_61, l_64, l_72, l_80, l_92, l_98, l_99, l_100, l_102, l_105, l_111, l_112, l_114, l_115, l_116, l_117, l_120, l_144, l_200, l_201, l_240, l_300, l_320, l_400, l_500, l_512, l_550, l_560, l_649, l_650, l_1000, l_1032, l_1400, l_2000, l_4000, l_10000, l_268435455, iN_add, iN_sub, iN_mul, iN_le_t, iN_le_f, iN_lt_t, iN_lt_f, iN_eq_f, inb_iN, ix_iN, isZ_0, isZ_1, ↓reduceIte, eq_self, c, c2]
  · right
    have hk : k = 0 ∨ k = 1 ∨ k = 2 ∨ k = 3 := by omega
    refine ⟨k, by omega, rfl, h, ?_, ?_⟩ <;> (rcases hk with rfl | rfl | rfl | rfl <;> rfl)
theorem slab_cases (x : Int32) (G : G_) : (inS (iN 0) (iN 3) x = iN 0 ∧ f_X7_slabAt x G = some none) ∨ ∃ k, k < 4 ∧ x = iN k ∧ inS (iN 0) (iN 3) x = iN 1 ∧ f_X7_slabAt x G = some (some (71 + k)) ∧ kd (71 + k) = 5 := by
  rcases in_N 0 3 x with h | ⟨h, k, rfl, h1, h2⟩
  · left
    refine ⟨h, ?_⟩
    unfold f_X7_slabAt
    rcases at_none (b := 3) (by omega) h with c | ⟨c, c2⟩
    · simp (disch := omega) only [chk_t, beq_self_eq_true, nm_s, bj1_s, bj2_s, bj3_s, mo_1, mo_0, l_0, l_1, l_2, l_3, l_4, l_5, l_6, l_7, l_8, l_9, l_10, l_11, l_12, l_13, l_14, l_15, l_16, l_17, l_18, l_19, l_20, l_21, l_24, l_30, l_31, l_32, l_36, l_40, l_41, l_42, l_43, l_44, l_45, l_46, l_47, l_48, l_49, l_50, l_51, l_52, l_57, l_58, l_60, l_61, l_64, l_72, l_80, l_92, l_98, l_99, l_100, l_102, l_105, l_111, l_112, l_114, l_115, l_116, l_117, l_120, l_144, l_200, l_201, l_240, l_300, l_320, l_400, l_500, l_512, l_550, l_560, l_649, l_650, l_1000, l_1032, l_1400, l_2000, l_4000, l_10000, l_268435455, iN_add, iN_sub, iN_mul, iN_le_t, iN_le_f, iN_lt_t, iN_lt_f, iN_eq_f, inb_iN, ix_iN, isZ_0, isZ_1, ↓reduceIte, eq_self, c]
    · simp (disch := omega) only [chk_t, beq_self_eq_true, nm_s, bj1_s, bj2_s, bj3_s, mo_1, mo_0, l_0, l_1, l_2, l_3, l_4, l_5, l_6, l_7, l_8, l_9, l_10, l_11, l_12, l_13, l_14, l_15, l_16, l_17, l_18, l_19, l_20, l_21, l_24, l_30, l_31, l_32, l_36, l_40, l_41, l_42, l_43, l_44, l_45, l_46, l_47, l_48, l_49, l_50, l_51, l_52, l_57, l_58, l_60, l_61, l_64, l_72, l_80, l_92, l_98, l_99, l_100, l_102, l_105, l_111, l_112, l_114, l_115, l_116, l_117, l_120, l_144, l_200, l_201, l_240, l_300, l_320, l_400, l_500, l_512, l_550, l_560, l_649, l_650, l_1000, l_1032, l_1400, l_2000, l_4000, l_10000, l_268435455, iN_add, iN_sub, iN_mul, iN_le_t, iN_le_f, iN_lt_t, iN_lt_f, iN_eq_f, inb_iN, ix_iN, isZ_0, isZ_1, ↓reduceIte, eq_self, c, c2]
  · right
    have hk : k = 0 ∨ k = 1 ∨ k = 2 ∨ k = 3 := by omega
    refine ⟨k, by omega, rfl, h, ?_, ?_⟩ <;> (rcases hk with rfl | rfl | rfl | rfl <;> rfl)
theorem plan_cases (x : Int32) (G : G_) : (inS (iN 0) (iN 3) x = iN 0 ∧ f_X7_planAt x G = some none) ∨ ∃ k, k < 4 ∧ x = iN k ∧ inS (iN 0) (iN 3) x = iN 1 ∧ f_X7_planAt x G = some (some (75 + 4 * k)) ∧ kd (75 + 4 * k) = 2 := by
  rcases in_N 0 3 x with h | ⟨h, k, rfl, h1, h2⟩
  · left
    refine ⟨h, ?_⟩
    unfold f_X7_planAt
    rcases at_none (b := 3) (by omega) h with c | ⟨c, c2⟩
    · simp (disch := omega) only [chk_t, beq_self_eq_true, nm_s, bj1_s, bj2_s, bj3_s, mo_1, mo_0, l_0, l_1, l_2, l_3, l_4, l_5, l_6, l_7, l_8, l_9, l_10, l_11, l_12, l_13, l_14, l_15, l_16, l_17, l_18, l_19, l_20, l_21, l_24, l_30, l_31, l_32, l_36, l_40, l_41, l_42, l_43, l_44, l_45, l_46, l_47, l_48, l_49, l_50, l_51, l_52, l_57, l_58, l_60, l_61, l_64, l_72, l_80, l_92, l_98, l_99, l_100, l_102, l_105, l_111, l_112, l_114, l_115, l_116, l_117, l_120, l_144, l_200, l_201, l_240, l_300, l_320, l_400, l_500, l_512, l_550, l_560, l_649, l_650, l_1000, l_1032, l_1400, l_2000, l_4000, l_10000, l_268435455, iN_add, iN_sub, iN_mul, iN_le_t, iN_le_f, iN_lt_t, iN_lt_f, iN_eq_f, inb_iN, ix_iN, isZ_0, isZ_1, ↓reduceIte, eq_self, c]
    · simp (disch := omega) only [chk_t, beq_self_eq_true, nm_s, bj1_s, bj2_s, bj3_s, mo_1, mo_0, l_0, l_1, l_2, l_3, l_4, l_5, l_6, l_7, l_8, l_9, l_10, l_11, l_12, l_13, l_14, l_15, l_16, l_17, l_18, l_19, l_20, l_21, l_24, l_30, l_31, l_32, l_36, l_40, l_41, l_42, l_43, l_44, l_45, l_46, l_47, l_48, l_49, l_50, l_51, l_52, l_57, l_58, l_60, l_61, l_64, l_72, l_80, l_92, l_98, l_99, l_100, l_102, l_105, l_111, l_112, l_114, l_115, l_116, l_117, l_120, l_144, l_200, l_201, l_240, l_300, l_320, l_400, l_500, l_512, l_550, l_560, l_649, l_650, l_1000, l_1032, l_1400, l_2000, l_4000, l_10000, l_268435455, iN_add, iN_sub, iN_mul, iN_le_t, iN_le_f, iN_lt_t, iN_lt_f, iN_eq_f, inb_iN, ix_iN, isZ_0, isZ_1, ↓reduceIte, eq_self, c, c2]
  · right
    have hk : k = 0 ∨ k = 1 ∨ k = 2 ∨ k = 3 := by omega
    refine ⟨k, by omega, rfl, h, ?_, ?_⟩ <;> (rcases hk with rfl | rfl | rfl | rfl <;> rfl)
theorem isZ_in {a b x : Int32} : isZ (inS a b x) = true := by
  rcases inS_01 a b x with h | h <;> rw [h] <;> rfl
/-! the calls of rows and texts but copy -/
theorem lt_m1 : (-iN 1 < iN 0) = True := eq_true (by decide)
theorem le_m1 : (iN 0 ≤ -iN 1) = False := eq_false (by decide)
theorem rthere_t {o z : Nat} {G : G_} (ho : kd o = 4) (hz : G.1 o 1 = iN z) (h40 : z ≤ 40) : f_X4_there o G = some (iN 1) := by
  unfold f_X4_there
  simp (disch := omega) only [chk_t, beq_self_eq_true, nm_s, bj1_s, bj2_s, bj3_s, mo_1, mo_0, l_0, l_1, l_2, l_3, l_4, l_5, l_6, l_7, l_8, l_9, l_10, l_11, l_12, l_13, l_14, l_15, l_16, l_17, l_18, l_19, l_20, l_21, l_24, l_30, l_31, l_32, l_36, l_40, l_41, l_42, l_43, l_44, l_45, l_46, l_47, l_48, l_49, l_50, l_51, l_52, l_57, l_58, l_60, l_61, l_64, l_72, l_80, l_92, l_98, l_99, l_100, l_102, l_105, l_111, l_112, l_114, l_115, l_116, l_117, l_120, l_144, l_200, l_201, l_240, l_300, l_320, l_400, l_500, l_512, l_550, l_560, l_649, l_650, l_1000, l_1032, l_1400, l_2000, l_4000, l_10000, l_268435455, iN_add, iN_sub, iN_mul, iN_le_t, iN_le_f, iN_lt_t, iN_lt_f, iN_eq_f, inb_iN, ix_iN, isZ_0, isZ_1, ↓reduceIte, eq_self, kd_b ho, hz]
theorem rthere_f {o : Nat} {G : G_} (ho : kd o = 4) (hz : G.1 o 1 = -iN 1) : f_X4_there o G = some (iN 0) := by
  unfold f_X4_there
  simp (disch := omega) only [chk_t, beq_self_eq_true, nm_s, bj1_s, bj2_s, bj3_s, mo_1, mo_0, l_0, l_1, l_2, l_3, l_4, l_5, l_6, l_7, l_8, l_9, l_10, l_11, l_12, l_13, l_14, l_15, l_16, l_17, l_18, l_19, l_20, l_21, l_24, l_30, l_31, l_32, l_36, l_40, l_41, l_42, l_43, l_44, l_45, l_46, l_47, l_48, l_49, l_50, l_51, l_52, l_57, l_58, l_60, l_61, l_64, l_72, l_80, l_92, l_98, l_99, l_100, l_102, l_105, l_111, l_112, l_114, l_115, l_116, l_117, l_120, l_144, l_200, l_201, l_240, l_300, l_320, l_400, l_500, l_512, l_550, l_560, l_649, l_650, l_1000, l_1032, l_1400, l_2000, l_4000, l_10000, l_268435455, iN_add, iN_sub, iN_mul, iN_le_t, iN_le_f, iN_lt_t, iN_lt_f, iN_eq_f, inb_iN, ix_iN, isZ_0, isZ_1, ↓reduceIte, eq_self, kd_b ho, hz, lt_m1]
theorem tthere_t {o z : Nat} {G : G_} (ho : kd o = 6) (hz : G.1 o 1 = iN z) (h80 : z ≤ 80) : f_X6_there o G = some (iN 1) := by
  unfold f_X6_there
  simp (disch := omega) only [chk_t, beq_self_eq_true, nm_s, bj1_s, bj2_s, bj3_s, mo_1, mo_0, l_0, l_1, l_2, l_3, l_4, l_5, l_6, l_7, l_8, l_9, l_10, l_11, l_12, l_13, l_14, l_15, l_16, l_17, l_18, l_19, l_20, l_21, l_24, l_30, l_31, l_32, l_36, l_40, l_41, l_42, l_43, l_44, l_45, l_46, l_47, l_48, l_49, l_50, l_51, l_52, l_57, l_58, l_60, l_61, l_64, l_72, l_80, l_92, l_98, l_99, l_100, l_102, l_105, l_111, l_112, l_114, l_115, l_116, l_117, l_120, l_144, l_200, l_201, l_240, l_300, l_320, l_400, l_500, l_512, l_550, l_560, l_649, l_650, l_1000, l_1032, l_1400, l_2000, l_4000, l_10000, l_268435455, iN_add, iN_sub, iN_mul, iN_le_t, iN_le_f, iN_lt_t, iN_lt_f, iN_eq_f, inb_iN, ix_iN, isZ_0, isZ_1, ↓reduceIte, eq_self, kd_b ho, hz]
theorem tthere_f {o : Nat} {G : G_} (ho : kd o = 6) (hz : G.1 o 1 = -iN 1) : f_X6_there o G = some (iN 0) := by
  unfold f_X6_there
  simp (disch := omega) only [chk_t, beq_self_eq_true, nm_s, bj1_s, bj2_s, bj3_s, mo_1, mo_0, l_0, l_1, l_2, l_3, l_4, l_5, l_6, l_7, l_8, l_9, l_10, l_11, l_12, l_13, l_14, l_15, l_16, l_17, l_18, l_19, l_20, l_21, l_24, l_30, l_31, l_32, l_36, l_40, l_41, l_42, l_43, l_44, l_45, l_46, l_47, l_48, l_49, l_50, l_51, l_52, l_57, l_58, l_60, l_61, l_64, l_72, l_80, l_92, l_98, l_99, l_100, l_102, l_105, l_111, l_112, l_114, l_115, l_116, l_117, l_120, l_144, l_200, l_201, l_240, l_300, l_320, l_400, l_500, l_512, l_550, l_560, l_649, l_650, l_1000, l_1032, l_1400, l_2000, l_4000, l_10000, l_268435455, iN_add, iN_sub, iN_mul, iN_le_t, iN_le_f, iN_lt_t, iN_lt_f, iN_eq_f, inb_iN, ix_iN, isZ_0, isZ_1, ↓reduceIte, eq_self, kd_b ho, hz, lt_m1]
/-- a place within, or not -/
theorem ix_cases (z : Nat) (i : Int32) (hz : z ≤ 1000) : (((i < iN 0) = True ∨ ((i < iN 0) = False ∧ (iN z ≤ i) = True)) ∧ inS (iN 0) (iN z - iN 1) i = iN 0) ∨ ∃ k, k < z ∧ i = iN k ∧ inS (iN 0) (iN z - iN 1) (iN k) = iN 1 := by
  have e1 : (iN z - iN 1).toInt = z - 1 := by
    rw [t_sub (by rw [li (by omega), li (by omega)]; omega) (by rw [li (by omega), li (by omega)]; omega), li (by omega), li (by omega)]
    rfl
  have hr := t_rng i
  by_cases c : i < iN 0
  · exact Or.inl ⟨Or.inl (eq_true c), by unfold inS; rw [if_pos c]⟩
  · have c0 : 0 ≤ i.toInt := by
      have : ¬ i.toInt < 0 := fun e => c (t_lt.mpr (by rw [li (by omega)]; omega))
      omega
    by_cases c2 : iN z ≤ i
    · refine Or.inl ⟨Or.inr ⟨eq_false c, eq_true c2⟩, ?_⟩
      unfold inS
      rw [if_neg c, if_pos (t_lt.mpr (by have := t_le.mp c2; rw [li (by omega)] at this; rw [e1]; omega))]
    · right
      have c3 : i.toInt < z := by
        have : ¬ (z : Int) ≤ i.toInt := fun e => c2 (t_le.mpr (by rw [li (by omega)]; omega))
        omega
      have hi := ix_t c0
      refine ⟨ix i, by omega, iN_ex c0, ?_⟩
      rw [← iN_ex c0]
      unfold inS
      rw [if_neg c, if_neg (fun e => by have := t_lt.mp e; rw [e1] at this; omega)]
theorem rhas_cases {o z : Nat} {G : G_} (ho : kd o = 4) (hz : G.1 o 1 = iN z) (h40 : z ≤ 40) (i : Int32) : (f_X4_has o i G = some (iN 0) ∧ inS (iN 0) (iN z - iN 1) i = iN 0) ∨ ∃ k, k < z ∧ i = iN k ∧ f_X4_has o (iN k) G = some (iN 1) ∧ inS (iN 0) (iN z - iN 1) (iN k) = iN 1 := by
  rcases ix_cases z i (by omega) with ⟨h1 | ⟨h1, h2⟩, h3⟩ | ⟨k, hk, rfl, h3⟩
  · left
    refine ⟨?_, h3⟩
    unfold f_X4_has
    simp (disch := omega) only [chk_t, beq_self_eq_true, nm_s, bj1_s, bj2_s, bj3_s, mo_1, mo_0, l_0, l_1, l_2, l_3, l_4, l_5, l_6, l_7, l_8, l_9, l_10, l_11, l_12, l_13, l_14, l_15, l_16, l_17, l_18, l_19, l_20, l_21, l_24, l_30, l_31, l_32, l_36, l_40, l_41, l_42, l_43, l_44, l_45, l_46, l_47, l_48, l_49, l_50, l_51, l_52, l_57, l_58, l_60, l_61, l_64, l_72, l_80, l_92, l_98, l_99, l_100, l_102, l_105, l_111, l_112, l_114, l_115, l_116, l_117, l_120, l_144, l_200, l_201, l_240, l_300, l_320, l_400, l_500, l_512, l_550, l_560, l_649, l_650, l_1000, l_1032, l_1400, l_2000, l_4000, l_10000, l_268435455, iN_add, iN_sub, iN_mul, iN_le_t, iN_le_f, iN_lt_t, iN_lt_f, iN_eq_f, inb_iN, ix_iN, isZ_0, isZ_1, ↓reduceIte, eq_self, kd_b ho, h1]
  · left
    refine ⟨?_, h3⟩
    unfold f_X4_has
    simp (disch := omega) only [chk_t, beq_self_eq_true, nm_s, bj1_s, bj2_s, bj3_s, mo_1, mo_0, l_0, l_1, l_2, l_3, l_4, l_5, l_6, l_7, l_8, l_9, l_10, l_11, l_12, l_13, l_14, l_15, l_16, l_17, l_18, l_19, l_20, l_21, l_24, l_30, l_31, l_32, l_36, l_40, l_41, l_42, l_43, l_44, l_45, l_46, l_47, l_48, l_49, l_50, l_51, l_52, l_57, l_58, l_60, l_61, l_64, l_72, l_80, l_92, l_98, l_99, l_100, l_102, l_105, l_111, l_112, l_114, l_115, l_116, l_117, l_120, l_144, l_200, l_201, l_240, l_300, l_320, l_400, l_500, l_512, l_550, l_560, l_649, l_650, l_1000, l_1032, l_1400, l_2000, l_4000, l_10000, l_268435455, iN_add, iN_sub, iN_mul, iN_le_t, iN_le_f, iN_lt_t, iN_lt_f, iN_eq_f, inb_iN, ix_iN, isZ_0, isZ_1, ↓reduceIte, eq_self, kd_b ho, hz, h1, h2]
  · right
    refine ⟨k, hk, rfl, ?_, h3⟩
    unfold f_X4_has
    simp (disch := omega) only [chk_t, beq_self_eq_true, nm_s, bj1_s, bj2_s, bj3_s, mo_1, mo_0, l_0, l_1, l_2, l_3, l_4, l_5, l_6, l_7, l_8, l_9, l_10, l_11, l_12, l_13, l_14, l_15, l_16, l_17, l_18, l_19, l_20, l_21, l_24, l_30, l_31, l_32, l_36, l_40, l_41, l_42, l_43, l_44, l_45, l_46, l_47, l_48, l_49, l_50, l_51, l_52, l_57, l_58, l_60, l_61, l_64, l_72, l_80, l_92, l_98, l_99, l_100, l_102, l_105, l_111, l_112, l_114, l_115, l_116, l_117, l_120, l_144, l_200, l_201, l_240, l_300, l_320, l_400, l_500, l_512, l_550, l_560, l_649, l_650, l_1000, l_1032, l_1400, l_2000, l_4000, l_10000, l_268435455, iN_add, iN_sub, iN_mul, iN_le_t, iN_le_f, iN_lt_t, iN_lt_f, iN_eq_f, inb_iN, ix_iN, isZ_0, isZ_1, ↓reduceIte, eq_self, kd_b ho, hz]
theorem thas_cases {o z : Nat} {G : G_} (ho : kd o = 6) (hz : G.1 o 1 = iN z) (h40 : z ≤ 80) (i : Int32) : (f_X6_has o i G = some (iN 0) ∧ inS (iN 0) (iN z - iN 1) i = iN 0) ∨ ∃ k, k < z ∧ i = iN k ∧ f_X6_has o (iN k) G = some (iN 1) ∧ inS (iN 0) (iN z - iN 1) (iN k) = iN 1 := by
  rcases ix_cases z i (by omega) with ⟨h1 | ⟨h1, h2⟩, h3⟩ | ⟨k, hk, rfl, h3⟩
  · left
    refine ⟨?_, h3⟩
    unfold f_X6_has
    simp (disch := omega) only [chk_t, beq_self_eq_true, nm_s, bj1_s, bj2_s, bj3_s, mo_1, mo_0, l_0, l_1, l_2, l_3, l_4, l_5, l_6, l_7, l_8, l_9, l_10, l_11, l_12, l_13, l_14, l_15, l_16, l_17, l_18, l_19, l_20, l_21, l_24, l_30, l_31, l_32, l_36, l_40, l_41, l_42, l_43, l_44, l_45, l_46, l_47, l_48, l_49, l_50, l_51, l_52, l_57, l_58, l_60, l_61, l_64, l_72, l_80, l_92, l_98, l_99, l_100, l_102, l_105, l_111, l_112, l_114, l_115, l_116, l_117, l_120, l_144, l_200, l_201, l_240, l_300, l_320, l_400, l_500, l_512, l_550, l_560, l_649, l_650, l_1000, l_1032, l_1400, l_2000, l_4000, l_10000, l_268435455, iN_add, iN_sub, iN_mul, iN_le_t, iN_le_f, iN_lt_t, iN_lt_f, iN_eq_f, inb_iN, ix_iN, isZ_0, isZ_1, ↓reduceIte, eq_self, kd_b ho, h1]
  · left
    refine ⟨?_, h3⟩
    unfold f_X6_has
    simp (disch := omega) only [chk_t, beq_self_eq_true, nm_s, bj1_s, bj2_s, bj3_s, mo_1, mo_0, l_0, l_1, l_2, l_3, l_4, l_5, l_6, l_7, l_8, l_9, l_10, l_11, l_12, l_13, l_14, l_15, l_16, l_17, l_18, l_19, l_20, l_21, l_24, l_30, l_31, l_32, l_36, l_40, l_41, l_42, l_43, l_44, l_45, l_46, l_47, l_48, l_49, l_50, l_51, l_52, l_57, l_58, l_60, l_61, l_64, l_72, l_80, l_92, l_98, l_99, l_100, l_102, l_105, l_111, l_112, l_114, l_115, l_116, l_117, l_120, l_144, l_200, l_201, l_240, l_300, l_320, l_400, l_500, l_512, l_550, l_560, l_649, l_650, l_1000, l_1032, l_1400, l_2000, l_4000, l_10000, l_268435455, iN_add, iN_sub, iN_mul, iN_le_t, iN_le_f, iN_lt_t, iN_lt_f, iN_eq_f, inb_iN, ix_iN, isZ_0, isZ_1, ↓reduceIte, eq_self, kd_b ho, hz, h1, h2]
  · right
    refine ⟨k, hk, rfl, ?_, h3⟩
    unfold f_X6_has
    simp (disch := omega) only [chk_t, beq_self_eq_true, nm_s, bj1_s, bj2_s, bj3_s, mo_1, mo_0, l_0, l_1, l_2, l_3, l_4, l_5, l_6, l_7, l_8, l_9, l_10, l_11, l_12, l_13, l_14, l_15, l_16, l_17, l_18, l_19, l_20, l_21, l_24, l_30, l_31, l_32, l_36, l_40, l_41, l_42, l_43, l_44, l_45, l_46, l_47, l_48, l_49, l_50, l_51, l_52, l_57, l_58, l_60, l_61, l_64, l_72, l_80, l_92, l_98, l_99, l_100, l_102, l_105, l_111, l_112, l_114, l_115, l_116, l_117, l_120, l_144, l_200, l_201, l_240, l_300, l_320, l_400, l_500, l_512, l_550, l_560, l_649, l_650, l_1000, l_1032, l_1400, l_2000, l_4000, l_10000, l_268435455, iN_add, iN_sub, iN_mul, iN_le_t, iN_le_f, iN_lt_t, iN_lt_f, iN_eq_f, inb_iN, ix_iN, isZ_0, isZ_1, ↓reduceIte, eq_self, kd_b ho, hz]
theorem clamp0 {z b : Nat} (h : z ≤ b) (hb : b ≤ 1000) : mx (iN 0) (mn (iN z) (iN b)) = iN z := by
  rw [t_eq, mx_t, mn_t, li (by omega), li (by omega), li (by omega)]
  split <;> (split <;> omega)
theorem rbegin_ok {o z : Nat} {G : G_} (ho : kd o = 4) (h40 : z ≤ 40) : ∃ G', f_X4_begin o (iN z) G = some G' ∧ G'.1 o 1 = iN z ∧ (∀ i, i < 40 → G'.1 (o + 1) i = iN 0) ∧ (∀ q, q ≠ o → q ≠ o + 1 → G'.1 q = G.1 q) ∧ G'.2 = G.2 := by
  have hL : ∃ A, f_X4_begin_l19_4 o FU (iN 0) (sI G o 1 (iN z)) = some A ∧ A.1 o 1 = iN z ∧ (∀ i, i < 40 → A.1 (o + 1) i = iN 0) ∧ (∀ q, q ≠ o → q ≠ o + 1 → A.1 q = G.1 q) ∧ A.2 = G.2 := by
    refine loop_h (fun n v s => f_X4_begin_l19_4 o n v s) (fun j A => A.1 o 1 = iN z ∧ (∀ i, i < j → A.1 (o + 1) i = iN 0) ∧ (∀ q, q ≠ o → q ≠ o + 1 → A.1 q = G.1 q) ∧ A.2 = G.2) _ 0 40 ?_ ?_ (by omega) (n := FU) (fu_lt (by omega)) ⟨sI_eq, fun i h => by omega, fun q h1 h2 => by rw [sI_p h1], rfl⟩
    · intro f j A h3 h4 ⟨i0, i1, i2, i3⟩
      refine ⟨sI A (o + 1) j (iN 0), ⟨by rw [sI_p (by omega)]; exact i0, fun i h5 => ?_, fun q h1 h2 => by rw [sI_p h2]; exact i2 q h1 h2, i3⟩, ?_⟩
      · by_cases c : i = j
        · subst c; exact sI_eq
        · rw [sI_j c]; exact i1 i (by omega)
      · show f_X4_begin_l19_4 o (f + 1) (iN j) A = _
        conv => lhs; unfold f_X4_begin_l19_4
        simp (disch := omega) only [chk_t, beq_self_eq_true, nm_s, bj1_s, bj2_s, bj3_s, mo_1, mo_0, l_0, l_1, l_2, l_3, l_4, l_5, l_6, l_7, l_8, l_9, l_10, l_11, l_12, l_13, l_14, l_15, l_16, l_17, l_18, l_19, l_20, l_21, l_24, l_30, l_31, l_32, l_36, l_40, l_41, l_42, l_43, l_44, l_45, l_46, l_47, l_48, l_49, l_50, l_51, l_52, l_57, l_58, l_60, l_61, l_64, l_72, l_80, l_92, l_98, l_99, l_100, l_102, l_105, l_111, l_112, l_114, l_115, l_116, l_117, l_120, l_144, l_200, l_201, l_240, l_300, l_320, l_400, l_500, l_512, l_550, l_560, l_649, l_650, l_1000, l_1032, l_1400, l_2000, l_4000, l_10000, l_268435455, iN_add, iN_sub, iN_mul, iN_le_t, iN_le_f, iN_lt_t, iN_lt_f, iN_eq_f, inb_iN, ix_iN, isZ_0, isZ_1, ↓reduceIte, eq_self]
    · intro f A hI
      refine ⟨A, ?_, hI⟩
      show f_X4_begin_l19_4 o (f + 1) (iN 40) A = _
      unfold f_X4_begin_l19_4
      simp (disch := omega) only [chk_t, beq_self_eq_true, nm_s, bj1_s, bj2_s, bj3_s, mo_1, mo_0, l_0, l_1, l_2, l_3, l_4, l_5, l_6, l_7, l_8, l_9, l_10, l_11, l_12, l_13, l_14, l_15, l_16, l_17, l_18, l_19, l_20, l_21, l_24, l_30, l_31, l_32, l_36, l_40, l_41, l_42, l_43, l_44, l_45, l_46, l_47, l_48, l_49, l_50, l_51, l_52, l_57, l_58, l_60, l_61, l_64, l_72, l_80, l_92, l_98, l_99, l_100, l_102, l_105, l_111, l_112, l_114, l_115, l_116, l_117, l_120, l_144, l_200, l_201, l_240, l_300, l_320, l_400, l_500, l_512, l_550, l_560, l_649, l_650, l_1000, l_1032, l_1400, l_2000, l_4000, l_10000, l_268435455, iN_add, iN_sub, iN_mul, iN_le_t, iN_le_f, iN_lt_t, iN_lt_f, iN_eq_f, inb_iN, ix_iN, isZ_0, isZ_1, ↓reduceIte, eq_self]
  obtain ⟨A, hA, r⟩ := hL
  refine ⟨A, ?_, r⟩
  unfold f_X4_begin
  simp (disch := omega) only [chk_t, beq_self_eq_true, nm_s, bj1_s, bj2_s, bj3_s, mo_1, mo_0, l_0, l_1, l_2, l_3, l_4, l_5, l_6, l_7, l_8, l_9, l_10, l_11, l_12, l_13, l_14, l_15, l_16, l_17, l_18, l_19, l_20, l_21, l_24, l_30, l_31, l_32, l_36, l_40, l_41, l_42, l_43, l_44, l_45, l_46, l_47, l_48, l_49, l_50, l_51, l_52, l_57, l_58, l_60, l_61, l_64, l_72, l_80, l_92, l_98, l_99, l_100, l_102, l_105, l_111, l_112, l_114, l_115, l_116, l_117, l_120, l_144, l_200, l_201, l_240, l_300, l_320, l_400, l_500, l_512, l_550, l_560, l_649, l_650, l_1000, l_1032, l_1400, l_2000, l_4000, l_10000, l_268435455, iN_add, iN_sub, iN_mul, iN_le_t, iN_le_f, iN_lt_t, iN_lt_f, iN_eq_f, inb_iN, ix_iN, isZ_0, isZ_1, ↓reduceIte, eq_self, kd_b ho, clamp0, hA]
theorem fndC_r {f q : Nat} {G : G_} (h : q ≠ 0 ∧ q ≠ 50) : (fndC f G).1 q = G.1 q := fndC_o h.1 h.2
/-! copy, mean, text, put -/
theorem b64 {a b : Int32} : (a.toInt64 + b.toInt64).toInt = a.toInt + b.toInt := by
  have h1 := t_rng a
  have h2 := t_rng b
  rw [Int64.toInt_add, Int32.toInt_toInt64, Int32.toInt_toInt64, Int.bmod_def]
  split <;> omega
theorem lg_gt {a b c : Int32} : (iN 0 < lg_cmp (a.toInt64 + b.toInt64) c.toInt64) = (c.toInt < a.toInt + b.toInt) := by
  have h := lg_cmp_gt (a.toInt64 + b.toInt64) c.toInt64
  rw [Int64.lt_iff_toInt_lt, b64, Int32.toInt_toInt64] at h
  exact propext h
theorem lg_le {a b c : Int32} : (lg_cmp (a.toInt64 + b.toInt64) c.toInt64 ≤ iN 0) = (a.toInt + b.toInt ≤ c.toInt) := by
  have h := lg_cmp_le (a.toInt64 + b.toInt64) c.toInt64
  rw [Int64.le_iff_toInt_le, b64, Int32.toInt_toInt64] at h
  exact propext h
theorem neg_tf {i : Int32} (h : i.toInt < 0) : (i < iN 0) = True := eq_true (t_lt.mpr (by rw [li (by omega)]; omega))
theorem neg_ff {i : Int32} (h : ¬ i.toInt < 0) : (i < iN 0) = False := eq_false (fun e => h (by have := t_lt.mp e; rw [li (by omega)] at this; omega))
theorem sC_at {G : G_} {p0 p1 i j n : Nat} (hi : i < 1000) (hj : j < 1000) (hn : n < 1000) (q k : Nat) : (sC G p0 p1 (iN i) (iN j) (iN n)).1 q k = if q = p1 then (if j ≤ k ∧ k < j + n then G.1 p0 (i + (k - j)) else G.1 p1 k) else G.1 q k := by
  unfold sC va_cpy
  show (if q = p1 then (if ix (iN j) ≤ k ∧ k < ix (iN j) + ix (iN n) then G.1 p0 (ix (iN i) + (k - ix (iN j))) else G.1 p1 k) else G.1 q k) = _
  rw [ix_iN (by omega), ix_iN (by omega), ix_iN (by omega)]
def sumL (f : Nat → Int64) : Nat → Int64
  | 0 => 0
  | n + 1 => sumL f n + f n
theorem loop_sumL (L : Nat → Int64 → Int32 → Option Int64) (f : Nat → Int64) (b : Nat)
    (step : ∀ n k s, k < b → L (n + 1) s (iN k) = L n (s + f k) (iN (k + 1)))
    (done : ∀ n s, L (n + 1) s (iN b) = some s) {n : Nat} (hb : b < n) : L n 0 (iN 0) = some (sumL f b) := by
  have key := loop_cl (fun n v s => L n s v) (sumL f) 0 b (some (sumL f b)) (fun n k _ h => step n k _ h) (fun n => done n _) (Nat.zero_le b) (n := n) (by omega)
  exact key
theorem n64_ne {z : Nat} (h1 : 1 ≤ z) (h2 : z ≤ 1000) : ((iN z).toInt64 != 0) = true := by
  rw [bne_iff_ne]
  intro e
  have := congrArg Int64.toInt e
  rw [Int32.toInt_toInt64, li (by omega)] at this
  have e0 : (0 : Int64).toInt = 0 := rfl
  omega
theorem tbegin_ok {o z : Nat} {G : G_} (ho : kd o = 6) (h40 : z ≤ 80) : ∃ G', f_X6_begin o (iN z) G = some G' ∧ G'.1 o 1 = iN z ∧ (∀ i, i < 80 → G'.1 (o + 1) i = (iN 32).toInt8.toInt32) ∧ (∀ q, q ≠ o → q ≠ o + 1 → G'.1 q = G.1 q) ∧ G'.2 = G.2 := by
  have hL : ∃ A, f_X6_begin_l19_4 o FU (iN 0) (sI G o 1 (iN z)) = some A ∧ A.1 o 1 = iN z ∧ (∀ i, i < 80 → A.1 (o + 1) i = (iN 32).toInt8.toInt32) ∧ (∀ q, q ≠ o → q ≠ o + 1 → A.1 q = G.1 q) ∧ A.2 = G.2 := by
    refine loop_h (fun n v s => f_X6_begin_l19_4 o n v s) (fun j A => A.1 o 1 = iN z ∧ (∀ i, i < j → A.1 (o + 1) i = (iN 32).toInt8.toInt32) ∧ (∀ q, q ≠ o → q ≠ o + 1 → A.1 q = G.1 q) ∧ A.2 = G.2) _ 0 80 ?_ ?_ (by omega) (n := FU) (fu_lt (by omega)) ⟨sI_eq, fun i h => by omega, fun q h1 h2 => by rw [sI_p h1], rfl⟩
    · intro f j A h3 h4 ⟨i0, i1, i2, i3⟩
      refine ⟨sI A (o + 1) j ((iN 32).toInt8.toInt32), ⟨by rw [sI_p (by omega)]; exact i0, fun i h5 => ?_, fun q h1 h2 => by rw [sI_p h2]; exact i2 q h1 h2, i3⟩, ?_⟩
      · by_cases c : i = j
        · subst c; exact sI_eq
        · rw [sI_j c]; exact i1 i (by omega)
      · show f_X6_begin_l19_4 o (f + 1) (iN j) A = _
        conv => lhs; unfold f_X6_begin_l19_4
        simp (disch := omega) only [chk_t, beq_self_eq_true, nm_s, bj1_s, bj2_s, bj3_s, mo_1, mo_0, l_0, l_1, l_2, l_3, l_4, l_5, l_6, l_7, l_8, l_9, l_10, l_11, l_12, l_13, l_14, l_15, l_16, l_17, l_18, l_19, l_20, l_21, l_24, l_30, l_31, l_32, l_36, l_40, l_41, l_42, l_43, l_44, l_45, l_46, l_47, l_48, l_49, l_50, l_51, l_52, l_57, l_58, l_60, l_61, l_64, l_72, l_80, l_92, l_98, l_99, l_100, l_102, l_105, l_111, l_112, l_114, l_115, l_116, l_117, l_120, l_144, l_200, l_201, l_240, l_300, l_320, l_400, l_500, l_512, l_550, l_560, l_649, l_650, l_1000, l_1032, l_1400, l_2000, l_4000, l_10000, l_268435455, iN_add, iN_sub, iN_mul, iN_le_t, iN_le_f, iN_lt_t, iN_lt_f, iN_eq_f, inb_iN, ix_iN, isZ_0, isZ_1, ↓reduceIte, eq_self]
    · intro f A hI
      refine ⟨A, ?_, hI⟩
      show f_X6_begin_l19_4 o (f + 1) (iN 80) A = _
      unfold f_X6_begin_l19_4
      simp (disch := omega) only [chk_t, beq_self_eq_true, nm_s, bj1_s, bj2_s, bj3_s, mo_1, mo_0, l_0, l_1, l_2, l_3, l_4, l_5, l_6, l_7, l_8, l_9, l_10, l_11, l_12, l_13, l_14, l_15, l_16, l_17, l_18, l_19, l_20, l_21, l_24, l_30, l_31, l_32, l_36, l_40, l_41, l_42, l_43, l_44, l_45, l_46, l_47, l_48, l_49, l_50, l_51, l_52, l_57, l_58, l_60, l_61, l_64, l_72, l_80, l_92, l_98, l_99, l_100, l_102, l_105, l_111, l_112, l_114, l_115, l_116, l_117, l_120, l_144, l_200, l_201, l_240, l_300, l_320, l_400, l_500, l_512, l_550, l_560, l_649, l_650, l_1000, l_1032, l_1400, l_2000, l_4000, l_10000, l_268435455, iN_add, iN_sub, iN_mul, iN_le_t, iN_le_f, iN_lt_t, iN_lt_f, iN_eq_f, inb_iN, ix_iN, isZ_0, isZ_1, ↓reduceIte, eq_self]
  obtain ⟨A, hA, r⟩ := hL
  refine ⟨A, ?_, r⟩
  unfold f_X6_begin
  simp (disch := omega) only [chk_t, beq_self_eq_true, nm_s, bj1_s, bj2_s, bj3_s, mo_1, mo_0, l_0, l_1, l_2, l_3, l_4, l_5, l_6, l_7, l_8, l_9, l_10, l_11, l_12, l_13, l_14, l_15, l_16, l_17, l_18, l_19, l_20, l_21, l_24, l_30, l_31, l_32, l_36, l_40, l_41, l_42, l_43, l_44, l_45, l_46, l_47, l_48, l_49, l_50, l_51, l_52, l_57, l_58, l_60, l_61, l_64, l_72, l_80, l_92, l_98, l_99, l_100, l_102, l_105, l_111, l_112, l_114, l_115, l_116, l_117, l_120, l_144, l_200, l_201, l_240, l_300, l_320, l_400, l_500, l_512, l_550, l_560, l_649, l_650, l_1000, l_1032, l_1400, l_2000, l_4000, l_10000, l_268435455, iN_add, iN_sub, iN_mul, iN_le_t, iN_le_f, iN_lt_t, iN_lt_f, iN_eq_f, inb_iN, ix_iN, isZ_0, isZ_1, ↓reduceIte, eq_self, kd_b ho, clamp0, hA]
/-! the calls that read: about, step, depth, skin, mark, just, wire -/
theorem phas_cases {p z : Nat} {G : G_} (ho : kd p = 2) (hz : G.1 p 4 = iN z) (h12 : z ≤ 12) (i : Int32) : (f_X2_has p i G = some (iN 0) ∧ inS (iN 0) (iN z - iN 1) i = iN 0) ∨ ∃ k, k < z ∧ i = iN k ∧ f_X2_has p (iN k) G = some (iN 1) ∧ inS (iN 0) (iN z - iN 1) (iN k) = iN 1 := by
  rcases ix_cases z i (by omega) with ⟨h1 | ⟨h1, h2⟩, h3⟩ | ⟨k, hk, rfl, h3⟩
  · left
    refine ⟨?_, h3⟩
    unfold f_X2_has
    simp (disch := omega) only [chk_t, beq_self_eq_true, nm_s, bj1_s, bj2_s, bj3_s, mo_1, mo_0, l_0, l_1, l_2, l_3, l_4, l_5, l_6, l_7, l_8, l_9, l_10, l_11, l_12, l_13, l_14, l_15, l_16, l_17, l_18, l_19, l_20, l_21, l_24, l_30, l_31, l_32, l_36, l_40, l_41, l_42, l_43, l_44, l_45, l_46, l_47, l_48, l_49, l_50, l_51, l_52, l_57, l_58, l_60, l_61, l_64, l_72, l_80, l_92, l_98, l_99, l_100, l_102, l_105, l_111, l_112, l_114, l_115, l_116, l_117, l_120, l_144, l_200, l_201, l_240, l_300, l_320, l_400, l_500, l_512, l_550, l_560, l_649, l_650, l_1000, l_1032, l_1400, l_2000, l_4000, l_10000, l_268435455, iN_add, iN_sub, iN_mul, iN_le_t, iN_le_f, iN_lt_t, iN_lt_f, iN_eq_f, inb_iN, ix_iN, isZ_0, isZ_1, ↓reduceIte, eq_self, kd_b ho, h1]
  · left
    refine ⟨?_, h3⟩
    unfold f_X2_has
    simp (disch := omega) only [chk_t, beq_self_eq_true, nm_s, bj1_s, bj2_s, bj3_s, mo_1, mo_0, l_0, l_1, l_2, l_3, l_4, l_5, l_6, l_7, l_8, l_9, l_10, l_11, l_12, l_13, l_14, l_15, l_16, l_17, l_18, l_19, l_20, l_21, l_24, l_30, l_31, l_32, l_36, l_40, l_41, l_42, l_43, l_44, l_45, l_46, l_47, l_48, l_49, l_50, l_51, l_52, l_57, l_58, l_60, l_61, l_64, l_72, l_80, l_92, l_98, l_99, l_100, l_102, l_105, l_111, l_112, l_114, l_115, l_116, l_117, l_120, l_144, l_200, l_201, l_240, l_300, l_320, l_400, l_500, l_512, l_550, l_560, l_649, l_650, l_1000, l_1032, l_1400, l_2000, l_4000, l_10000, l_268435455, iN_add, iN_sub, iN_mul, iN_le_t, iN_le_f, iN_lt_t, iN_lt_f, iN_eq_f, inb_iN, ix_iN, isZ_0, isZ_1, ↓reduceIte, eq_self, kd_b ho, hz, h1, h2]
  · exact Or.inr ⟨k, hk, rfl, phas_t ho hz h12 hk, h3⟩
theorem kd5 : kd 5 = 0 := rfl
def skinS (s w : Nat) (D : Nat → Int32) : Int32 := if w = 0 then kindS s D else if w = 1 then D (48 + s) else if w = 2 then D (50 + s) else if D 44 = iN s then iN 1 else iN 0
theorem cskin_ok {o s w : Nat} {D : Nat → Int32} {G : G_} (ho : kd o = 0) (h : cD o D G) (hs : s < 2) (hw : w ≤ 3) : f_X0_skinTells o (iN s) (iN w) G = some (skinS s w D) := by
  have hw' : w = 0 ∨ w = 1 ∨ w = 2 ∨ w = 3 := by omega
  unfold f_X0_skinTells skinS
  rcases hw' with rfl | rfl | rfl | rfl
  · simp (disch := omega) only [chk_t, beq_self_eq_true, nm_s, bj1_s, bj2_s, bj3_s, mo_1, mo_0, l_0, l_1, l_2, l_3, l_4, l_5, l_6, l_7, l_8, l_9, l_10, l_11, l_12, l_13, l_14, l_15, l_16, l_17, l_18, l_19, l_20, l_21, l_24, l_30, l_31, l_32, l_36, l_40, l_41, l_42, l_43, l_44, l_45, l_46, l_47, l_48, l_49, l_50, l_51, l_52, l_57, l_58, l_60, l_61, l_64, l_72, l_80, l_92, l_98, l_99, l_100, l_102, l_105, l_111, l_112, l_114, l_115, l_116, l_117, l_120, l_144, l_200, l_201, l_240, l_300, l_320, l_400, l_500, l_512, l_550, l_560, l_649, l_650, l_1000, l_1032, l_1400, l_2000, l_4000, l_10000, l_268435455, iN_add, iN_sub, iN_mul, iN_le_t, iN_le_f, iN_lt_t, iN_lt_f, iN_eq_f, inb_iN, ix_iN, isZ_0, isZ_1, ↓reduceIte, eq_self, kd_b ho, ckind_ok ho h hs]
  · simp (disch := omega) only [chk_t, beq_self_eq_true, nm_s, bj1_s, bj2_s, bj3_s, mo_1, mo_0, l_0, l_1, l_2, l_3, l_4, l_5, l_6, l_7, l_8, l_9, l_10, l_11, l_12, l_13, l_14, l_15, l_16, l_17, l_18, l_19, l_20, l_21, l_24, l_30, l_31, l_32, l_36, l_40, l_41, l_42, l_43, l_44, l_45, l_46, l_47, l_48, l_49, l_50, l_51, l_52, l_57, l_58, l_60, l_61, l_64, l_72, l_80, l_92, l_98, l_99, l_100, l_102, l_105, l_111, l_112, l_114, l_115, l_116, l_117, l_120, l_144, l_200, l_201, l_240, l_300, l_320, l_400, l_500, l_512, l_550, l_560, l_649, l_650, l_1000, l_1032, l_1400, l_2000, l_4000, l_10000, l_268435455, iN_add, iN_sub, iN_mul, iN_le_t, iN_le_f, iN_lt_t, iN_lt_f, iN_eq_f, inb_iN, ix_iN, isZ_0, isZ_1, ↓reduceIte, eq_self, kd_b ho, cwet_ok ho h hs]
    rfl
  · simp (disch := omega) only [chk_t, beq_self_eq_true, nm_s, bj1_s, bj2_s, bj3_s, mo_1, mo_0, l_0, l_1, l_2, l_3, l_4, l_5, l_6, l_7, l_8, l_9, l_10, l_11, l_12, l_13, l_14, l_15, l_16, l_17, l_18, l_19, l_20, l_21, l_24, l_30, l_31, l_32, l_36, l_40, l_41, l_42, l_43, l_44, l_45, l_46, l_47, l_48, l_49, l_50, l_51, l_52, l_57, l_58, l_60, l_61, l_64, l_72, l_80, l_92, l_98, l_99, l_100, l_102, l_105, l_111, l_112, l_114, l_115, l_116, l_117, l_120, l_144, l_200, l_201, l_240, l_300, l_320, l_400, l_500, l_512, l_550, l_560, l_649, l_650, l_1000, l_1032, l_1400, l_2000, l_4000, l_10000, l_268435455, iN_add, iN_sub, iN_mul, iN_le_t, iN_le_f, iN_lt_t, iN_lt_f, iN_eq_f, inb_iN, ix_iN, isZ_0, isZ_1, ↓reduceIte, eq_self, kd_b ho, cbrn_ok ho h hs]
    rfl
  · simp (disch := omega) only [chk_t, beq_self_eq_true, nm_s, bj1_s, bj2_s, bj3_s, mo_1, mo_0, l_0, l_1, l_2, l_3, l_4, l_5, l_6, l_7, l_8, l_9, l_10, l_11, l_12, l_13, l_14, l_15, l_16, l_17, l_18, l_19, l_20, l_21, l_24, l_30, l_31, l_32, l_36, l_40, l_41, l_42, l_43, l_44, l_45, l_46, l_47, l_48, l_49, l_50, l_51, l_52, l_57, l_58, l_60, l_61, l_64, l_72, l_80, l_92, l_98, l_99, l_100, l_102, l_105, l_111, l_112, l_114, l_115, l_116, l_117, l_120, l_144, l_200, l_201, l_240, l_300, l_320, l_400, l_500, l_512, l_550, l_560, l_649, l_650, l_1000, l_1032, l_1400, l_2000, l_4000, l_10000, l_268435455, iN_add, iN_sub, iN_mul, iN_le_t, iN_le_f, iN_lt_t, iN_lt_f, iN_eq_f, inb_iN, ix_iN, isZ_0, isZ_1, ↓reduceIte, eq_self, kd_b ho, c_11 h, ite_so]
    rfl
theorem kind_r (s : Nat) (D : Nat → Int32) : ∃ k, k ≤ 6 ∧ kindS s D = iN k := by
  unfold kindS
  split
  · split
    · split
      · exact ⟨4, by omega, rfl⟩
      · split
        · split
          · exact ⟨0, by omega, rfl⟩
          · exact ⟨2, by omega, rfl⟩
        · exact ⟨0, by omega, rfl⟩
    · split
      · exact ⟨1, by omega, rfl⟩
      · exact ⟨5, by omega, rfl⟩
  · split
    · exact ⟨3, by omega, rfl⟩
    · exact ⟨6, by omega, rfl⟩
/-- a kind is one of another's -/
def isS (k a : Nat) : Nat := if k = a ∨ (a = 1 ∧ k = 5) ∨ (a = 2 ∧ k = 4) ∨ (a = 3 ∧ k = 6) then 1 else 0
theorem mx_sub {a b : Nat} (ha : a < 1000) (hb : b < 1000) : mx (iN a - iN b) (iN 0) = iN (a - b) := by
  have e : (iN a - iN b).toInt = a - b := by
    rw [t_sub (by rw [li (by omega), li (by omega)]; omega) (by rw [li (by omega), li (by omega)]; omega), li (by omega), li (by omega)]
  rw [t_eq, mx_t, e, li (by omega), li (by omega)]
  split <;> omega
theorem mn_N {a b : Nat} (ha : a < 1000) (hb : b < 1000) : mn (iN a) (iN b) = iN (min a b) := by
  rw [t_eq, mn_t, li (by omega), li (by omega), li (by omega)]
  split <;> omega
theorem mn_d (a b : Int32) : mn a b = if b < a then b else a := rfl
/-! the calls that change a dish, or try it: dish, go, keep, on, slice, cut, rise -/
theorem upOK_tick {D : Nat → Int32} {n : Nat} {k q : Int32} (hn : okN D n) (h : D 44 = iN 0 ∨ D 44 = iN 1) : upOK (tickS k q D) := by
  have h2 := hn.2
  have e4 : tickS k q D 44 = D 44 := tickS_lo (by omega)
  refine ⟨fun e => ?_, by rw [e4]; exact h⟩
  rw [e4]
  unfold tickS endS at e ⊢
  rw [up_ne (by omega), up_ne (by omega), up_ne (by omega), up_eq] at e
  rw [up_ne (by omega), up_ne (by omega), up_eq, if_pos e, brownS_0 (by omega), brownS_0 (by omega), mostS_lo (by omega), bathS_0 (by omega), dryS_0 (by omega) (by rw [okN_n hn]; omega), bathS_0 (by omega), dryS_0 (by omega) (by omega), warmsS_lo (by omega)]
theorem onc1_44 {D : Nat → Int32} (h : D 44 = iN 0 ∨ D 44 = iN 1) : onc1 D 44 = iN 0 ∨ onc1 D 44 = iN 1 := by
  unfold onc1
  rw [up_ne (by omega)]
  split
  · rw [up_eq]
    rcases h with h | h <;> rw [h]
    · exact Or.inr rfl
    · exact Or.inl rfl
  · rw [up_ne (by omega), up_ne (by omega)]
    exact h
theorem once_44 {f : Nat} {D : Nat → Int32} (h : D 44 = iN 0 ∨ D 44 = iN 1) : onceS f D 44 = iN 0 ∨ onceS f D 44 = iN 1 := by
  induction f generalizing D with
  | zero => exact h
  | succ f ih =>
    unfold onceS
    split
    · exact h
    · split
      · exact h
      · exact ih (onc1_44 h)
theorem upOK_up {D : Nat → Int32} {p : Nat} {x : Int32} (h : upOK D) (hp : p ≠ 44 ∧ p ≠ 45 ∧ p ≠ 46) : upOK (up D p x) := by
  unfold upOK
  rw [up_ne (by omega), up_ne (by omega), up_ne (by omega)]
  exact h
theorem upOK_go1 {D : Nat → Int32} {n mm : Nat} (hg : gD D n mm) (h : D 44 = iN 0 ∨ D 44 = iN 1) : upOK (go1 D) := by
  obtain ⟨E, at_, g, eE, hw, hp, hm, ⟨c, e, -⟩ | ⟨c, a, b, c', h1, h2, h3, h4, h5, h6, h7, h8, -, e⟩⟩ := go1_cases hg
  · rw [e]
    exact upOK_tick hw.1 (by rw [eE]; exact once_44 h)
  · have u := upOK_tick (k := iN a) (q := iN b) hw.1 (by rw [eE]; exact once_44 h)
    rw [e]
    split
    · exact upOK_up (upOK_up u (by omega)) (by omega)
    · exact upOK_up u (by omega)
theorem upOK_go {D : Nat → Int32} {n mm k : Nat} (hg : gD D n mm) (h : upOK D) : upOK (goS D k) := by
  induction k with
  | zero => exact h
  | succ k ih => exact upOK_go1 (gD_go hg) ih.2
theorem tk_X {P E : Nat → Int32} {mm : Nat} (h : P 4 = iN mm) (hm : mm ≤ 12) : tkS (lpS P E) = tkS P := by
  unfold tkS
  rw [mD_of (lp_in (by omega) (by omega)), mD_N h hm]
  exact sumS_congr (fun i hi => lp_in (by omega) (by omega))
theorem pl_X {P E : Nat → Int32} {mm : Nat} (h : plR P mm) : plR (lpS P E) mm := by
  obtain ⟨h1, h2, h3, T, h4, h5⟩ := h
  refine ⟨by rw [lp_in (by omega) (by omega)]; exact h1, h2, fun i hi => ?_, T, h4, by rw [tk_X h1 h2]; exact h5⟩
  obtain ⟨a, b, c, g1, g2, g3, g4⟩ := h3 i hi
  exact ⟨a, b, c, by rw [lp_in (by omega) (by omega)]; exact g1, by rw [lp_in (by omega) (by omega)]; exact g2, by rw [lp_in (by omega) (by omega)]; exact g3, g4⟩
theorem cPl_X {b mm : Nat} {P E : Nat → Int32} {G : G_} (h : P 4 = iN mm) (hm : mm ≤ 12) (hP : cPl b P G) : cPl b (lpS P E) G := by
  obtain ⟨h1, h2, h3⟩ := hP
  refine ⟨by rw [lp_in (by omega) (by omega)]; exact h1, by rw [tk_X h hm]; exact h2, fun i hi => ?_⟩
  rw [mD_of (lp_in (by omega) (by omega)), mD_N h hm] at hi
  rw [lp_in (by omega) (by omega), lp_in (by omega) (by omega), lp_in (by omega) (by omega)]
  exact h3 i (by rw [mD_N h hm]; exact hi)
theorem isZ_N1 : isZ (iN 1) = true := isZ_1
/-! slice, cut, rise -/
theorem rset_ok {o z i : Nat} {x : Int32} {G : G_} (ho : kd o = 4) (hz : G.1 o 1 = iN z) (h40 : z ≤ 40) (hi : i < z) : f_X4_set o (iN i) x G = some (sI G (o + 1) i x) := by
  rcases rhas_cases ho hz h40 (iN i) with ⟨c, c2⟩ | ⟨k, hk, ek, c, c2⟩
  · rw [iN_sub (by omega), inS_t (by omega) (by omega)] at c2
    exact absurd c2 (by decide)
  · have ek := (iN_inj (by omega) (by omega)).mp ek
    subst ek
    unfold f_X4_set
    simp (disch := omega) only [chk_t, beq_self_eq_true, nm_s, bj1_s, bj2_s, bj3_s, mo_1, mo_0, l_0, l_1, l_2, l_3, l_4, l_5, l_6, l_7, l_8, l_9, l_10, l_11, l_12, l_13, l_14, l_15, l_16, l_17, l_18, l_19, l_20, l_21, l_24, l_30, l_31, l_32, l_36, l_40, l_41, l_42, l_43, l_44, l_45, l_46, l_47, l_48, l_49, l_50, l_51, l_52, l_57, l_58, l_60, l_61, l_64, l_72, l_80, l_92, l_98, l_99, l_100, l_102, l_105, l_111, l_112, l_114, l_115, l_116, l_117, l_120, l_144, l_200, l_201, l_240, l_300, l_320, l_400, l_500, l_512, l_550, l_560, l_649, l_650, l_1000, l_1032, l_1400, l_2000, l_4000, l_10000, l_268435455, iN_add, iN_sub, iN_mul, iN_le_t, iN_le_f, iN_lt_t, iN_lt_f, iN_eq_f, inb_iN, ix_iN, isZ_0, isZ_1, ↓reduceIte, eq_self, kd_b ho, c]
/-- the greatest so far, and when it was so first -/
def riB (f : Nat → Int32) : Nat → Int32
  | 0 => f 0
  | k + 1 => if f (k + 1) ≤ riB f k then riB f k else f (k + 1)
def riA (f : Nat → Int32) : Nat → Int32
  | 0 => iN 0
  | k + 1 => if f (k + 1) ≤ riB f k then riA f k else iN (k + 1)
theorem gt_le (a b : Int32) : (if b < a then a else b) = if b ≤ a then a else b := by
  by_cases c : b < a
  · rw [if_pos c, if_pos (t_le.mpr (by have := t_lt.mp c; omega))]
  · rw [if_neg c]
    by_cases c2 : b ≤ a
    · rw [if_pos c2, t_eq]
      have := t_le.mp c2
      have : ¬ b.toInt < a.toInt := fun e => c (t_lt.mpr e)
      omega
    · rw [if_neg c2]
/-! guards of the calls that try; way, often, turns -/
theorem le_m3 : (iN 0 ≤ -iN 3) = False := eq_false (by decide)
theorem le_00 : (iN 0 ≤ iN 0) = True := eq_true (by decide)
theorem cSl_cc {a : Nat} {X : Nat → Int32} {G A : G_} (h : cSl a X G) (e : A.1 a = G.1 a) : cSl a X A := by
  unfold cSl
  rw [e]
  exact h
theorem cc_50 {G A : G_} {y : Int32} (h : cc G A) : ∀ q, 50 ≤ q → (sI A 0 16 y).1 q = G.1 q := fun q hq => by rw [sI_p (by omega), h.1 q (by omega)]
theorem bg_bg {E X : Nat → Int32} (h : ∀ p, p < 41 ∨ 112 ≤ p → E p = X p) : bgS E = bgS X := by
  funext p
  have e : nD E = nD X := nD_of (h 0 (by omega))
  unfold bgS
  rw [e, h 1 (by omega), h 2 (by omega)]
  by_cases c : p < 41
  · rw [if_pos c, if_pos c, h p (Or.inl c)]
  · rw [if_neg c, if_neg c]
    split
    · rfl
    · split
      · rfl
      · split
        · rfl
        · split
          · rfl
          · split
            · rfl
            · split
              · rfl
              · exact h p (by omega)
theorem way_X {k n : Nat} {q t : Int32} {X : Nat → Int32} {p : Nat} (hn : okN X n) (hp : p < 41 ∨ 112 ≤ p) : wayS q t (bgS X) k p = X p := (way_lo (okN_bg hn) hp).trans (bg_keep hp)
theorem t1N {l : Nat} (h : 1 ≤ l) (h2 : l ≤ 1000) : 1 ≤ (iN l).toInt := by rw [li (by omega)]; omega
/-! turns, off, rest, salt, thick -/
theorem loop_a {α ρ : Type} (L : Nat → Int32 → α → G_ → Option ρ) (HI : Nat → G_ → Prop) (A : Nat → α) (Q : ρ → Prop) (a b : Nat)
    (step : ∀ n k G, a ≤ k → k < b → HI k G → ∃ G', HI (k + 1) G' ∧ L (n + 1) (iN k) (A k) G = L n (iN (k + 1)) (A (k + 1)) G')
    (done : ∀ n G, HI b G → ∃ r, L (n + 1) (iN b) (A b) G = some r ∧ Q r) (hab : a ≤ b) {n : Nat} (hn : b - a < n) {G : G_} (hs : HI a G) : ∃ r, L n (iN a) (A a) G = some r ∧ Q r := by
  refine loop_h (fun n v (s : α × G_) => L n v s.1 s.2) (fun k s => s.1 = A k ∧ HI k s.2) Q a b ?_ ?_ hab hn (s := (A a, G)) ⟨rfl, hs⟩
  · intro n k ⟨x, H⟩ h1 h2 ⟨i0, i1⟩
    have i0 : x = A k := i0
    subst i0
    obtain ⟨H', h3, h4⟩ := step n k H h1 h2 i1
    exact ⟨(A (k + 1), H'), ⟨rfl, h3⟩, h4⟩
  · intro n ⟨x, H⟩ ⟨i0, i1⟩
    have i0 : x = A b := i0
    subst i0
    exact done n H i1
theorem loop_p (L : Nat → Int32 → Int32 × Int32 → G_ → Option (Int32 × Int32 × G_)) (HI : Nat → G_ → Prop) (A : Nat → Int32 × Int32) (a b : Nat)
    (step : ∀ n k G, a ≤ k → k < b → HI k G → ∃ G', HI (k + 1) G' ∧ L (n + 1) (iN k) (A k) G = L n (iN (k + 1)) (A (k + 1)) G')
    (done : ∀ n x y G, L (n + 1) (iN b) (x, y) G = some (x, y, G)) (hab : a ≤ b) {n : Nat} (hn : b - a < n) {G : G_} (hs : HI a G) : ∃ H, L n (iN a) (A a) G = some ((A b).1, (A b).2, H) ∧ HI b H := by
  obtain ⟨r, h1, H, h2, h3⟩ := loop_a L HI A (fun r => ∃ H, r = ((A b).1, (A b).2, H) ∧ HI b H) a b step (fun n G h => ⟨_, done n (A b).1 (A b).2 G, G, rfl, h⟩) hab hn hs
  exact ⟨H, by rw [h1, h2], h3⟩
def mxF (f : Nat → Int32) (a : Nat) (s0 : Int32 × Int32) : Nat → Int32 × Int32
  | 0 => s0
  | k + 1 => if f (a + k) ≤ (mxF f a s0 k).2 then mxF f a s0 k else (iN (a + k), f (a + k))
def mnF (f : Nat → Int32) (a : Nat) (s0 : Int32 × Int32) : Nat → Int32 × Int32
  | 0 => s0
  | k + 1 => if (mnF f a s0 k).2 ≤ f (a + k) then mnF f a s0 k else (iN (a + k), f (a + k))
theorem mxF_1 {f : Nat → Int32} {a : Nat} {s0 : Int32 × Int32} (h : ¬ f a ≤ s0.2) (k : Nat) : mxF f a s0 (k + 1) = mxF f (a + 1) (iN a, f a) k := by
  induction k with
  | zero => exact if_neg h
  | succ k ih =>
    show (if f (a + (k + 1)) ≤ (mxF f a s0 (k + 1)).2 then mxF f a s0 (k + 1) else (iN (a + (k + 1)), f (a + (k + 1)))) = (if f (a + 1 + k) ≤ (mxF f (a + 1) (iN a, f a) k).2 then mxF f (a + 1) (iN a, f a) k else (iN (a + 1 + k), f (a + 1 + k)))
    rw [ih, show a + (k + 1) = a + 1 + k by omega]
theorem mnF_b {f : Nat → Int32} {a : Nat} {s0 : Int32 × Int32} {b0 : Nat} (h : s0.1 = iN b0) (h1 : 1 ≤ b0) (h2 : b0 ≤ a) (k : Nat) : ∃ b, 1 ≤ b ∧ b ≤ a + k ∧ (mnF f a s0 k).1 = iN b := by
  induction k with
  | zero => exact ⟨b0, h1, by omega, h⟩
  | succ k ih =>
    unfold mnF
    split
    · obtain ⟨b, h3, h4, h5⟩ := ih
      exact ⟨b, h3, by omega, h5⟩
    · exact ⟨a + k, by omega, by omega, rfl⟩
theorem sum01 (f : Nat → Int32) (n : Nat) (h : ∀ i, i < n → f i = iN 0 ∨ f i = iN 1) (hn : n ≤ 1000) : ∃ k, k ≤ n ∧ sumS f n = iN k := by
  induction n with
  | zero => exact ⟨0, by omega, rfl⟩
  | succ n ih =>
    obtain ⟨k, h1, h2⟩ := ih (fun i hi => h i (by omega)) (by omega)
    unfold sumS
    rw [h2]
    rcases h n (by omega) with e | e <;> rw [e, iN_add]
    · exact ⟨k + 0, by omega, rfl⟩
    · exact ⟨k + 1, by omega, rfl⟩
theorem just_N {D : Nat → Int32} {n : Nat} (a b : Int32) (hn : okN D n) : ∃ k, k ≤ 20 ∧ justS a b D = iN k := by
  unfold justS
  rw [okN_n hn]
  obtain ⟨k, h1, h2⟩ := sum01 (fun i => inS a b (D (72 + i))) n (fun i _ => inS_01 _ _ _) (by have := hn.2; omega)
  exact ⟨k, by have := hn.2; omega, h2⟩
theorem N_m1 {k : Nat} (h : k ≤ 1000) : ¬ iN k ≤ -iN 1 := by
  rw [t_le, li (by omega), show (-iN 1).toInt = -1 from by decide]
  omega
theorem cc_at {G A : G_} {q : Nat} (h : cc G A) (hq : 49 < q) : A.1 q = G.1 q := h.1 q (Or.inr hq)
/-- the accumulators ahead of index j of a loop from a on -/
def mxA (f : Nat → Int32) (a : Nat) (s0 : Int32 × Int32) (j : Nat) : Int32 × Int32 := mxF f a s0 (j - a)
theorem mxA_0 {f : Nat → Int32} {a : Nat} {s0 : Int32 × Int32} : mxA f a s0 a = s0 := by
  unfold mxA
  rw [Nat.sub_self]
  rfl
theorem mxA_s {f : Nat → Int32} {a j : Nat} {s0 : Int32 × Int32} (h : a ≤ j) : mxA f a s0 (j + 1) = if f j ≤ (mxA f a s0 j).2 then mxA f a s0 j else (iN j, f j) := by
  unfold mxA
  rw [show j + 1 - a = j - a + 1 by omega]
  show (if f (a + (j - a)) ≤ (mxF f a s0 (j - a)).2 then mxF f a s0 (j - a) else (iN (a + (j - a)), f (a + (j - a)))) = _
  rw [show a + (j - a) = j by omega]
theorem mxA_1 {f : Nat → Int32} {a b : Nat} {s0 s1 : Int32 × Int32} (h : ¬ f a ≤ s0.2) (h1 : ¬ f a ≤ s1.2) (hb : a < b) : mxA f a s0 b = mxA f a s1 b := by
  obtain ⟨k, rfl⟩ : ∃ k, b = a + (k + 1) := ⟨b - a - 1, by omega⟩
  unfold mxA
  rw [show a + (k + 1) - a = k + 1 by omega, mxF_1 h, mxF_1 h1]
def mnA (f : Nat → Int32) (a : Nat) (s0 : Int32 × Int32) (j : Nat) : Int32 × Int32 := mnF f a s0 (j - a)
theorem mnA_0 {f : Nat → Int32} {a : Nat} {s0 : Int32 × Int32} : mnA f a s0 a = s0 := by
  unfold mnA
  rw [Nat.sub_self]
  rfl
theorem mnA_s {f : Nat → Int32} {a j : Nat} {s0 : Int32 × Int32} (h : a ≤ j) : mnA f a s0 (j + 1) = if (mnA f a s0 j).2 ≤ f j then mnA f a s0 j else (iN j, f j) := by
  unfold mnA
  rw [show j + 1 - a = j - a + 1 by omega]
  show (if (mnF f a s0 (j - a)).2 ≤ f (a + (j - a)) then mnF f a s0 (j - a) else (iN (a + (j - a)), f (a + (j - a)))) = _
  rw [show a + (j - a) = j by omega]
/-- the first one counts always, whatever stood there -/
def fiA (f : Nat → Int32) (s0 : Int32 × Int32) (j : Nat) : Int32 × Int32 := if j ≤ 1 then s0 else mnA f 2 (iN 1, f 1) j
theorem fiA_1 {f : Nat → Int32} {s0 : Int32 × Int32} : fiA f s0 1 = s0 := if_pos (by omega)
theorem fiA_2 {f : Nat → Int32} {s0 : Int32 × Int32} : fiA f s0 2 = (iN 1, f 1) := (if_neg (by omega)).trans mnA_0
theorem fiA_g {f : Nat → Int32} {j : Nat} {s0 : Int32 × Int32} (h : 2 ≤ j) : fiA f s0 j = mnA f 2 (iN 1, f 1) j := if_neg (by omega)
theorem fiA_s {f : Nat → Int32} {j : Nat} {s0 : Int32 × Int32} (h : 2 ≤ j) : fiA f s0 (j + 1) = if (fiA f s0 j).2 ≤ f j then fiA f s0 j else (iN j, f j) := by
  rw [fiA_g (show 2 ≤ j + 1 by omega), fiA_g h, mnA_s h]
theorem fiA_b {f : Nat → Int32} {j : Nat} {s0 : Int32 × Int32} (h : 2 ≤ j) : ∃ b, 1 ≤ b ∧ b ≤ j ∧ (fiA f s0 j).1 = iN b := by
  unfold fiA mnA
  rw [if_neg (by omega)]
  obtain ⟨b, h1, h2, h3⟩ := mnF_b (f := f) (a := 2) (s0 := (iN 1, f 1)) (b0 := 1) rfl (by omega) (by omega) (j - 2)
  exact ⟨b, h1, by omega, h3⟩
theorem fiA_e {f : Nat → Int32} {s0 s1 : Int32 × Int32} {j : Nat} (h : 2 ≤ j) : fiA f s0 j = fiA f s1 j := by
  unfold fiA
  rw [if_neg (by omega), if_neg (by omega)]
theorem grS_R {D : Nat → Int32} {n : Nat} (h : wfD D n) (k : Nat) : 0 ≤ (grS D k).toInt ∧ (grS D k).toInt ≤ 3000 := by
  have hn := h.1.2
  have key : ∀ j, 0 ≤ (midW (restS D j)).toInt ∧ (midW (restS D j)).toInt ≤ 3000 := fun j => by
    have w := wf_rest (k := j) h
    unfold midW
    exact w.2.2.1 _ (by rw [okN_n w.1]; omega)
  induction k with
  | zero => exact key 0
  | succ k ih =>
    unfold grS
    split
    · exact ih
    · exact key (k + 1)
theorem ab_far {a b : Int32} (h1 : 0 ≤ a.toInt ∧ a.toInt ≤ 100000) (h2 : 0 ≤ b.toInt ∧ b.toInt ≤ 100000) : ab (a - b) = if a < b then b - a else a - b := by
  have e1 : (a - b).toInt = a.toInt - b.toInt := t_sub (by omega) (by omega)
  have e2 : (b - a).toInt = b.toInt - a.toInt := t_sub (by omega) (by omega)
  unfold ab
  by_cases c : a < b
  · rw [if_pos c]
    have := t_lt.mp c
    rw [if_neg (fun e => by have := t_le.mp e; rw [show (0 : Int32).toInt = 0 from rfl, e1] at this; omega), t_eq, e2, show (0 : Int32) = iN 0 from rfl, t_sub (by rw [li (by omega), e1]; omega) (by rw [li (by omega), e1]; omega), li (by omega), e1]
    omega
  · rw [if_neg c]
    have : ¬ a.toInt < b.toInt := fun e => c (t_lt.mpr e)
    rw [if_pos (t_le.mpr (by rw [show (0 : Int32).toInt = 0 from rfl, e1]; omega))]
def offS (q t w : Int32) (X : Nat → Int32) (j : Nat) : Int32 := if grS (wayS q t (bgS X) j) 30 < w then w - grS (wayS q t (bgS X) j) 30 else grS (wayS q t (bgS X) j) 30 - w
/-! rest, salt, thick: made by a plan -/
theorem bg_eq {E X : Nat → Int32} (h : ∀ p, p < 41 ∨ 112 ≤ p → E p = X p) : bgS E = bgS X := bg_bg h
theorem tk_eq {E X : Nat → Int32} (h : ∀ p, p < 41 → E p = X p) (hm : mD X ≤ 12) : tkS E = tkS X := by
  unfold tkS
  rw [mD_of (h 4 (by omega))]
  exact sumS_congr (fun i hi => h _ (by omega))
theorem mk_eq {E X : Nat → Int32} (h : ∀ p, p < 41 ∨ 112 ≤ p → E p = X p) (hm : mD X ≤ 12) : mkS E = mkS X := by
  unfold mkS
  rw [bg_eq h, tk_eq (fun p hp => h p (Or.inl hp)) hm]
theorem mk_lo {X : Nat → Int32} {n mm p : Nat} (hs : slR X n) (h : plR X mm) (hp : p < 41 ∨ 112 ≤ p) : mkS X p = X p := by
  unfold mkS
  rw [once_p (by omega) (by omega) (by omega) (by omega), go_lo (gD_bg hs h) hp, bg_keep hp]
theorem pl_keep {X E : Nat → Int32} {mm : Nat} (h : plR X mm) (e : ∀ p, 4 ≤ p → p < 41 → E p = X p) : plR E mm := by
  obtain ⟨h1, h2, h3, T, h4, h5⟩ := h
  refine ⟨by rw [e 4 (by omega) (by omega)]; exact h1, h2, fun i hi => ?_, T, h4, ?_⟩
  · obtain ⟨a, b, c, g1, g2, g3, g4⟩ := h3 i hi
    exact ⟨a, b, c, by rw [e _ (by omega) (by omega)]; exact g1, by rw [e _ (by omega) (by omega)]; exact g2, by rw [e _ (by omega) (by omega)]; exact g3, g4⟩
  · unfold tkS at h5 ⊢
    rw [mD_of (e 4 (by omega) (by omega)), mD_N h1 h2] at *
    rw [← h5]
    exact sumS_congr (fun i hi => e _ (by omega) (by omega))
theorem cPl_keep {b mm : Nat} {X E : Nat → Int32} {G : G_} (h : plR X mm) (e : ∀ p, 4 ≤ p → p < 41 → E p = X p) (hP : cPl b X G) : cPl b E G := by
  obtain ⟨h1, h2, h3⟩ := hP
  have hm := h.2.1
  have em := mD_N h.1 hm
  have em2 : mD E = mm := by rw [mD_of (e 4 (by omega) (by omega))]; exact em
  refine ⟨by rw [e 4 (by omega) (by omega)]; exact h1, ?_, fun i hi => ?_⟩
  · rw [h2]
    unfold tkS
    rw [em2, em]
    exact (sumS_congr (fun i hi => e _ (by omega) (by omega))).symm
  · rw [em2] at hi
    rw [e _ (by omega) (by omega), e _ (by omega) (by omega), e _ (by omega) (by omega)]
    exact h3 i (by omega)
theorem cPl_cc {b : Nat} {X : Nat → Int32} {G A : G_} (h : cPl b X G) (e : ∀ q, b ≤ q → q < b + 4 → A.1 q = G.1 q) : cPl b X A := by
  unfold cPl
  rw [e b (by omega) (by omega), e (b + 1) (by omega) (by omega), e (b + 2) (by omega) (by omega), e (b + 3) (by omega) (by omega)]
  exact h
theorem lt_le (a b : Int32) : (if a < b then a else b) = if a ≤ b then a else b := by
  by_cases c : a < b
  · rw [if_pos c, if_pos (t_le.mpr (by have := t_lt.mp c; omega))]
  · rw [if_neg c]
    by_cases c2 : a ≤ b
    · rw [if_pos c2, t_eq]
      have := t_le.mp c2
      have : ¬ a.toInt < b.toInt := fun e => c (t_lt.mpr e)
      omega
    · rw [if_neg c2]
theorem up2_eq {X E : Nat → Int32} {s : Nat} {x : Int32} (h : ∀ p, p < 41 ∨ 112 ≤ p → p ≠ s → E p = X p) : ∀ p, p < 41 ∨ 112 ≤ p → up E s x p = up X s x p := by
  intro p hp
  unfold up
  split
  · rfl
  · next c => exact h p hp c
/-- how many, and the least -/
def thF (f : Nat → Int32) : Nat → Int32 × Int32
  | 0 => (iN 0, -iN 9)
  | k + 1 => if f (3 + k) = iN 0 then thF f k else ((thF f k).1 + iN 1, if (thF f k).2 = -iN 9 then iN (3 + k) else (thF f k).2)
def thA (f : Nat → Int32) (j : Nat) : Int32 × Int32 := thF f (j - 3)
theorem thA_s {f : Nat → Int32} {j : Nat} (h : 3 ≤ j) : thA f (j + 1) = if f j = iN 0 then thA f j else ((thA f j).1 + iN 1, if (thA f j).2 = -iN 9 then iN j else (thA f j).2) := by
  unfold thA
  rw [show j + 1 - 3 = j - 3 + 1 by omega]
  show (if f (3 + (j - 3)) = iN 0 then thF f (j - 3) else ((thF f (j - 3)).1 + iN 1, if (thF f (j - 3)).2 = -iN 9 then iN (3 + (j - 3)) else (thF f (j - 3)).2)) = _
  rw [show 3 + (j - 3) = j by omega]
theorem N_m9 {b : Nat} (h : b ≤ 100000) : (iN b = -iN 9) = False := eq_false (fun e => by
  have := congrArg Int32.toInt e
  rw [li (by omega), show (-iN 9).toInt = -9 from by decide] at this
  omega)
theorem thF_b {f : Nat → Int32} (k : Nat) (hk : k ≤ 1000) : ∃ c, c ≤ k ∧ (thF f k).1 = iN c ∧ ((c = 0 ∧ (thF f k).2 = -iN 9) ∨ (1 ≤ c ∧ ∃ b, b ≤ 3 + k ∧ (thF f k).2 = iN b)) := by
  induction k with
  | zero => exact ⟨0, by omega, rfl, Or.inl ⟨rfl, rfl⟩⟩
  | succ k ih =>
    obtain ⟨c, h1, h2, h3⟩ := ih (by omega)
    unfold thF
    split
    · refine ⟨c, by omega, h2, ?_⟩
      rcases h3 with h3 | ⟨h3, b, h4, h5⟩
      · exact Or.inl h3
      · exact Or.inr ⟨h3, b, by omega, h5⟩
    · refine ⟨c + 1, by omega, by show (thF f k).1 + iN 1 = _; rw [h2, iN_add], Or.inr ⟨by omega, ?_⟩⟩
      rcases h3 with ⟨h3, h4⟩ | ⟨h3, b, h4, h5⟩
      · exact ⟨3 + k, by omega, if_pos h4⟩
      · refine ⟨b, by omega, ?_⟩
        show (if (thF f k).2 = -iN 9 then iN (3 + k) else (thF f k).2) = iN b
        rw [if_neg (by rw [h5]; exact of_eq_false (N_m9 (by omega))), h5]
/-! same, both, safe, rule -/
theorem tillF_r (P : Nat → Bool) (f k : Nat) : tillF P f k = -iN 9 ∨ ∃ j, k < j ∧ j ≤ k + f ∧ tillF P f k = iN j := by
  induction f generalizing k with
  | zero => exact Or.inl rfl
  | succ f ih =>
    unfold tillF
    split
    · exact Or.inr ⟨k + 1, by omega, by omega, rfl⟩
    · rcases ih (k + 1) with h | ⟨j, h1, h2, h3⟩
      · exact Or.inl h
      · exact Or.inr ⟨j, by omega, by omega, h3⟩
theorem till_r (q t v : Int32) (D : Nat → Int32) : tillS q t v D = -iN 9 ∨ ∃ j, 1 ≤ j ∧ j ≤ 200 ∧ tillS q t v D = iN j := by
  rcases tillF_r (fun k => !decide (midM (wayS q t D k) < v)) 200 0 with h | ⟨j, h1, h2, h3⟩
  · exact Or.inl h
  · exact Or.inr ⟨j, by omega, by omega, h3⟩
theorem ls_keep {S D E : Nat → Int32} (h : ∀ p, p < 41 ∨ 112 ≤ p → D p = E p) : ∀ p, p < 41 ∨ 112 ≤ p → lsS S D p = lsS S E p := by
  intro p hp
  by_cases c : p < 4
  · rw [ls_lo c, ls_lo c]
  · by_cases c2 : p = 4
    · subst c2
      rw [ls_4, ls_4]
    · rw [ls_hi (by omega), ls_hi (by omega), h p hp]
/-! both, safe, rule -/
/-- k ticks of one kind and heat -/
def ovS (kd_ q : Int32) (D : Nat → Int32) : Nat → Nat → Int32
  | 0 => D
  | k + 1 => tickS kd_ q (ovS kd_ q D k)
theorem wf_ov {k n : Nat} {kd_ q : Int32} {D : Nat → Int32} (h : wfD D n) (hq : qR q) : wfD (ovS kd_ q D k) n := by
  induction k with
  | zero => exact h
  | succ k ih => exact wf_tick ih hq
theorem ov_lo {k n : Nat} {kd_ q : Int32} {D : Nat → Int32} {p : Nat} (h : wfD D n) (hq : qR q) (hp : p < 41 ∨ 112 ≤ p) : ovS kd_ q D k p = D p := by
  induction k with
  | zero => rfl
  | succ k ih =>
    show tickS kd_ q (ovS kd_ q D k) p = D p
    rcases hp with h1 | h1
    · rw [tickS_lo (by omega), ih]
    · rw [tickS_far (wf_ov h hq).1 h1, ih]
def boF (f g : Nat → Int32) (v w : Int32) : Nat → Int32 × Int32
  | 0 => (-iN 9, iN 0)
  | k + 1 => if f (1 + k) < v then boF f g v w k else if w < g (1 + k) then boF f g v w k else (if (boF f g v w k).1 = -iN 9 then iN (1 + k) else (boF f g v w k).1, (boF f g v w k).2 + iN 1)
def boA (f g : Nat → Int32) (v w : Int32) (j : Nat) : Int32 × Int32 := boF f g v w (j - 1)
theorem boA_s {f g : Nat → Int32} {v w : Int32} {j : Nat} (h : 1 ≤ j) : boA f g v w (j + 1) = if f j < v then boA f g v w j else if w < g j then boA f g v w j else (if (boA f g v w j).1 = -iN 9 then iN j else (boA f g v w j).1, (boA f g v w j).2 + iN 1) := by
  unfold boA
  rw [show j + 1 - 1 = j - 1 + 1 by omega]
  show (if f (1 + (j - 1)) < v then boF f g v w (j - 1) else if w < g (1 + (j - 1)) then boF f g v w (j - 1) else (if (boF f g v w (j - 1)).1 = -iN 9 then iN (1 + (j - 1)) else (boF f g v w (j - 1)).1, (boF f g v w (j - 1)).2 + iN 1)) = _
  rw [show 1 + (j - 1) = j by omega]
theorem boF_b {f g : Nat → Int32} {v w : Int32} (k : Nat) (hk : k ≤ 1000) : ∃ c, c ≤ k ∧ (boF f g v w k).2 = iN c ∧ ((c = 0 ∧ (boF f g v w k).1 = -iN 9) ∨ (1 ≤ c ∧ ∃ b, b ≤ k ∧ (boF f g v w k).1 = iN b)) := by
  induction k with
  | zero => exact ⟨0, by omega, rfl, Or.inl ⟨rfl, rfl⟩⟩
  | succ k ih =>
    obtain ⟨c, h1, h2, h3⟩ := ih (by omega)
    have keep : ∃ c, c ≤ k + 1 ∧ (boF f g v w k).2 = iN c ∧ ((c = 0 ∧ (boF f g v w k).1 = -iN 9) ∨ (1 ≤ c ∧ ∃ b, b ≤ k + 1 ∧ (boF f g v w k).1 = iN b)) := by
      refine ⟨c, by omega, h2, ?_⟩
      rcases h3 with h3 | ⟨h3, b, h4, h5⟩
      · exact Or.inl h3
      · exact Or.inr ⟨h3, b, by omega, h5⟩
    unfold boF
    split
    · exact keep
    · split
      · exact keep
      · refine ⟨c + 1, by omega, by show (boF f g v w k).2 + iN 1 = _; rw [h2, iN_add], Or.inr ⟨by omega, ?_⟩⟩
        rcases h3 with ⟨h3, h4⟩ | ⟨h3, b, h4, h5⟩
        · exact ⟨1 + k, by omega, if_pos h4⟩
        · refine ⟨b, by omega, ?_⟩
          show (if (boF f g v w k).1 = -iN 9 then iN (1 + k) else (boF f g v w k).1) = iN b
          rw [if_neg (by rw [h5]; exact of_eq_false (N_m9 (by omega))), h5]
/-! safe, rule -/
def safG (w : Int32) : Int32 := if w ≤ iN 500 then iN 0 else (w - iN 500) / iN 10
theorem safG_c {w : Int32} (h : 0 ≤ w.toInt) (h2 : w.toInt ≤ 3000) : mx (w - iN 500) (iN 0) / iN 10 = safG w := by
  have e1 : (w - iN 500).toInt = w.toInt - 500 := t_sub (by rw [li (by omega)]; omega) (by rw [li (by omega)]; omega)
  unfold safG
  by_cases c : w ≤ iN 500
  · rw [if_pos c]
    have c2 := t_le.mp c
    rw [li (by omega)] at c2
    have e2 : mx (w - iN 500) (iN 0) = iN 0 := by
      rw [t_eq, mx_t, e1, li (by omega)]
      split <;> omega
    rw [e2]
    rfl
  · rw [if_neg c]
    have c2 : ¬ w.toInt ≤ (iN 500).toInt := fun e => c (t_le.mpr e)
    rw [li (by omega)] at c2
    have e2 : mx (w - iN 500) (iN 0) = w - iN 500 := by
      rw [t_eq, mx_t, e1, li (by omega)]
      split <;> omega
    rw [e2]
def safT (g : Nat → Int32) : Nat → Int32
  | 0 => iN 0
  | k + 1 => safT g k + g (k + 1)
def trS (q t v : Int32) (X : Nat → Int32) (j : Nat) : Int32 := if tillS q t v (bgS (up X 0 (iN j))) = -iN 9 then iN 200 else tillS q t v (bgS (up X 0 (iN j)))
theorem tr_N (q t v : Int32) (X : Nat → Int32) (j : Nat) : ∃ i, 1 ≤ i ∧ i ≤ 200 ∧ trS q t v X j = iN i := by
  unfold trS
  rcases till_r q t v (bgS (up X 0 (iN j))) with e | ⟨i, h1, h2, e⟩
  · rw [if_pos e]
    exact ⟨200, by omega, by omega, rfl⟩
  · rw [e, if_neg (of_eq_false (N_m9 (by omega)))]
    exact ⟨i, h1, h2, rfl⟩
/-! most: the class goes on tick by tick, the reference anew for each; the best of the same candidates -/
def tuN (i : Nat) : Nat := if i = 0 then 1 else if i = 1 then 2 else if i = 2 then 4 else if i = 3 then 8 else 40
theorem sTU_N {i : Nat} (h : i < 5) : sTU i = iN (tuN i) := by
  have : i = 0 ∨ i = 1 ∨ i = 2 ∨ i = 3 ∨ i = 4 := by omega
  rcases this with rfl | rfl | rfl | rfl | rfl <;> rfl
theorem tuN_r (i : Nat) : 1 ≤ tuN i ∧ tuN i ≤ 40 := by
  unfold tuN
  split
  · omega
  · split
    · omega
    · split
      · omega
      · split <;> omega
theorem tuN_lt {i j : Nat} (h : i < j) (hj : j < 5) : tuN i < tuN j := by
  have hj' : j = 1 ∨ j = 2 ∨ j = 3 ∨ j = 4 := by omega
  have hi' : i = 0 ∨ i = 1 ∨ i = 2 ∨ i = 3 := by omega
  rcases hj' with rfl | rfl | rfl | rfl <;> rcases hi' with rfl | rfl | rfl | rfl <;> first | decide | omega
def toldN (q i n : Nat) : Nat := 10000 * q + 100 * n + tuN i
/-- the best of the candidates told by P: many depths, of alike ones the least number; ok: it counts -/
def Best (ok : Nat → Nat → Nat → Prop) (so : Nat → Nat → Nat → Nat) (P : Nat → Nat → Nat → Prop) (s : Int32 × Int32) : Prop :=
  (s = (-iN 9, -iN 1) ∧ ∀ q i n, P q i n → ¬ ok q i n) ∨
  (∃ q i n, P q i n ∧ ok q i n ∧ q ≤ 30 ∧ n ≤ 80 ∧ s = (iN (toldN q i n), iN (so q i n)) ∧ ∀ q' i' n', P q' i' n' → ok q' i' n' → so q' i' n' < so q i n ∨ (so q' i' n' = so q i n ∧ toldN q i n ≤ toldN q' i' n'))
theorem Best_u {ok : Nat → Nat → Nat → Prop} {so : Nat → Nat → Nat → Nat} {P : Nat → Nat → Nat → Prop} {s s' : Int32 × Int32} (h : Best ok so P s) (h' : Best ok so P s') : s = s' := by
  rcases h with ⟨h1, h2⟩ | ⟨q, i, n, h1, h2, h3, h4, h5, h6⟩
  · rcases h' with ⟨g1, g2⟩ | ⟨q', i', n', g1, g2, g3⟩
    · rw [h1, g1]
    · exact absurd g2 (h2 _ _ _ g1)
  · rcases h' with ⟨g1, g2⟩ | ⟨q', i', n', g1, g2, g3, g4, g5, g6⟩
    · exact absurd h2 (g2 _ _ _ h1)
    · have a := h6 _ _ _ g1 g2
      have b := g6 _ _ _ h1 h2
      have e1 : so q i n = so q' i' n' := by omega
      have e2 : toldN q i n = toldN q' i' n' := by omega
      rw [h5, g5, e1, e2]
theorem Best_iff {ok : Nat → Nat → Nat → Prop} {so : Nat → Nat → Nat → Nat} {P P' : Nat → Nat → Nat → Prop} {s : Int32 × Int32} (h : Best ok so P s) (e : ∀ q i n, P' q i n ↔ P q i n) : Best ok so P' s := by
  rcases h with ⟨h1, h2⟩ | ⟨q, i, n, h1, h2, h3, h4, h5, h6⟩
  · exact Or.inl ⟨h1, fun q i n hp => h2 q i n ((e q i n).mp hp)⟩
  · exact Or.inr ⟨q, i, n, (e q i n).mpr h1, h2, h3, h4, h5, fun q' i' n' hp => h6 q' i' n' ((e q' i' n').mp hp)⟩
/-- one more that doesn't count -/
theorem Best_no {ok : Nat → Nat → Nat → Prop} {so : Nat → Nat → Nat → Nat} {P P' : Nat → Nat → Nat → Prop} {s : Int32 × Int32} {q0 i0 n0 : Nat} (h : Best ok so P s) (e : ∀ q i n, P' q i n ↔ P q i n ∨ (q = q0 ∧ i = i0 ∧ n = n0)) (hno : ¬ ok q0 i0 n0) : Best ok so P' s := by
  rcases h with ⟨h1, h2⟩ | ⟨q, i, n, h1, h2, h3, h4, h5, h6⟩
  · refine Or.inl ⟨h1, fun q i n hp => ?_⟩
    rcases (e q i n).mp hp with hp | ⟨rfl, rfl, rfl⟩
    · exact h2 q i n hp
    · exact hno
  · refine Or.inr ⟨q, i, n, (e q i n).mpr (Or.inl h1), h2, h3, h4, h5, fun q' i' n' hp ho => ?_⟩
    rcases (e q' i' n').mp hp with hp | ⟨rfl, rfl, rfl⟩
    · exact h6 q' i' n' hp ho
    · exact absurd ho hno
/-- one more that is no better -/
theorem Best_keep {ok : Nat → Nat → Nat → Prop} {so : Nat → Nat → Nat → Nat} {P P' : Nat → Nat → Nat → Prop} {q0 i0 n0 q i n : Nat} (h1 : P q i n) (h2 : ok q i n) (h3 : q ≤ 30) (h4 : n ≤ 80) (h6 : ∀ q' i' n', P q' i' n' → ok q' i' n' → so q' i' n' < so q i n ∨ (so q' i' n' = so q i n ∧ toldN q i n ≤ toldN q' i' n')) (e : ∀ q i n, P' q i n ↔ P q i n ∨ (q = q0 ∧ i = i0 ∧ n = n0)) (hw : so q0 i0 n0 < so q i n ∨ (so q0 i0 n0 = so q i n ∧ toldN q i n ≤ toldN q0 i0 n0)) : Best ok so P' (iN (toldN q i n), iN (so q i n)) := by
  refine Or.inr ⟨q, i, n, (e q i n).mpr (Or.inl h1), h2, h3, h4, rfl, fun q' i' n' hp ho => ?_⟩
  rcases (e q' i' n').mp hp with hp | ⟨rfl, rfl, rfl⟩
  · exact h6 q' i' n' hp ho
  · exact hw
/-- one more that is better -/
theorem Best_new {ok : Nat → Nat → Nat → Prop} {so : Nat → Nat → Nat → Nat} {P P' : Nat → Nat → Nat → Prop} {s : Int32 × Int32} {q0 i0 n0 : Nat} (h : Best ok so P s) (e : ∀ q i n, P' q i n ↔ P q i n ∨ (q = q0 ∧ i = i0 ∧ n = n0)) (hok : ok q0 i0 n0) (hq : q0 ≤ 30) (hn : n0 ≤ 80)
    (hb : ∀ q i n, P q i n → ok q i n → s = (iN (toldN q i n), iN (so q i n)) → so q i n < so q0 i0 n0 ∨ (so q i n = so q0 i0 n0 ∧ toldN q0 i0 n0 ≤ toldN q i n)) : Best ok so P' (iN (toldN q0 i0 n0), iN (so q0 i0 n0)) := by
  refine Or.inr ⟨q0, i0, n0, (e q0 i0 n0).mpr (Or.inr ⟨rfl, rfl, rfl⟩), hok, hq, hn, rfl, fun q' i' n' hp ho => ?_⟩
  rcases (e q' i' n').mp hp with hp | ⟨rfl, rfl, rfl⟩
  · rcases h with ⟨h1, h2⟩ | ⟨q, i, n, h1, h2, h3, h4, h5, h6⟩
    · exact absurd ho (h2 _ _ _ hp)
    · have a := hb q i n h1 h2 h5
      have b := h6 q' i' n' hp ho
      omega
  · exact Or.inr ⟨rfl, Nat.le_refl _⟩
theorem toldN_b {q i n : Nat} (hq : q ≤ 30) (hn : n ≤ 80) : toldN q i n ≤ 400000 := by
  have := tuN_r i
  unfold toldN
  omega
/-- the class's step: whichever order -/
theorem Best_c {ok : Nat → Nat → Nat → Prop} {so : Nat → Nat → Nat → Nat} {P P' : Nat → Nat → Nat → Prop} {x y : Int32} {q0 i0 n0 : Nat} (h : Best ok so P (x, y)) (e : ∀ q i n, P' q i n ↔ P q i n ∨ (q = q0 ∧ i = i0 ∧ n = n0)) (hok : ok q0 i0 n0) (hq : q0 ≤ 30) (hn : n0 ≤ 80) (hs : ∀ q i n, so q i n ≤ 20) :
    Best ok so P' (if y < iN (so q0 i0 n0) then (iN (toldN q0 i0 n0), iN (so q0 i0 n0)) else if iN (so q0 i0 n0) = y then (if x ≤ iN (toldN q0 i0 n0) then (x, y) else (iN (toldN q0 i0 n0), iN (so q0 i0 n0))) else (x, y)) := by
  have hs0 := hs q0 i0 n0
  have ht0 := toldN_b (i := i0) hq hn
  have hh := h
  rcases h with ⟨h1, h2⟩ | ⟨q, i, n, h1, h2, h3, h4, h5, h6⟩
  · injection h1 with hx hy
    subst hx hy
    rw [if_pos (t_lt.mpr (by rw [li (by omega), show (-iN 1).toInt = -1 from by decide]; omega))]
    refine Best_new hh e hok hq hn (fun q i n hp ho hs' => absurd ho (h2 _ _ _ hp))
  · injection h5 with hx hy
    subst hx hy
    have hs1 := hs q i n
    have ht1 := toldN_b (i := i) h3 h4
    by_cases c : so q i n < so q0 i0 n0
    · rw [if_pos ((iN_lt (by omega) (by omega)).mpr c)]
      refine Best_new hh e hok hq hn (fun q' i' n' hp ho hs' => Or.inl ?_)
      injection hs' with hx' hy'
      have := (iN_inj (by have := hs q i n; omega) (by have := hs q' i' n'; omega)).mp hy'
      omega
    · rw [if_neg (fun z => c ((iN_lt (by omega) (by omega)).mp z))]
      by_cases c2 : so q0 i0 n0 = so q i n
      · rw [if_pos (by rw [c2])]
        by_cases c3 : toldN q i n ≤ toldN q0 i0 n0
        · rw [if_pos ((iN_le (by omega) (by omega)).mpr c3)]
          exact Best_keep h1 h2 h3 h4 h6 e (Or.inr ⟨c2, c3⟩)
        · rw [if_neg (fun z => c3 ((iN_le (by omega) (by omega)).mp z))]
          refine Best_new hh e hok hq hn (fun q' i' n' hp ho hs' => ?_)
          injection hs' with hx' hy'
          have e1 := (iN_inj (by have := hs q i n; omega) (by have := hs q' i' n'; omega)).mp hy'
          right
          have e2 : iN (toldN q i n) = iN (toldN q' i' n') := hx'
          have a := h6 q' i' n' hp ho
          omega
      · rw [if_neg (fun z => c2 ((iN_inj (by omega) (by omega)).mp z))]
        exact Best_keep h1 h2 h3 h4 h6 e (Or.inl (by omega))
/-- the reference's step: those before have lesser numbers -/
theorem Best_m {ok : Nat → Nat → Nat → Prop} {so : Nat → Nat → Nat → Nat} {P P' : Nat → Nat → Nat → Prop} {x y : Int32} {q0 i0 n0 : Nat} (h : Best ok so P (x, y)) (e : ∀ q i n, P' q i n ↔ P q i n ∨ (q = q0 ∧ i = i0 ∧ n = n0)) (hok : ok q0 i0 n0) (hq : q0 ≤ 30) (hn : n0 ≤ 80) (hs : ∀ q i n, so q i n ≤ 20) (hlt : ∀ q i n, P q i n → toldN q i n < toldN q0 i0 n0) :
    Best ok so P' (if iN (so q0 i0 n0) ≤ y then (x, y) else (iN (toldN q0 i0 n0), iN (so q0 i0 n0))) := by
  have hs0 := hs q0 i0 n0
  have hh := h
  rcases h with ⟨h1, h2⟩ | ⟨q, i, n, h1, h2, h3, h4, h5, h6⟩
  · injection h1 with hx hy
    subst hx hy
    rw [if_neg (N_m1 (by omega))]
    exact Best_new hh e hok hq hn (fun q i n hp ho hs' => absurd ho (h2 _ _ _ hp))
  · injection h5 with hx hy
    subst hx hy
    have hs1 := hs q i n
    have hl := hlt q i n h1
    by_cases c : so q0 i0 n0 ≤ so q i n
    · rw [if_pos ((iN_le (by omega) (by omega)).mpr c)]
      exact Best_keep h1 h2 h3 h4 h6 e (by omega)
    · rw [if_neg (fun z => c ((iN_le (by omega) (by omega)).mp z))]
      refine Best_new hh e hok hq hn (fun q' i' n' hp ho hs' => Or.inl ?_)
      injection hs' with hx' hy'
      have := (iN_inj (by have := hs q i n; omega) (by have := hs q' i' n'; omega)).mp hy'
      omega
/-- loops by steps -/
theorem loop_st {σ ρ : Type} (L : Nat → Int32 → σ → Option ρ) (I : Nat → σ → Prop) (Q : ρ → Prop) (a d b : Nat)
    (step : ∀ n k s, k < b → I k s → ∃ s', I (k + 1) s' ∧ L (n + 1) (iN (a + d * k)) s = L n (iN (a + d * (k + 1))) s')
    (done : ∀ n s, I b s → ∃ r, L (n + 1) (iN (a + d * b)) s = some r ∧ Q r) {n : Nat} (hn : b < n) {s : σ} (hs : I 0 s) : ∃ r, L n (iN a) s = some r ∧ Q r := by
  have key : ∀ (e k n : Nat) (s : σ), k + e = b → e < n → I k s → ∃ r, L n (iN (a + d * k)) s = some r ∧ Q r := by
    intro e
    induction e with
    | zero =>
      intro k n s h1 h2 h3
      obtain ⟨n, rfl⟩ : ∃ m, n = m + 1 := ⟨n - 1, by omega⟩
      have : k = b := by omega
      subst this
      exact done n s h3
    | succ e ih =>
      intro k n s h1 h2 h3
      obtain ⟨n, rfl⟩ : ∃ m, n = m + 1 := ⟨n - 1, by omega⟩
      obtain ⟨s', h4, h5⟩ := step n k s (by omega) h3
      rw [h5]
      exact ih (k + 1) n s' (by omega) (by omega) h4
  have := key b 0 n s (by omega) hn hs
  rw [show a + d * 0 = a by omega] at this
  exact this
/-! most: the loops -/
def Ful (q i n : Nat) : Prop := q % 2 = 0 ∧ 14 ≤ q ∧ q ≤ 30 ∧ i < 5 ∧ n % 4 = 0 ∧ 4 ≤ n ∧ n ≤ 80
def PC (k i n : Nat) (q' i' n' : Nat) : Prop := Ful q' i' n' ∧ (q' < 14 + 2 * k ∨ (q' = 14 + 2 * k ∧ (i' < i ∨ (i' = i ∧ n' ≤ n))))
def PM (k m i : Nat) (q' i' n' : Nat) : Prop := Ful q' i' n' ∧ (q' < 14 + 2 * k ∨ (q' = 14 + 2 * k ∧ (n' < 4 + 4 * m ∨ (n' = 4 + 4 * m ∧ i' < i))))
def dishS (X : Nat → Int32) (q i n : Nat) : Nat → Int32 := wayS (iN q) (iN (tuN i)) (bgS X) n
def okS (X : Nat → Int32) (v : Int32) (q i n : Nat) : Prop := ¬ crustS (dishS X q i n) < v
def soS (X : Nat → Int32) (a b : Int32) (q i n : Nat) : Nat := ix (justS a b (dishS X q i n))
theorem soS_N {X : Nat → Int32} {n0 : Nat} (hs : okN X n0) (a b : Int32) (q i n : Nat) : justS a b (dishS X q i n) = iN (soS X a b q i n) ∧ soS X a b q i n ≤ 20 := by
  obtain ⟨z, h1, h2⟩ := just_N a b (okN_way (k := n) (q := iN q) (t := iN (tuN i)) (okN_bg hs))
  have h2 : justS a b (dishS X q i n) = iN z := h2
  unfold soS
  rw [h2, ix_iN (by omega)]
  exact ⟨rfl, h1⟩
theorem toldN_lt {q i n q' i' n' : Nat} (h : Ful q i n) (h' : Ful q' i' n') (hl : q < q' ∨ (q = q' ∧ (n < n' ∨ (n = n' ∧ i < i')))) : toldN q i n < toldN q' i' n' := by
  have a := tuN_r i
  have b := tuN_r i'
  obtain ⟨h1, h2, h3, h4, h5, h6, h7⟩ := h
  obtain ⟨g1, g2, g3, g4, g5, g6, g7⟩ := h'
  unfold toldN
  rcases hl with hl | ⟨rfl, hl | ⟨rfl, hl⟩⟩
  · omega
  · omega
  · have := tuN_lt hl g4
    omega

/-! both, safe, rule -/
/-- k ticks of one kind and heat -/
def ovS (kd_ q : Int32) (D : Nat → Int32) : Nat → Nat → Int32
  | 0 => D
  | k + 1 => tickS kd_ q (ovS kd_ q D k)
theorem wf_ov {k n : Nat} {kd_ q : Int32} {D : Nat → Int32} (h : wfD D n) (hq : qR q) : wfD (ovS kd_ q D k) n := by
  induction k with
  | zero => exact h
  | succ k ih => exact wf_tick ih hq
theorem ov_lo {k n : Nat} {kd_ q : Int32} {D : Nat → Int32} {p : Nat} (h : wfD D n) (hq : qR q) (hp : p < 41 ∨ 112 ≤ p) : ovS kd_ q D k p = D p := by
  induction k with
  | zero => rfl
  | succ k ih =>
    show tickS kd_ q (ovS kd_ q D k) p = D p
    rcases hp with h1 | h1
    · rw [tickS_lo (by omega), ih]
    · rw [tickS_far (wf_ov h hq).1 h1, ih]
def boF (f g : Nat → Int32) (v w : Int32) : Nat → Int32 × Int32
  | 0 => (-iN 9, iN 0)
  | k + 1 => if f (1 + k) < v then boF f g v w k else if w < g (1 + k) then boF f g v w k else (if (boF f g v w k).1 = -iN 9 then iN (1 + k) else (boF f g v w k).1, (boF f g v w k).2 + iN 1)
def boA (f g : Nat → Int32) (v w : Int32) (j : Nat) : Int32 × Int32 := boF f g v w (j - 1)
theorem boA_s {f g : Nat → Int32} {v w : Int32} {j : Nat} (h : 1 ≤ j) : boA f g v w (j + 1) = if f j < v then boA f g v w j else if w < g j then boA f g v w j else (if (boA f g v w j).1 = -iN 9 then iN j else (boA f g v w j).1, (boA f g v w j).2 + iN 1) := by
  unfold boA
  rw [show j + 1 - 1 = j - 1 + 1 by omega]
  show (if f (1 + (j - 1)) < v then boF f g v w (j - 1) else if w < g (1 + (j - 1)) then boF f g v w (j - 1) else (if (boF f g v w (j - 1)).1 = -iN 9 then iN (1 + (j - 1)) else (boF f g v w (j - 1)).1, (boF f g v w (j - 1)).2 + iN 1)) = _
  rw [show 1 + (j - 1) = j by omega]
theorem boF_b {f g : Nat → Int32} {v w : Int32} (k : Nat) (hk : k ≤ 1000) : ∃ c, c ≤ k ∧ (boF f g v w k).2 = iN c ∧ ((c = 0 ∧ (boF f g v w k).1 = -iN 9) ∨ (1 ≤ c ∧ ∃ b, b ≤ k ∧ (boF f g v w k).1 = iN b)) := by
  induction k with
  | zero => exact ⟨0, by omega, rfl, Or.inl ⟨rfl, rfl⟩⟩
  | succ k ih =>
    obtain ⟨c, h1, h2, h3⟩ := ih (by omega)
    have keep : ∃ c, c ≤ k + 1 ∧ (boF f g v w k).2 = iN c ∧ ((c = 0 ∧ (boF f g v w k).1 = -iN 9) ∨ (1 ≤ c ∧ ∃ b, b ≤ k + 1 ∧ (boF f g v w k).1 = iN b)) := by
      refine ⟨c, by omega, h2, ?_⟩
      rcases h3 with h3 | ⟨h3, b, h4, h5⟩
      · exact Or.inl h3
      · exact Or.inr ⟨h3, b, by omega, h5⟩
    unfold boF
    split
    · exact keep
    · split
      · exact keep
      · refine ⟨c + 1, by omega, by show (boF f g v w k).2 + iN 1 = _; rw [h2, iN_add], Or.inr ⟨by omega, ?_⟩⟩
        rcases h3 with ⟨h3, h4⟩ | ⟨h3, b, h4, h5⟩
        · exact ⟨1 + k, by omega, if_pos h4⟩
        · refine ⟨b, by omega, ?_⟩
          show (if (boF f g v w k).1 = -iN 9 then iN (1 + k) else (boF f g v w k).1) = iN b
          rw [if_neg (by rw [h5]; exact of_eq_false (N_m9 (by omega))), h5]
theorem op_both (a1 a2 a3 a4 a5 : Int32) {G : G_} (h : RR G) : pOK (f_X7_both a1 a2 a3 a4 a5) (f_X8_both a1 a2 a3 a4 a5) G := by
  rcases slab_cases a1 G with ⟨e1, c1⟩ | ⟨k, hk, rfl, e1, c1, ho⟩
  · refine pOK_same (x := -iN 1) h ?_ (by unfold f_X8_both; rw [place8, bj1_s]; exact if_pos e1)
    rcases slab_cases a2 G with ⟨e2, c2⟩ | ⟨l, hl, rfl, e2, c2, ho2⟩ <;> (unfold f_X7_both; rw [c1, bj1_s, c2, bj1_s]; rfl)
  · rcases slab_cases a2 G with ⟨e2, c2⟩ | ⟨l, hl, rfl, e2, c2, ho2⟩
    · refine pOK_same (x := -iN 1) h (by unfold f_X7_both; simp (maxSteps := 4000000) (disch := omega) only [chk_t, beq_self_eq_true, nm_s, bj1_s, bj2_s, bj3_s, mo_1, mo_0, l_0, l_1, l_2, l_3, l_4, l_5, l_6, l_7, l_8, l_9, l_10, l_11, l_12, l_13, l_14, l_15, l_16, l_17, l_18, l_19, l_20, l_21, l_30, l_31, l_32, l_36, l_40, l_41, l_42, l_43, l_44, l_45, l_46, l_47, l_48, l_49, l_50, l_51, l_52, l_57, l_58, l_60, l_64, l_72, l_80, l_92, l_98, l_99, l_100, l_102, l_105, l_111, l_112, l_114, l_115, l_116, l_117, l_120, l_144, l_200, l_201, l_240, l_300, l_320, l_400, l_500, l_550, l_560, l_649, l_650, l_1000, l_1400, l_2000, l_4000, l_10000, iN_add, iN_sub, iN_mul, iN_le_t, iN_le_f, iN_lt_t, iN_lt_f, iN_eq_f, inb_iN, ix_iN, isZ_0, isZ_1, ↓reduceIte, eq_self, c1, c2, kd_b ho]) (by unfold f_X8_both; simp (maxSteps := 4000000) (disch := omega) only [chk_t, beq_self_eq_true, nm_s, bj1_s, bj2_s, bj3_s, mo_1, mo_0, l_0, l_1, l_2, l_3, l_4, l_5, l_6, l_7, l_8, l_9, l_10, l_11, l_12, l_13, l_14, l_15, l_16, l_17, l_18, l_19, l_20, l_21, l_30, l_31, l_32, l_36, l_40, l_41, l_42, l_43, l_44, l_45, l_46, l_47, l_48, l_49, l_50, l_51, l_52, l_57, l_58, l_60, l_64, l_72, l_80, l_92, l_98, l_99, l_100, l_102, l_105, l_111, l_112, l_114, l_115, l_116, l_117, l_120, l_144, l_200, l_201, l_240, l_300, l_320, l_400, l_500, l_550, l_560, l_649, l_650, l_1000, l_1400, l_2000, l_4000, l_10000, iN_add, iN_sub, iN_mul, iN_le_t, iN_le_f, iN_lt_t, iN_lt_f, iN_eq_f, inb_iN, ix_iN, isZ_0, isZ_1, ↓reduceIte, eq_self, place8, e1, e2])
    · rcases heat_N a3 with ⟨w7, w8⟩ | ⟨w7, w8, q, rfl, hq1, hq2⟩
      · refine pOK_same (x := -iN 1) h (by unfold f_X7_both; simp (maxSteps := 4000000) (disch := omega) only [chk_t, beq_self_eq_true, nm_s, bj1_s, bj2_s, bj3_s, mo_1, mo_0, l_0, l_1, l_2, l_3, l_4, l_5, l_6, l_7, l_8, l_9, l_10, l_11, l_12, l_13, l_14, l_15, l_16, l_17, l_18, l_19, l_20, l_21, l_30, l_31, l_32, l_36, l_40, l_41, l_42, l_43, l_44, l_45, l_46, l_47, l_48, l_49, l_50, l_51, l_52, l_57, l_58, l_60, l_64, l_72, l_80, l_92, l_98, l_99, l_100, l_102, l_105, l_111, l_112, l_114, l_115, l_116, l_117, l_120, l_144, l_200, l_201, l_240, l_300, l_320, l_400, l_500, l_550, l_560, l_649, l_650, l_1000, l_1400, l_2000, l_4000, l_10000, iN_add, iN_sub, iN_mul, iN_le_t, iN_le_f, iN_lt_t, iN_lt_f, iN_eq_f, inb_iN, ix_iN, isZ_0, isZ_1, ↓reduceIte, eq_self, c1, c2, kd_b ho, kd_b ho2, w7]) (by unfold f_X8_both; simp (maxSteps := 4000000) (disch := omega) only [chk_t, beq_self_eq_true, nm_s, bj1_s, bj2_s, bj3_s, mo_1, mo_0, l_0, l_1, l_2, l_3, l_4, l_5, l_6, l_7, l_8, l_9, l_10, l_11, l_12, l_13, l_14, l_15, l_16, l_17, l_18, l_19, l_20, l_21, l_30, l_31, l_32, l_36, l_40, l_41, l_42, l_43, l_44, l_45, l_46, l_47, l_48, l_49, l_50, l_51, l_52, l_57, l_58, l_60, l_64, l_72, l_80, l_92, l_98, l_99, l_100, l_102, l_105, l_111, l_112, l_114, l_115, l_116, l_117, l_120, l_144, l_200, l_201, l_240, l_300, l_320, l_400, l_500, l_550, l_560, l_649, l_650, l_1000, l_1400, l_2000, l_4000, l_10000, iN_add, iN_sub, iN_mul, iN_le_t, iN_le_f, iN_lt_t, iN_lt_f, iN_eq_f, inb_iN, ix_iN, isZ_0, isZ_1, ↓reduceIte, eq_self, place8, e1, e2, w8])
      · rcases warm_N a4 with ⟨v7, v8⟩ | ⟨v7, v8, v, rfl, hv⟩
        · refine pOK_same (x := -iN 1) h (by unfold f_X7_both; simp (maxSteps := 4000000) (disch := omega) only [chk_t, beq_self_eq_true, nm_s, bj1_s, bj2_s, bj3_s, mo_1, mo_0, l_0, l_1, l_2, l_3, l_4, l_5, l_6, l_7, l_8, l_9, l_10, l_11, l_12, l_13, l_14, l_15, l_16, l_17, l_18, l_19, l_20, l_21, l_30, l_31, l_32, l_36, l_40, l_41, l_42, l_43, l_44, l_45, l_46, l_47, l_48, l_49, l_50, l_51, l_52, l_57, l_58, l_60, l_64, l_72, l_80, l_92, l_98, l_99, l_100, l_102, l_105, l_111, l_112, l_114, l_115, l_116, l_117, l_120, l_144, l_200, l_201, l_240, l_300, l_320, l_400, l_500, l_550, l_560, l_649, l_650, l_1000, l_1400, l_2000, l_4000, l_10000, iN_add, iN_sub, iN_mul, iN_le_t, iN_le_f, iN_lt_t, iN_lt_f, iN_eq_f, inb_iN, ix_iN, isZ_0, isZ_1, ↓reduceIte, eq_self, c1, c2, kd_b ho, kd_b ho2, w7, v7]) (by unfold f_X8_both; simp (maxSteps := 4000000) (disch := omega) only [chk_t, beq_self_eq_true, nm_s, bj1_s, bj2_s, bj3_s, mo_1, mo_0, l_0, l_1, l_2, l_3, l_4, l_5, l_6, l_7, l_8, l_9, l_10, l_11, l_12, l_13, l_14, l_15, l_16, l_17, l_18, l_19, l_20, l_21, l_30, l_31, l_32, l_36, l_40, l_41, l_42, l_43, l_44, l_45, l_46, l_47, l_48, l_49, l_50, l_51, l_52, l_57, l_58, l_60, l_64, l_72, l_80, l_92, l_98, l_99, l_100, l_102, l_105, l_111, l_112, l_114, l_115, l_116, l_117, l_120, l_144, l_200, l_201, l_240, l_300, l_320, l_400, l_500, l_550, l_560, l_649, l_650, l_1000, l_1400, l_2000, l_4000, l_10000, iN_add, iN_sub, iN_mul, iN_le_t, iN_le_f, iN_lt_t, iN_lt_f, iN_eq_f, inb_iN, ix_iN, isZ_0, isZ_1, ↓reduceIte, eq_self, place8, e1, e2, w8, v8])
        · rcases warm_N a5 with ⟨u7, u8⟩ | ⟨u7, u8, u, rfl, hu⟩
          · refine pOK_same (x := -iN 1) h (by unfold f_X7_both; simp (maxSteps := 4000000) (disch := omega) only [chk_t, beq_self_eq_true, nm_s, bj1_s, bj2_s, bj3_s, mo_1, mo_0, l_0, l_1, l_2, l_3, l_4, l_5, l_6, l_7, l_8, l_9, l_10, l_11, l_12, l_13, l_14, l_15, l_16, l_17, l_18, l_19, l_20, l_21, l_30, l_31, l_32, l_36, l_40, l_41, l_42, l_43, l_44, l_45, l_46, l_47, l_48, l_49, l_50, l_51, l_52, l_57, l_58, l_60, l_64, l_72, l_80, l_92, l_98, l_99, l_100, l_102, l_105, l_111, l_112, l_114, l_115, l_116, l_117, l_120, l_144, l_200, l_201, l_240, l_300, l_320, l_400, l_500, l_550, l_560, l_649, l_650, l_1000, l_1400, l_2000, l_4000, l_10000, iN_add, iN_sub, iN_mul, iN_le_t, iN_le_f, iN_lt_t, iN_lt_f, iN_eq_f, inb_iN, ix_iN, isZ_0, isZ_1, ↓reduceIte, eq_self, c1, c2, kd_b ho, kd_b ho2, w7, v7, u7]) (by unfold f_X8_both; simp (maxSteps := 4000000) (disch := omega) only [chk_t, beq_self_eq_true, nm_s, bj1_s, bj2_s, bj3_s, mo_1, mo_0, l_0, l_1, l_2, l_3, l_4, l_5, l_6, l_7, l_8, l_9, l_10, l_11, l_12, l_13, l_14, l_15, l_16, l_17, l_18, l_19, l_20, l_21, l_30, l_31, l_32, l_36, l_40, l_41, l_42, l_43, l_44, l_45, l_46, l_47, l_48, l_49, l_50, l_51, l_52, l_57, l_58, l_60, l_64, l_72, l_80, l_92, l_98, l_99, l_100, l_102, l_105, l_111, l_112, l_114, l_115, l_116, l_117, l_120, l_144, l_200, l_201, l_240, l_300, l_320, l_400, l_500, l_550, l_560, l_649, l_650, l_1000, l_1400, l_2000, l_4000, l_10000, iN_add, iN_sub, iN_mul, iN_le_t, iN_le_f, iN_lt_t, iN_lt_f, iN_eq_f, inb_iN, ix_iN, isZ_0, isZ_1, ↓reduceIte, eq_self, place8, e1, e2, w8, v8, u8])
          · obtain ⟨r1, r2, r3⟩ := h.1.2.2.1 k hk
            obtain ⟨t1, t2, t3⟩ := h.1.2.2.1 l hl
            rcases r2 with r2 | ⟨r2, n, hsl⟩
            · refine pOK_found (f := 1) (by omega) h ?_ ?_
              · unfold f_X7_both
                simp (maxSteps := 4000000) (disch := omega) only [chk_t, beq_self_eq_true, nm_s, bj1_s, bj2_s, bj3_s, mo_1, mo_0, l_0, l_1, l_2, l_3, l_4, l_5, l_6, l_7, l_8, l_9, l_10, l_11, l_12, l_13, l_14, l_15, l_16, l_17, l_18, l_19, l_20, l_21, l_30, l_31, l_32, l_36, l_40, l_41, l_42, l_43, l_44, l_45, l_46, l_47, l_48, l_49, l_50, l_51, l_52, l_57, l_58, l_60, l_64, l_72, l_80, l_92, l_98, l_99, l_100, l_102, l_105, l_111, l_112, l_114, l_115, l_116, l_117, l_120, l_144, l_200, l_201, l_240, l_300, l_320, l_400, l_500, l_550, l_560, l_649, l_650, l_1000, l_1400, l_2000, l_4000, l_10000, iN_add, iN_sub, iN_mul, iN_le_t, iN_le_f, iN_lt_t, iN_lt_f, iN_eq_f, inb_iN, ix_iN, isZ_0, isZ_1, ↓reduceIte, eq_self, c1, c2, kd_b ho, kd_b ho2, w7, v7, u7, r1, r2, found_ok]
              · unfold f_X8_both
                simp (maxSteps := 4000000) (disch := omega) only [chk_t, beq_self_eq_true, nm_s, bj1_s, bj2_s, bj3_s, mo_1, mo_0, l_0, l_1, l_2, l_3, l_4, l_5, l_6, l_7, l_8, l_9, l_10, l_11, l_12, l_13, l_14, l_15, l_16, l_17, l_18, l_19, l_20, l_21, l_30, l_31, l_32, l_36, l_40, l_41, l_42, l_43, l_44, l_45, l_46, l_47, l_48, l_49, l_50, l_51, l_52, l_57, l_58, l_60, l_64, l_72, l_80, l_92, l_98, l_99, l_100, l_102, l_105, l_111, l_112, l_114, l_115, l_116, l_117, l_120, l_144, l_200, l_201, l_240, l_300, l_320, l_400, l_500, l_550, l_560, l_649, l_650, l_1000, l_1400, l_2000, l_4000, l_10000, iN_add, iN_sub, iN_mul, iN_le_t, iN_le_f, iN_lt_t, iN_lt_f, iN_eq_f, inb_iN, ix_iN, isZ_0, isZ_1, ↓reduceIte, eq_self, place8, e1, e2, w8, v8, u8, fndC_o, r2, meets_ok]
            · rcases t2 with t2 | ⟨t2, n2, hsl2⟩
              · refine pOK_found (f := 1) (by omega) h ?_ ?_
                · unfold f_X7_both
                  simp (maxSteps := 4000000) (disch := omega) only [chk_t, beq_self_eq_true, nm_s, bj1_s, bj2_s, bj3_s, mo_1, mo_0, l_0, l_1, l_2, l_3, l_4, l_5, l_6, l_7, l_8, l_9, l_10, l_11, l_12, l_13, l_14, l_15, l_16, l_17, l_18, l_19, l_20, l_21, l_30, l_31, l_32, l_36, l_40, l_41, l_42, l_43, l_44, l_45, l_46, l_47, l_48, l_49, l_50, l_51, l_52, l_57, l_58, l_60, l_64, l_72, l_80, l_92, l_98, l_99, l_100, l_102, l_105, l_111, l_112, l_114, l_115, l_116, l_117, l_120, l_144, l_200, l_201, l_240, l_300, l_320, l_400, l_500, l_550, l_560, l_649, l_650, l_1000, l_1400, l_2000, l_4000, l_10000, iN_add, iN_sub, iN_mul, iN_le_t, iN_le_f, iN_lt_t, iN_lt_f, iN_eq_f, inb_iN, ix_iN, isZ_0, isZ_1, ↓reduceIte, eq_self, c1, c2, kd_b ho, kd_b ho2, w7, v7, u7, r1, r2, t1, t2, found_ok]
                · unfold f_X8_both
                  simp (maxSteps := 4000000) (disch := omega) only [chk_t, beq_self_eq_true, nm_s, bj1_s, bj2_s, bj3_s, mo_1, mo_0, l_0, l_1, l_2, l_3, l_4, l_5, l_6, l_7, l_8, l_9, l_10, l_11, l_12, l_13, l_14, l_15, l_16, l_17, l_18, l_19, l_20, l_21, l_30, l_31, l_32, l_36, l_40, l_41, l_42, l_43, l_44, l_45, l_46, l_47, l_48, l_49, l_50, l_51, l_52, l_57, l_58, l_60, l_64, l_72, l_80, l_92, l_98, l_99, l_100, l_102, l_105, l_111, l_112, l_114, l_115, l_116, l_117, l_120, l_144, l_200, l_201, l_240, l_300, l_320, l_400, l_500, l_550, l_560, l_649, l_650, l_1000, l_1400, l_2000, l_4000, l_10000, iN_add, iN_sub, iN_mul, iN_le_t, iN_le_f, iN_lt_t, iN_lt_f, iN_eq_f, inb_iN, ix_iN, isZ_0, isZ_1, ↓reduceIte, eq_self, place8, e1, e2, w8, v8, u8, fndC_o, r2, t2, meets_ok]
              · have hX := nx_sl hsl
                have hc := nx_c (G := G) r3
                have hX4 : newX k G 4 = iN 0 := nx_4
                have hY := ls_sl (D := newX k G) hsl2
                have hd := ls_c (D := newX k G) t3
                have hY4 : lsS (SL l G) (newX k G) 4 = iN 0 := ls_4
                have hNew := fun A => nx_new (k := k) (G := G) (A := A) hk
                have hNew2 := fun A D W => new2 (k := l) (G := G) (A := A) (D := D) (W := W) hl
                have hK := fun D => ls_keep (S := SL l G) (D := D) (E := newX k G)
                have hSL : ∀ D, slR (lsS (SL l G) D) n2 := fun D => ls_sl hsl2
                generalize newX k G = X at *
                generalize hYe : lsS (SL l G) X = Y at *
                have hqR := qR_N hq2
                have wX0 := wf_bg hX (by unfold mD; rw [hX4]; decide)
                have wY0 := wf_bg hY (by unfold mD; rw [hY4]; decide)
                have wX := fun j => wf_ov (k := j) (kd_ := iN 2) wX0 hqR
                have wY := fun j => wf_ov (k := j) (kd_ := iN 2) wY0 hqR
                obtain ⟨A, hA, cA, fA⟩ := begin_ok (o := 17) (X := X) (G := G) rfl ho (by omega) hX.1 hc.2.1 hc.2.2.2 hX4
                have q1 : A.1 (71 + l) = G.1 (71 + l) := fA.1.1 _ (by omega)
                obtain ⟨B, hB, cB, fB⟩ := begin_ok (o := 28) (X := Y) (G := A) rfl ho2 (by omega) hY.1 (by rw [q1]; exact hd.2.1) (by rw [q1]; exact hd.2.2.2) hY4
                have s1 : G.1 (71 + k) 1 = iN n := hc.1.trans hX.1.1
                have s2 : G.1 (71 + k) 3 = X 2 := hc.2.2.1
                have s3 : A.1 (71 + l) 1 = iN n2 := by rw [q1]; exact hd.1.trans hY.1.1
                have s4 : A.1 (71 + l) 3 = Y 2 := by rw [q1]; exact hd.2.2.1
                have ccB := cc_tr (cc_fr fA (by omega) (by omega)) (cc_fr fB (by omega) (by omega))
                have cA' := cD_fr cA (fun q h1 h2 => fB.1.1 q (by omega))
                obtain ⟨F, hF⟩ : ∃ F : Nat → Int32, F = fun j => midM (ovS (iN 2) (iN q) (bgS X) j) := ⟨_, rfl⟩
                have hFt : ∀ j, midM (ovS (iN 2) (iN q) (bgS X) j) = F j := fun j => by rw [hF]
                obtain ⟨E, hE⟩ : ∃ E : Nat → Int32, E = fun j => midM (ovS (iN 2) (iN q) (bgS Y) j) := ⟨_, rfl⟩
                have hEt : ∀ j, midM (ovS (iN 2) (iN q) (bgS Y) j) = E j := fun j => by rw [hE]
                obtain ⟨C, hC, -, -, ccC⟩ := loop_p (fun f z s H => f_X7_both_l127_26 (iN q) (iN v) (iN u) f s.1 s.2 z H) (fun j H => cD 17 (ovS (iN 2) (iN q) (bgS X) (j - 1)) H ∧ cD 28 (ovS (iN 2) (iN q) (bgS Y) (j - 1)) H ∧ cc G H) (boA F E (iN v) (iN u)) 1 201 (by
                  intro f j H h3 h4 ⟨i1, i2, i3⟩
                  obtain ⟨i, rfl⟩ : ∃ i, j = i + 1 := ⟨j - 1, by omega⟩
                  rw [show i + 1 - 1 = i by omega] at i1 i2
                  obtain ⟨P, hP, cP, fP⟩ := heat_ok (o := 17) (k := iN 2) (q := iN q) rfl (wX i) hqR i1
                  obtain ⟨Q, hQ, cQ, fQ⟩ := heat_ok (o := 28) (k := iN 2) (q := iN q) (G := P) rfl (wY i) hqR (cD_fr i2 (fun q h1 h2 => fP.1.1 q (by omega)))
                  have cP' : cD 17 (ovS (iN 2) (iN q) (bgS X) (i + 1)) Q := cD_fr cP (fun q h1 h2 => fQ.1.1 q (by omega))
                  have cQ' : cD 28 (ovS (iN 2) (iN q) (bgS Y) (i + 1)) Q := cQ
                  have m1 := midM_ok (o := 17) rfl (wX (i + 1)).1 cP'
                  have m2 := midM_ok (o := 28) rfl (wY (i + 1)).1 cQ'
                  rw [hFt] at m1
                  rw [hEt] at m2
                  refine ⟨Q, ⟨cP', cQ', cc_tr i3 (cc_tr (cc_fr fP (by omega) (by omega)) (cc_fr fQ (by omega) (by omega)))⟩, ?_⟩
                  rw [boA_s (j := i + 1) (by omega)]
                  generalize boA F E (iN v) (iN u) (i + 1) = s
                  obtain ⟨x, y⟩ := s
                  show f_X7_both_l127_26 (iN q) (iN v) (iN u) (f + 1) x y (iN (i + 1)) H = _
                  conv => lhs; unfold f_X7_both_l127_26
                  by_cases d1 : F (i + 1) < iN v
                  · simp (disch := omega) only [chk_t, beq_self_eq_true, nm_s, bj1_s, bj2_s, bj3_s, mo_1, mo_0, l_0, l_1, l_2, l_3, l_4, l_5, l_6, l_7, l_8, l_9, l_10, l_11, l_12, l_13, l_14, l_15, l_16, l_17, l_18, l_19, l_20, l_21, l_30, l_31, l_32, l_36, l_40, l_41, l_42, l_43, l_44, l_45, l_46, l_47, l_48, l_49, l_50, l_51, l_52, l_57, l_58, l_60, l_64, l_72, l_80, l_92, l_98, l_99, l_100, l_102, l_105, l_111, l_112, l_114, l_115, l_116, l_117, l_120, l_144, l_200, l_201, l_240, l_300, l_320, l_400, l_500, l_550, l_560, l_649, l_650, l_1000, l_1400, l_2000, l_4000, l_10000, iN_add, iN_sub, iN_mul, iN_le_t, iN_le_f, iN_lt_t, iN_lt_f, iN_eq_f, inb_iN, ix_iN, isZ_0, isZ_1, ↓reduceIte, eq_self, hP, hQ, m1, if_pos d1]
                  · by_cases d2 : iN u < E (i + 1)
                    · simp (disch := omega) only [chk_t, beq_self_eq_true, nm_s, bj1_s, bj2_s, bj3_s, mo_1, mo_0, l_0, l_1, l_2, l_3, l_4, l_5, l_6, l_7, l_8, l_9, l_10, l_11, l_12, l_13, l_14, l_15, l_16, l_17, l_18, l_19, l_20, l_21, l_30, l_31, l_32, l_36, l_40, l_41, l_42, l_43, l_44, l_45, l_46, l_47, l_48, l_49, l_50, l_51, l_52, l_57, l_58, l_60, l_64, l_72, l_80, l_92, l_98, l_99, l_100, l_102, l_105, l_111, l_112, l_114, l_115, l_116, l_117, l_120, l_144, l_200, l_201, l_240, l_300, l_320, l_400, l_500, l_550, l_560, l_649, l_650, l_1000, l_1400, l_2000, l_4000, l_10000, iN_add, iN_sub, iN_mul, iN_le_t, iN_le_f, iN_lt_t, iN_lt_f, iN_eq_f, inb_iN, ix_iN, isZ_0, isZ_1, ↓reduceIte, eq_self, hP, hQ, m1, m2, if_neg d1, if_pos d2]
                    · simp (disch := omega) only [chk_t, beq_self_eq_true, nm_s, bj1_s, bj2_s, bj3_s, mo_1, mo_0, l_0, l_1, l_2, l_3, l_4, l_5, l_6, l_7, l_8, l_9, l_10, l_11, l_12, l_13, l_14, l_15, l_16, l_17, l_18, l_19, l_20, l_21, l_30, l_31, l_32, l_36, l_40, l_41, l_42, l_43, l_44, l_45, l_46, l_47, l_48, l_49, l_50, l_51, l_52, l_57, l_58, l_60, l_64, l_72, l_80, l_92, l_98, l_99, l_100, l_102, l_105, l_111, l_112, l_114, l_115, l_116, l_117, l_120, l_144, l_200, l_201, l_240, l_300, l_320, l_400, l_500, l_550, l_560, l_649, l_650, l_1000, l_1400, l_2000, l_4000, l_10000, iN_add, iN_sub, iN_mul, iN_le_t, iN_le_f, iN_lt_t, iN_lt_f, iN_eq_f, inb_iN, ix_iN, isZ_0, isZ_1, ↓reduceIte, eq_self, hP, hQ, m1, m2, if_neg d1, if_neg d2, ite_so]) (by
                  intro f x y H
                  show f_X7_both_l127_26 (iN q) (iN v) (iN u) (f + 1) x y (iN 201) H = _
                  unfold f_X7_both_l127_26
                  simp (disch := omega) only [chk_t, beq_self_eq_true, nm_s, bj1_s, bj2_s, bj3_s, mo_1, mo_0, l_0, l_1, l_2, l_3, l_4, l_5, l_6, l_7, l_8, l_9, l_10, l_11, l_12, l_13, l_14, l_15, l_16, l_17, l_18, l_19, l_20, l_21, l_30, l_31, l_32, l_36, l_40, l_41, l_42, l_43, l_44, l_45, l_46, l_47, l_48, l_49, l_50, l_51, l_52, l_57, l_58, l_60, l_64, l_72, l_80, l_92, l_98, l_99, l_100, l_102, l_105, l_111, l_112, l_114, l_115, l_116, l_117, l_120, l_144, l_200, l_201, l_240, l_300, l_320, l_400, l_500, l_550, l_560, l_649, l_650, l_1000, l_1400, l_2000, l_4000, l_10000, iN_add, iN_sub, iN_mul, iN_le_t, iN_le_f, iN_lt_t, iN_lt_f, iN_eq_f, inb_iN, ix_iN, isZ_0, isZ_1, ↓reduceIte, eq_self]) (by omega) (n := FU) (fu_lt (by omega)) (G := B) ⟨cA', cB, ccB⟩
                have e0 : boA F E (iN v) (iN u) 1 = (-iN 9, iN 0) := rfl
                rw [e0] at hC
                have hC : f_X7_both_l127_26 (iN q) (iN v) (iN u) FU (-iN 9) (iN 0) (iN 1) B = some ((boA F E (iN v) (iN u) 201).1, (boA F E (iN v) (iN u) 201).2, C) := hC
                have key : ∀ H : G_, (∀ q, 50 ≤ q → H.1 q = G.1 q) → ∃ D' W' H', f_X8_both (iN k) (iN l) (iN q) (iN v) (iN u) H = (if (boA F E (iN v) (iN u) 201).1 = -iN 9 then some (-iN 9, stM 4 D' W' H') else some ((boA F E (iN v) (iN u) 201).1, sI (stM 4 D' W' H') 124 2 (boA F E (iN v) (iN u) 201).2)) ∧ mf H H' := by
                  intro H hH
                  have hbM := bM_LG (m := 4) (G := H) (by omega)
                  have l1 : ∃ r, f_X8_both_l75_22 (iN l) (iN q) (iN v) (iN u) FU (iN 1) (stM 4 (bgS X) (WM H) (LG 4 H)) = some r ∧ ∃ W' H', r = stM 4 (ovS (iN 2) (iN q) (bgS X) 200) W' H' ∧ bM 4 H' ∧ (∀ i, 1 ≤ i → i < 201 → H'.1 143 i = F i) ∧ (∀ p, p ≠ 143 → H'.1 p = (LG 4 H).1 p) ∧ H'.2 = H.2 := by
                    refine loop_h (fun f z s => f_X8_both_l75_22 (iN l) (iN q) (iN v) (iN u) f z s) (fun j r => ∃ W' H', r = stM 4 (ovS (iN 2) (iN q) (bgS X) (j - 1)) W' H' ∧ bM 4 H' ∧ (∀ i, 1 ≤ i → i < j → H'.1 143 i = F i) ∧ (∀ p, p ≠ 143 → H'.1 p = (LG 4 H).1 p) ∧ H'.2 = H.2) _ 1 201 ?_ ?_ (by omega) (n := FU) (fu_lt (by omega)) ⟨WM H, LG 4 H, rfl, hbM, fun i h1 h2 => by omega, fun _ _ => rfl, rfl⟩
                    · intro f j r h3 h4 ⟨W', H', er, hb, g1, g2, g3⟩
                      subst er
                      obtain ⟨i, rfl⟩ : ∃ i, j = i + 1 := ⟨j - 1, by omega⟩
                      rw [show i + 1 - 1 = i by omega]
                      obtain ⟨W2, m1⟩ := mtick_ok (W := W') (k := iN 2) (q := iN q) hb (wX i).1
                      have m1 : f_X8_tick (iN 2) (iN q) (stM 4 (ovS (iN 2) (iN q) (bgS X) i) W' H') = some (stM 4 (ovS (iN 2) (iN q) (bgS X) (i + 1)) W2 H') := m1
                      have m2 := mmid_ok (W := W2) hb (wX (i + 1)).1
                      have m3 := midMv (W := W2) hb (wX (i + 1)).1
                      rw [hFt] at m3
                      refine ⟨stM 4 (ovS (iN 2) (iN q) (bgS X) (i + 1)) W2 (sI H' 143 (i + 1) (F (i + 1))), ⟨W2, _, rfl, ⟨hb.1, by rw [sI_p (by omega)]; exact hb.2⟩, fun i' h1 h2 => ?_, fun p hp => by rw [sI_p hp]; exact g2 p hp, g3⟩, ?_⟩
                      · by_cases c : i' = i + 1
                        · subst c; exact sI_eq
                        · rw [sI_j c]; exact g1 i' h1 (by omega)
                      · show f_X8_both_l75_22 (iN l) (iN q) (iN v) (iN u) (f + 1) (iN (i + 1)) _ = _
                        conv => lhs; unfold f_X8_both_l75_22
                        simp (disch := omega) only [chk_t, beq_self_eq_true, nm_s, bj1_s, bj2_s, bj3_s, mo_1, mo_0, l_0, l_1, l_2, l_3, l_4, l_5, l_6, l_7, l_8, l_9, l_10, l_11, l_12, l_13, l_14, l_15, l_16, l_17, l_18, l_19, l_20, l_21, l_30, l_31, l_32, l_36, l_40, l_41, l_42, l_43, l_44, l_45, l_46, l_47, l_48, l_49, l_50, l_51, l_52, l_57, l_58, l_60, l_64, l_72, l_80, l_92, l_98, l_99, l_100, l_102, l_105, l_111, l_112, l_114, l_115, l_116, l_117, l_120, l_144, l_200, l_201, l_240, l_300, l_320, l_400, l_500, l_550, l_560, l_649, l_650, l_1000, l_1400, l_2000, l_4000, l_10000, iN_add, iN_sub, iN_mul, iN_le_t, iN_le_f, iN_lt_t, iN_lt_f, iN_eq_f, inb_iN, ix_iN, isZ_0, isZ_1, ↓reduceIte, eq_self, m1, m2, m3, st_sI]
                    · intro f r hI
                      refine ⟨r, ?_, hI⟩
                      show f_X8_both_l75_22 (iN l) (iN q) (iN v) (iN u) (f + 1) (iN 201) r = _
                      unfold f_X8_both_l75_22
                      simp (disch := omega) only [chk_t, beq_self_eq_true, nm_s, bj1_s, bj2_s, bj3_s, mo_1, mo_0, l_0, l_1, l_2, l_3, l_4, l_5, l_6, l_7, l_8, l_9, l_10, l_11, l_12, l_13, l_14, l_15, l_16, l_17, l_18, l_19, l_20, l_21, l_30, l_31, l_32, l_36, l_40, l_41, l_42, l_43, l_44, l_45, l_46, l_47, l_48, l_49, l_50, l_51, l_52, l_57, l_58, l_60, l_64, l_72, l_80, l_92, l_98, l_99, l_100, l_102, l_105, l_111, l_112, l_114, l_115, l_116, l_117, l_120, l_144, l_200, l_201, l_240, l_300, l_320, l_400, l_500, l_550, l_560, l_649, l_650, l_1000, l_1400, l_2000, l_4000, l_10000, iN_add, iN_sub, iN_mul, iN_le_t, iN_le_f, iN_lt_t, iN_lt_f, iN_eq_f, inb_iN, ix_iN, isZ_0, isZ_1, ↓reduceIte, eq_self]
                  obtain ⟨r, hr, W1, H1, er, hb1, g1, g2, g3⟩ := l1
                  subst er
                  have wO := (wX 200).1
                  have n2k : f_X8_layNew (iN l) (stM 4 (ovS (iN 2) (iN q) (bgS X) 200) W1 H1) = some (stM 4 (lsS (SL l G) (ovS (iN 2) (iN q) (bgS X) 200)) W1 H1) := by
                    have m := layNew2_ok (k := l) (D := ovS (iN 2) (iN q) (bgS X) 200) (W := W1) hb1 hl
                    rw [SL_fr (G' := H1) (G := G) (by rw [g2 132 (by omega), LG_o (by omega), hH 132 (by omega)])] at m
                    exact m
                  have hYl := hSL (ovS (iN 2) (iN q) (bgS X) 200)
                  have ebg : bgS (lsS (SL l G) (ovS (iN 2) (iN q) (bgS X) 200)) = bgS Y := bg_eq (hK _ (fun p hp => (ov_lo wX0 hqR hp).trans (bg_keep hp)))
                  have mb := mbegins_ok (D := lsS (SL l G) (ovS (iN 2) (iN q) (bgS X) 200)) (W := W1) hb1 hYl.1
                  rw [ebg] at mb
                  obtain ⟨H3, hH3, W3, eH3⟩ := loop_p (fun f z s R => f_X8_both_l132_40 (iN q) (iN v) (iN u) f s.1 s.2 z R) (fun j R => ∃ W', R = stM 4 (ovS (iN 2) (iN q) (bgS Y) (j - 1)) W' H1) (boA F E (iN v) (iN u)) 1 201 (by
                    intro f j R h3 h4 ⟨W', eR⟩
                    subst eR
                    obtain ⟨i, rfl⟩ : ∃ i, j = i + 1 := ⟨j - 1, by omega⟩
                    rw [show i + 1 - 1 = i by omega, show i + 1 + 1 - 1 = i + 1 by omega]
                    obtain ⟨W2, m1⟩ := mtick_ok (W := W') (k := iN 2) (q := iN q) hb1 (wY i).1
                    have m1 : f_X8_tick (iN 2) (iN q) (stM 4 (ovS (iN 2) (iN q) (bgS Y) i) W' H1) = some (stM 4 (ovS (iN 2) (iN q) (bgS Y) (i + 1)) W2 H1) := m1
                    have m2 := mmid_ok (W := W2) hb1 (wY (i + 1)).1
                    have m3 := midMv (W := W2) hb1 (wY (i + 1)).1
                    rw [hEt] at m3
                    have g143 : (stM 4 (ovS (iN 2) (iN q) (bgS Y) (i + 1)) W2 H1).1 143 (i + 1) = F (i + 1) := by
                      rw [stM_o (by omega) (by omega)]
                      exact g1 (i + 1) (by omega) (by omega)
                    refine ⟨_, ⟨W2, rfl⟩, ?_⟩
                    rw [boA_s (j := i + 1) (by omega)]
                    obtain ⟨c, hc1, hc2, hc3⟩ := boF_b (f := F) (g := E) (v := iN v) (w := iN u) i (by omega)
                    have hc2 : (boA F E (iN v) (iN u) (i + 1)).2 = iN c := hc2
                    have hc3 : (c = 0 ∧ (boA F E (iN v) (iN u) (i + 1)).1 = -iN 9) ∨ (1 ≤ c ∧ ∃ b, b ≤ i ∧ (boA F E (iN v) (iN u) (i + 1)).1 = iN b) := hc3
                    generalize boA F E (iN v) (iN u) (i + 1) = s at *
                    obtain ⟨x, y⟩ := s
                    have hc2 : y = iN c := hc2
                    subst hc2
                    show f_X8_both_l132_40 (iN q) (iN v) (iN u) (f + 1) x (iN c) (iN (i + 1)) _ = _
                    conv => lhs; unfold f_X8_both_l132_40
                    by_cases d1 : F (i + 1) < iN v
                    · simp (disch := omega) only [chk_t, beq_self_eq_true, nm_s, bj1_s, bj2_s, bj3_s, mo_1, mo_0, l_0, l_1, l_2, l_3, l_4, l_5, l_6, l_7, l_8, l_9, l_10, l_11, l_12, l_13, l_14, l_15, l_16, l_17, l_18, l_19, l_20, l_21, l_30, l_31, l_32, l_36, l_40, l_41, l_42, l_43, l_44, l_45, l_46, l_47, l_48, l_49, l_50, l_51, l_52, l_57, l_58, l_60, l_64, l_72, l_80, l_92, l_98, l_99, l_100, l_102, l_105, l_111, l_112, l_114, l_115, l_116, l_117, l_120, l_144, l_200, l_201, l_240, l_300, l_320, l_400, l_500, l_550, l_560, l_649, l_650, l_1000, l_1400, l_2000, l_4000, l_10000, iN_add, iN_sub, iN_mul, iN_le_t, iN_le_f, iN_lt_t, iN_lt_f, iN_eq_f, inb_iN, ix_iN, isZ_0, isZ_1, ↓reduceIte, eq_self, m1, g143, if_pos d1]
                    · by_cases d2 : iN u < E (i + 1)
                      · simp (disch := omega) only [chk_t, beq_self_eq_true, nm_s, bj1_s, bj2_s, bj3_s, mo_1, mo_0, l_0, l_1, l_2, l_3, l_4, l_5, l_6, l_7, l_8, l_9, l_10, l_11, l_12, l_13, l_14, l_15, l_16, l_17, l_18, l_19, l_20, l_21, l_30, l_31, l_32, l_36, l_40, l_41, l_42, l_43, l_44, l_45, l_46, l_47, l_48, l_49, l_50, l_51, l_52, l_57, l_58, l_60, l_64, l_72, l_80, l_92, l_98, l_99, l_100, l_102, l_105, l_111, l_112, l_114, l_115, l_116, l_117, l_120, l_144, l_200, l_201, l_240, l_300, l_320, l_400, l_500, l_550, l_560, l_649, l_650, l_1000, l_1400, l_2000, l_4000, l_10000, iN_add, iN_sub, iN_mul, iN_le_t, iN_le_f, iN_lt_t, iN_lt_f, iN_eq_f, inb_iN, ix_iN, isZ_0, isZ_1, ↓reduceIte, eq_self, m1, g143, m2, m3, if_neg d1, if_pos d2]
                      · rw [if_neg d1, if_neg d2]
                        have d1 := eq_false d1
                        have d2 := eq_false d2
                        rcases hc3 with ⟨hc3, hc4⟩ | ⟨hc3, b, hc4, hc5⟩
                        · have hc4 : x = -iN 9 := hc4
                          subst hc3 hc4
                          simp (disch := omega) only [chk_t, beq_self_eq_true, nm_s, bj1_s, bj2_s, bj3_s, mo_1, mo_0, l_0, l_1, l_2, l_3, l_4, l_5, l_6, l_7, l_8, l_9, l_10, l_11, l_12, l_13, l_14, l_15, l_16, l_17, l_18, l_19, l_20, l_21, l_30, l_31, l_32, l_36, l_40, l_41, l_42, l_43, l_44, l_45, l_46, l_47, l_48, l_49, l_50, l_51, l_52, l_57, l_58, l_60, l_64, l_72, l_80, l_92, l_98, l_99, l_100, l_102, l_105, l_111, l_112, l_114, l_115, l_116, l_117, l_120, l_144, l_200, l_201, l_240, l_300, l_320, l_400, l_500, l_550, l_560, l_649, l_650, l_1000, l_1400, l_2000, l_4000, l_10000, iN_add, iN_sub, iN_mul, iN_le_t, iN_le_f, iN_lt_t, iN_lt_f, iN_eq_f, inb_iN, ix_iN, isZ_0, isZ_1, ↓reduceIte, eq_self, m1, g143, m2, m3, d1, d2]
                        · have hc5 : x = iN b := hc5
                          subst hc5
                          simp (disch := omega) only [chk_t, beq_self_eq_true, nm_s, bj1_s, bj2_s, bj3_s, mo_1, mo_0, l_0, l_1, l_2, l_3, l_4, l_5, l_6, l_7, l_8, l_9, l_10, l_11, l_12, l_13, l_14, l_15, l_16, l_17, l_18, l_19, l_20, l_21, l_30, l_31, l_32, l_36, l_40, l_41, l_42, l_43, l_44, l_45, l_46, l_47, l_48, l_49, l_50, l_51, l_52, l_57, l_58, l_60, l_64, l_72, l_80, l_92, l_98, l_99, l_100, l_102, l_105, l_111, l_112, l_114, l_115, l_116, l_117, l_120, l_144, l_200, l_201, l_240, l_300, l_320, l_400, l_500, l_550, l_560, l_649, l_650, l_1000, l_1400, l_2000, l_4000, l_10000, iN_add, iN_sub, iN_mul, iN_le_t, iN_le_f, iN_lt_t, iN_lt_f, iN_eq_f, inb_iN, ix_iN, isZ_0, isZ_1, ↓reduceIte, eq_self, m1, g143, m2, m3, d1, d2, N_m9]) (by
                    intro f x y R
                    show f_X8_both_l132_40 (iN q) (iN v) (iN u) (f + 1) x y (iN 201) R = _
                    unfold f_X8_both_l132_40
                    simp (disch := omega) only [chk_t, beq_self_eq_true, nm_s, bj1_s, bj2_s, bj3_s, mo_1, mo_0, l_0, l_1, l_2, l_3, l_4, l_5, l_6, l_7, l_8, l_9, l_10, l_11, l_12, l_13, l_14, l_15, l_16, l_17, l_18, l_19, l_20, l_21, l_30, l_31, l_32, l_36, l_40, l_41, l_42, l_43, l_44, l_45, l_46, l_47, l_48, l_49, l_50, l_51, l_52, l_57, l_58, l_60, l_64, l_72, l_80, l_92, l_98, l_99, l_100, l_102, l_105, l_111, l_112, l_114, l_115, l_116, l_117, l_120, l_144, l_200, l_201, l_240, l_300, l_320, l_400, l_500, l_550, l_560, l_649, l_650, l_1000, l_1400, l_2000, l_4000, l_10000, iN_add, iN_sub, iN_mul, iN_le_t, iN_le_f, iN_lt_t, iN_lt_f, iN_eq_f, inb_iN, ix_iN, isZ_0, isZ_1, ↓reduceIte, eq_self]) (by omega) (n := FU) (fu_lt (by omega)) (G := stM 4 (bgS Y) W1 H1) ⟨W1, rfl⟩
                  rw [e0] at hH3
                  have hH3 : f_X8_both_l132_40 (iN q) (iN v) (iN u) FU (-iN 9) (iN 0) (iN 1) (stM 4 (bgS Y) W1 H1) = some ((boA F E (iN v) (iN u) 201).1, (boA F E (iN v) (iN u) 201).2, H3) := hH3
                  subst eH3
                  generalize boA F E (iN v) (iN u) 201 = s at *
                  obtain ⟨x, y⟩ := s
                  have mb0 := mbegins_ok (D := X) (W := WM H) hbM hX.1
                  refine ⟨ovS (iN 2) (iN q) (bgS Y) (201 - 1), W3, H1, ?_, ⟨fun p hp => ?_, ?_, ?_, fun j hj => ?_, g3⟩⟩
                  · have r2' : H.1 131 k = iN 1 := by rw [hH 131 (by omega)]; exact r2
                    have t2' : H.1 131 l = iN 1 := by rw [hH 131 (by omega)]; exact t2
                    unfold f_X8_both f_X8_tells
                    simp (maxSteps := 4000000) (disch := omega) only [chk_t, beq_self_eq_true, nm_s, bj1_s, bj2_s, bj3_s, mo_1, mo_0, l_0, l_1, l_2, l_3, l_4, l_5, l_6, l_7, l_8, l_9, l_10, l_11, l_12, l_13, l_14, l_15, l_16, l_17, l_18, l_19, l_20, l_21, l_30, l_31, l_32, l_36, l_40, l_41, l_42, l_43, l_44, l_45, l_46, l_47, l_48, l_49, l_50, l_51, l_52, l_57, l_58, l_60, l_64, l_72, l_80, l_92, l_98, l_99, l_100, l_102, l_105, l_111, l_112, l_114, l_115, l_116, l_117, l_120, l_144, l_200, l_201, l_240, l_300, l_320, l_400, l_500, l_550, l_560, l_649, l_650, l_1000, l_1400, l_2000, l_4000, l_10000, iN_add, iN_sub, iN_mul, iN_le_t, iN_le_f, iN_lt_t, iN_lt_f, iN_eq_f, inb_iN, ix_iN, isZ_0, isZ_1, ↓reduceIte, eq_self, place8, e1, e2, w8, v8, u8, r2', t2', hNew H hH, mb0, hr, n2k, mb, hH3]
                  · rw [g2 p (by unfold relq at hp; omega), LG_o (by unfold relq at hp; omega)]
                  · rw [g2 124 (by omega), LG_j (by omega)]
                  · rw [g2 124 (by omega), LG_j (by omega)]
                  · rw [g2 139 (by omega), LG_o (by omega)]
                have hC7 : f_X7_both (iN k) (iN l) (iN q) (iN v) (iN u) G = (if (boA F E (iN v) (iN u) 201).1 = -iN 9 then some (-iN 9, C) else some ((boA F E (iN v) (iN u) 201).1, sI C 0 16 (boA F E (iN v) (iN u) 201).2)) := by
                  unfold f_X7_both f_X7_told
                  simp (maxSteps := 4000000) (disch := omega) only [chk_t, beq_self_eq_true, nm_s, bj1_s, bj2_s, bj3_s, mo_1, mo_0, l_0, l_1, l_2, l_3, l_4, l_5, l_6, l_7, l_8, l_9, l_10, l_11, l_12, l_13, l_14, l_15, l_16, l_17, l_18, l_19, l_20, l_21, l_30, l_31, l_32, l_36, l_40, l_41, l_42, l_43, l_44, l_45, l_46, l_47, l_48, l_49, l_50, l_51, l_52, l_57, l_58, l_60, l_64, l_72, l_80, l_92, l_98, l_99, l_100, l_102, l_105, l_111, l_112, l_114, l_115, l_116, l_117, l_120, l_144, l_200, l_201, l_240, l_300, l_320, l_400, l_500, l_550, l_560, l_649, l_650, l_1000, l_1400, l_2000, l_4000, l_10000, iN_add, iN_sub, iN_mul, iN_le_t, iN_le_f, iN_lt_t, iN_lt_f, iN_eq_f, inb_iN, ix_iN, isZ_0, isZ_1, ↓reduceIte, eq_self, c1, c2, kd_b ho, kd_b ho2, w7, v7, u7, r1, r2, t1, t2, s1, s2, hA, s3, s4, hB, hC]
                generalize boA F E (iN v) (iN u) 201 = s at *
                obtain ⟨x, y⟩ := s
                by_cases d : x = -iN 9
                · obtain ⟨D', W', H', k1, k2⟩ := key C (fun q hq => ccC.1 q (by omega))
                  exact pOK_none h (hC7.trans (if_pos d)) ccC (k1.trans (if_pos d)) (mf_st k2)
                · obtain ⟨D', W', H', k1, k2⟩ := key (sI C 0 16 y) (cc_50 ccC)
                  exact pOK_tell h (hC7.trans (if_neg d)) ccC (k1.trans (if_neg d)) (mf_st k2)

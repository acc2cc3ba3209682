/-! same, both, safe, rule -/
theorem tillF_r (P : Nat → Bool) (f k : Nat) : tillF P f k = -iN 9 ∨ ∃ j, k < j ∧ j ≤ k + f ∧ tillF P f k = iN j := by
  induction f generalizing k with
  | zero => exact Or.inl rfl
  | succ f ih =>
    unfold tillF
    split
    · exact Or.inr ⟨k + 1, by omega, by omega, rfl⟩
    · rcases ih (k + 1) with h | ⟨j, h1, h2, h3⟩
      · exact Or.inl h
      · exact Or.inr ⟨j, by omega, by omega, h3⟩
theorem till_r (q t v : Int32) (D : Nat → Int32) : tillS q t v D = -iN 9 ∨ ∃ j, 1 ≤ j ∧ j ≤ 200 ∧ tillS q t v D = iN j := by
  rcases tillF_r (fun k => !decide (midM (wayS q t D k) < v)) 200 0 with h | ⟨j, h1, h2, h3⟩
  · exact Or.inl h
  · exact Or.inr ⟨j, by omega, by omega, h3⟩
theorem ls_keep {S D E : Nat → Int32} (h : ∀ p, p < 41 ∨ 112 ≤ p → D p = E p) : ∀ p, p < 41 ∨ 112 ≤ p → lsS S D p = lsS S E p := by
  intro p hp
  by_cases c : p < 4
  · rw [ls_lo c, ls_lo c]
  · by_cases c2 : p = 4
    · subst c2
      rw [ls_4, ls_4]
    · rw [ls_hi (by omega), ls_hi (by omega), h p hp]
theorem ls_sl {k n : Nat} {D : Nat → Int32} {G : G_} (h : slR (SL k G) n) : slR (lsS (SL k G) D) n := by
  obtain ⟨h1, h2⟩ := h
  refine ⟨okN_keep h1 (ls_lo (by omega)), ?_⟩
  rw [ls_lo (by omega)]
  exact h2
theorem ls_c {a k : Nat} {D : Nat → Int32} {G : G_} (h : cSl a (SL k G) G) : cSl a (lsS (SL k G) D) G := by
  unfold cSl
  rw [ls_lo (by omega), ls_lo (by omega), ls_lo (by omega), ls_lo (by omega)]
  exact h
theorem new2 {k : Nat} {G A : G_} {D W : Nat → Int32} (hk : k < 4) (h : ∀ q, 50 ≤ q → A.1 q = G.1 q) : f_X8_layNew (iN k) (stM 4 D W (LG 4 A)) = some (stM 4 (lsS (SL k G) D) W (LG 4 A)) := by
  have m := layNew2_ok (D := D) (W := W) (bM_LG (m := 4) (G := A) (by omega)) hk
  rw [SL_fr (G' := LG 4 A) (G := G) (by rw [LG_o (by omega), h 132 (by omega)])] at m
  exact m
theorem op_same (a1 a2 a3 a4 a5 a6 : Int32) {G : G_} (h : RR G) : pOK (f_X7_same a1 a2 a3 a4 a5 a6) (f_X8_same a1 a2 a3 a4 a5 a6) G := by
  rcases slab_cases a1 G with ⟨e1, c1⟩ | ⟨k, hk, rfl, e1, c1, ho⟩
  · refine pOK_same (x := -iN 1) h ?_ (by unfold f_X8_same; rw [place8, bj1_s]; exact if_pos e1)
    rcases slab_cases a2 G with ⟨e2, c2⟩ | ⟨l, hl, rfl, e2, c2, ho2⟩ <;> (unfold f_X7_same; rw [c1, bj1_s, c2, bj1_s]; rfl)
  · rcases slab_cases a2 G with ⟨e2, c2⟩ | ⟨l, hl, rfl, e2, c2, ho2⟩
    · refine pOK_same (x := -iN 1) h (by unfold f_X7_same; simp (maxSteps := 4000000) (disch := omega) only [chk_t, beq_self_eq_true, nm_s, bj1_s, bj2_s, bj3_s, mo_1, mo_0, l_0, l_1, l_2, l_3, l_4, l_5, l_6, l_7, l_8, l_9, l_10, l_11, l_12, l_13, l_14, l_15, l_16, l_17, l_18, l_19, l_20, l_21, l_30, l_31, l_32, l_36, l_40, l_41, l_42, l_43, l_44, l_45, l_46, l_47, l_48, l_49, l_50, l_51, l_52, l_57, l_58, l_60, l_64, l_72, l_80, l_92, l_98, l_99, l_100, l_102, l_105, l_111, l_112, l_114, l_115, l_116, l_117, l_120, l_144, l_200, l_201, l_240, l_300, l_320, l_400, l_500, l_550, l_560, l_649, l_650, l_1000, l_1400, l_2000, l_4000, l_10000, iN_add, iN_sub, iN_mul, iN_le_t, iN_le_f, iN_lt_t, iN_lt_f, iN_eq_f, inb_iN, ix_iN, isZ_0, isZ_1, ↓reduceIte, eq_self, c1, c2, kd_b ho]) (by unfold f_X8_same; simp (maxSteps := 4000000) (disch := omega) only [chk_t, beq_self_eq_true, nm_s, bj1_s, bj2_s, bj3_s, mo_1, mo_0, l_0, l_1, l_2, l_3, l_4, l_5, l_6, l_7, l_8, l_9, l_10, l_11, l_12, l_13, l_14, l_15, l_16, l_17, l_18, l_19, l_20, l_21, l_30, l_31, l_32, l_36, l_40, l_41, l_42, l_43, l_44, l_45, l_46, l_47, l_48, l_49, l_50, l_51, l_52, l_57, l_58, l_60, l_64, l_72, l_80, l_92, l_98, l_99, l_100, l_102, l_105, l_111, l_112, l_114, l_115, l_116, l_117, l_120, l_144, l_200, l_201, l_240, l_300, l_320, l_400, l_500, l_550, l_560, l_649, l_650, l_1000, l_1400, l_2000, l_4000, l_10000, iN_add, iN_sub, iN_mul, iN_le_t, iN_le_f, iN_lt_t, iN_lt_f, iN_eq_f, inb_iN, ix_iN, isZ_0, isZ_1, ↓reduceIte, eq_self, place8, e1, e2])
    · rcases way_N a3 a4 with ⟨w7, w8⟩ | ⟨w7, w8, q, t, rfl, rfl, hq1, hq2, ht1, ht2⟩
      · refine pOK_same (x := -iN 1) h (by unfold f_X7_same; simp (maxSteps := 4000000) (disch := omega) only [chk_t, beq_self_eq_true, nm_s, bj1_s, bj2_s, bj3_s, mo_1, mo_0, l_0, l_1, l_2, l_3, l_4, l_5, l_6, l_7, l_8, l_9, l_10, l_11, l_12, l_13, l_14, l_15, l_16, l_17, l_18, l_19, l_20, l_21, l_30, l_31, l_32, l_36, l_40, l_41, l_42, l_43, l_44, l_45, l_46, l_47, l_48, l_49, l_50, l_51, l_52, l_57, l_58, l_60, l_64, l_72, l_80, l_92, l_98, l_99, l_100, l_102, l_105, l_111, l_112, l_114, l_115, l_116, l_117, l_120, l_144, l_200, l_201, l_240, l_300, l_320, l_400, l_500, l_550, l_560, l_649, l_650, l_1000, l_1400, l_2000, l_4000, l_10000, iN_add, iN_sub, iN_mul, iN_le_t, iN_le_f, iN_lt_t, iN_lt_f, iN_eq_f, inb_iN, ix_iN, isZ_0, isZ_1, ↓reduceIte, eq_self, c1, c2, kd_b ho, kd_b ho2, w7]) (by unfold f_X8_same; simp (maxSteps := 4000000) (disch := omega) only [chk_t, beq_self_eq_true, nm_s, bj1_s, bj2_s, bj3_s, mo_1, mo_0, l_0, l_1, l_2, l_3, l_4, l_5, l_6, l_7, l_8, l_9, l_10, l_11, l_12, l_13, l_14, l_15, l_16, l_17, l_18, l_19, l_20, l_21, l_30, l_31, l_32, l_36, l_40, l_41, l_42, l_43, l_44, l_45, l_46, l_47, l_48, l_49, l_50, l_51, l_52, l_57, l_58, l_60, l_64, l_72, l_80, l_92, l_98, l_99, l_100, l_102, l_105, l_111, l_112, l_114, l_115, l_116, l_117, l_120, l_144, l_200, l_201, l_240, l_300, l_320, l_400, l_500, l_550, l_560, l_649, l_650, l_1000, l_1400, l_2000, l_4000, l_10000, iN_add, iN_sub, iN_mul, iN_le_t, iN_le_f, iN_lt_t, iN_lt_f, iN_eq_f, inb_iN, ix_iN, isZ_0, isZ_1, ↓reduceIte, eq_self, place8, e1, e2, w8])
      · rcases warm_N a5 with ⟨v7, v8⟩ | ⟨v7, v8, v, rfl, hv⟩
        · refine pOK_same (x := -iN 1) h (by unfold f_X7_same; simp (maxSteps := 4000000) (disch := omega) only [chk_t, beq_self_eq_true, nm_s, bj1_s, bj2_s, bj3_s, mo_1, mo_0, l_0, l_1, l_2, l_3, l_4, l_5, l_6, l_7, l_8, l_9, l_10, l_11, l_12, l_13, l_14, l_15, l_16, l_17, l_18, l_19, l_20, l_21, l_30, l_31, l_32, l_36, l_40, l_41, l_42, l_43, l_44, l_45, l_46, l_47, l_48, l_49, l_50, l_51, l_52, l_57, l_58, l_60, l_64, l_72, l_80, l_92, l_98, l_99, l_100, l_102, l_105, l_111, l_112, l_114, l_115, l_116, l_117, l_120, l_144, l_200, l_201, l_240, l_300, l_320, l_400, l_500, l_550, l_560, l_649, l_650, l_1000, l_1400, l_2000, l_4000, l_10000, iN_add, iN_sub, iN_mul, iN_le_t, iN_le_f, iN_lt_t, iN_lt_f, iN_eq_f, inb_iN, ix_iN, isZ_0, isZ_1, ↓reduceIte, eq_self, c1, c2, kd_b ho, kd_b ho2, w7, v7]) (by unfold f_X8_same; simp (maxSteps := 4000000) (disch := omega) only [chk_t, beq_self_eq_true, nm_s, bj1_s, bj2_s, bj3_s, mo_1, mo_0, l_0, l_1, l_2, l_3, l_4, l_5, l_6, l_7, l_8, l_9, l_10, l_11, l_12, l_13, l_14, l_15, l_16, l_17, l_18, l_19, l_20, l_21, l_30, l_31, l_32, l_36, l_40, l_41, l_42, l_43, l_44, l_45, l_46, l_47, l_48, l_49, l_50, l_51, l_52, l_57, l_58, l_60, l_64, l_72, l_80, l_92, l_98, l_99, l_100, l_102, l_105, l_111, l_112, l_114, l_115, l_116, l_117, l_120, l_144, l_200, l_201, l_240, l_300, l_320, l_400, l_500, l_550, l_560, l_649, l_650, l_1000, l_1400, l_2000, l_4000, l_10000, iN_add, iN_sub, iN_mul, iN_le_t, iN_le_f, iN_lt_t, iN_lt_f, iN_eq_f, inb_iN, ix_iN, isZ_0, isZ_1, ↓reduceIte, eq_self, place8, e1, e2, w8, v8])
        · rcases warm_N a6 with ⟨u7, u8⟩ | ⟨u7, u8, u, rfl, hu⟩
          · refine pOK_same (x := -iN 1) h (by unfold f_X7_same; simp (maxSteps := 4000000) (disch := omega) only [chk_t, beq_self_eq_true, nm_s, bj1_s, bj2_s, bj3_s, mo_1, mo_0, l_0, l_1, l_2, l_3, l_4, l_5, l_6, l_7, l_8, l_9, l_10, l_11, l_12, l_13, l_14, l_15, l_16, l_17, l_18, l_19, l_20, l_21, l_30, l_31, l_32, l_36, l_40, l_41, l_42, l_43, l_44, l_45, l_46, l_47, l_48, l_49, l_50, l_51, l_52, l_57, l_58, l_60, l_64, l_72, l_80, l_92, l_98, l_99, l_100, l_102, l_105, l_111, l_112, l_114, l_115, l_116, l_117, l_120, l_144, l_200, l_201, l_240, l_300, l_320, l_400, l_500, l_550, l_560, l_649, l_650, l_1000, l_1400, l_2000, l_4000, l_10000, iN_add, iN_sub, iN_mul, iN_le_t, iN_le_f, iN_lt_t, iN_lt_f, iN_eq_f, inb_iN, ix_iN, isZ_0, isZ_1, ↓reduceIte, eq_self, c1, c2, kd_b ho, kd_b ho2, w7, v7, u7]) (by unfold f_X8_same; simp (maxSteps := 4000000) (disch := omega) only [chk_t, beq_self_eq_true, nm_s, bj1_s, bj2_s, bj3_s, mo_1, mo_0, l_0, l_1, l_2, l_3, l_4, l_5, l_6, l_7, l_8, l_9, l_10, l_11, l_12, l_13, l_14, l_15, l_16, l_17, l_18, l_19, l_20, l_21, l_30, l_31, l_32, l_36, l_40, l_41, l_42, l_43, l_44, l_45, l_46, l_47, l_48, l_49, l_50, l_51, l_52, l_57, l_58, l_60, l_64, l_72, l_80, l_92, l_98, l_99, l_100, l_102, l_105, l_111, l_112, l_114, l_115, l_116, l_117, l_120, l_144, l_200, l_201, l_240, l_300, l_320, l_400, l_500, l_550, l_560, l_649, l_650, l_1000, l_1400, l_2000, l_4000, l_10000, iN_add, iN_sub, iN_mul, iN_le_t, iN_le_f, iN_lt_t, iN_lt_f, iN_eq_f, inb_iN, ix_iN, isZ_0, isZ_1, ↓reduceIte, eq_self, place8, e1, e2, w8, v8, u8])
          · obtain ⟨r1, r2, r3⟩ := h.1.2.2.1 k hk
            obtain ⟨t1, t2, t3⟩ := h.1.2.2.1 l hl
            rcases r2 with r2 | ⟨r2, n, hsl⟩
            · refine pOK_found (f := 1) (by omega) h ?_ ?_
              · unfold f_X7_same
                simp (maxSteps := 4000000) (disch := omega) only [chk_t, beq_self_eq_true, nm_s, bj1_s, bj2_s, bj3_s, mo_1, mo_0, l_0, l_1, l_2, l_3, l_4, l_5, l_6, l_7, l_8, l_9, l_10, l_11, l_12, l_13, l_14, l_15, l_16, l_17, l_18, l_19, l_20, l_21, l_30, l_31, l_32, l_36, l_40, l_41, l_42, l_43, l_44, l_45, l_46, l_47, l_48, l_49, l_50, l_51, l_52, l_57, l_58, l_60, l_64, l_72, l_80, l_92, l_98, l_99, l_100, l_102, l_105, l_111, l_112, l_114, l_115, l_116, l_117, l_120, l_144, l_200, l_201, l_240, l_300, l_320, l_400, l_500, l_550, l_560, l_649, l_650, l_1000, l_1400, l_2000, l_4000, l_10000, iN_add, iN_sub, iN_mul, iN_le_t, iN_le_f, iN_lt_t, iN_lt_f, iN_eq_f, inb_iN, ix_iN, isZ_0, isZ_1, ↓reduceIte, eq_self, c1, c2, kd_b ho, kd_b ho2, w7, v7, u7, r1, r2, found_ok]
              · unfold f_X8_same
                simp (maxSteps := 4000000) (disch := omega) only [chk_t, beq_self_eq_true, nm_s, bj1_s, bj2_s, bj3_s, mo_1, mo_0, l_0, l_1, l_2, l_3, l_4, l_5, l_6, l_7, l_8, l_9, l_10, l_11, l_12, l_13, l_14, l_15, l_16, l_17, l_18, l_19, l_20, l_21, l_30, l_31, l_32, l_36, l_40, l_41, l_42, l_43, l_44, l_45, l_46, l_47, l_48, l_49, l_50, l_51, l_52, l_57, l_58, l_60, l_64, l_72, l_80, l_92, l_98, l_99, l_100, l_102, l_105, l_111, l_112, l_114, l_115, l_116, l_117, l_120, l_144, l_200, l_201, l_240, l_300, l_320, l_400, l_500, l_550, l_560, l_649, l_650, l_1000, l_1400, l_2000, l_4000, l_10000, iN_add, iN_sub, iN_mul, iN_le_t, iN_le_f, iN_lt_t, iN_lt_f, iN_eq_f, inb_iN, ix_iN, isZ_0, isZ_1, ↓reduceIte, eq_self, place8, e1, e2, w8, v8, u8, fndC_o, r2, meets_ok]
            · rcases t2 with t2 | ⟨t2, n2, hsl2⟩
              · refine pOK_found (f := 1) (by omega) h ?_ ?_
                · unfold f_X7_same
                  simp (maxSteps := 4000000) (disch := omega) only [chk_t, beq_self_eq_true, nm_s, bj1_s, bj2_s, bj3_s, mo_1, mo_0, l_0, l_1, l_2, l_3, l_4, l_5, l_6, l_7, l_8, l_9, l_10, l_11, l_12, l_13, l_14, l_15, l_16, l_17, l_18, l_19, l_20, l_21, l_30, l_31, l_32, l_36, l_40, l_41, l_42, l_43, l_44, l_45, l_46, l_47, l_48, l_49, l_50, l_51, l_52, l_57, l_58, l_60, l_64, l_72, l_80, l_92, l_98, l_99, l_100, l_102, l_105, l_111, l_112, l_114, l_115, l_116, l_117, l_120, l_144, l_200, l_201, l_240, l_300, l_320, l_400, l_500, l_550, l_560, l_649, l_650, l_1000, l_1400, l_2000, l_4000, l_10000, iN_add, iN_sub, iN_mul, iN_le_t, iN_le_f, iN_lt_t, iN_lt_f, iN_eq_f, inb_iN, ix_iN, isZ_0, isZ_1, ↓reduceIte, eq_self, c1, c2, kd_b ho, kd_b ho2, w7, v7, u7, r1, r2, t1, t2, found_ok]
                · unfold f_X8_same
                  simp (maxSteps := 4000000) (disch := omega) only [chk_t, beq_self_eq_true, nm_s, bj1_s, bj2_s, bj3_s, mo_1, mo_0, l_0, l_1, l_2, l_3, l_4, l_5, l_6, l_7, l_8, l_9, l_10, l_11, l_12, l_13, l_14, l_15, l_16, l_17, l_18, l_19, l_20, l_21, l_30, l_31, l_32, l_36, l_40, l_41, l_42, l_43, l_44, l_45, l_46, l_47, l_48, l_49, l_50, l_51, l_52, l_57, l_58, l_60, l_64, l_72, l_80, l_92, l_98, l_99, l_100, l_102, l_105, l_111, l_112, l_114, l_115, l_116, l_117, l_120, l_144, l_200, l_201, l_240, l_300, l_320, l_400, l_500, l_550, l_560, l_649, l_650, l_1000, l_1400, l_2000, l_4000, l_10000, iN_add, iN_sub, iN_mul, iN_le_t, iN_le_f, iN_lt_t, iN_lt_f, iN_eq_f, inb_iN, ix_iN, isZ_0, isZ_1, ↓reduceIte, eq_self, place8, e1, e2, w8, v8, u8, fndC_o, r2, t2, meets_ok]
              · have hX := nx_sl hsl
                have hc := nx_c (G := G) r3
                have hX4 : newX k G 4 = iN 0 := nx_4
                have hY := ls_sl (D := newX k G) hsl2
                have hd := ls_c (D := newX k G) t3
                have hY4 : lsS (SL l G) (newX k G) 4 = iN 0 := ls_4
                have hNew := fun A => nx_new (k := k) (G := G) (A := A) hk
                have hNew2 := fun A D W => new2 (k := l) (G := G) (A := A) (D := D) (W := W) hl
                have hK := fun D => ls_keep (S := SL l G) (D := D) (E := newX k G)
                generalize newX k G = X at *
                have hSL : ∀ D, slR (lsS (SL l G) D) n2 := fun D => ls_sl hsl2
                generalize hYe : lsS (SL l G) X = Y at *
                obtain ⟨A, hA, fA⟩ := till_ok (o := 17) (X := X) (v := iN v) (G := G) rfl ho (by omega) hX hX4 hc.2.1 hc.2.2.1 hc.2.2.2 (qR_N hq2) (t1N ht1 (by omega))
                have q1 : A.1 (71 + l) = G.1 (71 + l) := fA.1.1 _ (by omega)
                obtain ⟨B, hB, fB⟩ := till_ok (o := 17) (X := Y) (v := iN u) (G := A) rfl ho2 (by omega) hY hY4 (by rw [q1]; exact hd.2.1) (by rw [q1]; exact hd.2.2.1) (by rw [q1]; exact hd.2.2.2) (qR_N hq2) (t1N ht1 (by omega))
                have s1 : G.1 (71 + k) 1 = iN n := hc.1.trans hX.1.1
                have s2 : A.1 (71 + l) 1 = iN n2 := by rw [q1]; exact hd.1.trans hY.1.1
                have ccB := cc_tr (cc_fr fA (by omega) (by omega)) (cc_fr fB (by omega) (by omega))
                have key : ∀ H : G_, (∀ q, 50 ≤ q → H.1 q = G.1 q) → ∃ D' W', f_X8_layNew (iN k) H = some (stM 4 X (WM H) (LG 4 H)) ∧ ∃ D1 W1, f_X8_ticksTill (iN q) (iN t) (iN v) (stM 4 X (WM H) (LG 4 H)) = some (tillS (iN q) (iN t) (iN v) (bgS X), stM 4 D1 W1 (LG 4 H)) ∧ f_X8_layNew (iN l) (stM 4 D1 W1 (LG 4 H)) = some (stM 4 (lsS (SL l G) D1) W1 (LG 4 H)) ∧ f_X8_ticksTill (iN q) (iN t) (iN u) (stM 4 (lsS (SL l G) D1) W1 (LG 4 H)) = some (tillS (iN q) (iN t) (iN u) (bgS Y), stM 4 D' W' (LG 4 H)) := by
                  intro H hH
                  have hbM := bM_LG (m := 4) (G := H) (by omega)
                  obtain ⟨D1, W1, m1, g1⟩ := mtill_ok (D := X) (W := WM H) (v := iN v) (q := iN q) hbM hX.1 (t1N ht1 (by omega))
                  obtain ⟨D2, W2, m2, -⟩ := mtill_ok (D := lsS (SL l G) D1) (W := W1) (v := iN u) (q := iN q) hbM (hSL D1).1 (t1N ht1 (by omega))
                  have eb : bgS (lsS (SL l G) D1) = bgS Y := by
                    exact bg_eq (hK D1 g1)
                  rw [eb] at m2
                  exact ⟨D2, W2, hNew H hH, D1, W1, m1, hNew2 H D1 W1 hH, m2⟩
                rcases till_r (iN q) (iN t) (iN v) (bgS X) with x1 | ⟨i, i1, i2, x1⟩
                · obtain ⟨D', W', m1, D1, W1, m2, m3, m4⟩ := key B (fun q hq => ccB.1 q (by omega))
                  rw [x1] at hA m2
                  refine pOK_none (x := -iN 9) h (G1 := B) ?_ ccB (H := stM 4 D' W' (LG 4 B)) ?_ (mf_st mf_LG)
                  · unfold f_X7_same
                    simp (maxSteps := 4000000) (disch := omega) only [chk_t, beq_self_eq_true, nm_s, bj1_s, bj2_s, bj3_s, mo_1, mo_0, l_0, l_1, l_2, l_3, l_4, l_5, l_6, l_7, l_8, l_9, l_10, l_11, l_12, l_13, l_14, l_15, l_16, l_17, l_18, l_19, l_20, l_21, l_30, l_31, l_32, l_36, l_40, l_41, l_42, l_43, l_44, l_45, l_46, l_47, l_48, l_49, l_50, l_51, l_52, l_57, l_58, l_60, l_64, l_72, l_80, l_92, l_98, l_99, l_100, l_102, l_105, l_111, l_112, l_114, l_115, l_116, l_117, l_120, l_144, l_200, l_201, l_240, l_300, l_320, l_400, l_500, l_550, l_560, l_649, l_650, l_1000, l_1400, l_2000, l_4000, l_10000, iN_add, iN_sub, iN_mul, iN_le_t, iN_le_f, iN_lt_t, iN_lt_f, iN_eq_f, inb_iN, ix_iN, isZ_0, isZ_1, ↓reduceIte, eq_self, c1, c2, kd_b ho, kd_b ho2, w7, v7, u7, r1, r2, t1, t2, s1, hA, s2, hB]
                  · have r2' : B.1 131 k = iN 1 := by rw [ccB.1 131 (by omega)]; exact r2
                    have t2' : B.1 131 l = iN 1 := by rw [ccB.1 131 (by omega)]; exact t2
                    unfold f_X8_same
                    simp (maxSteps := 4000000) (disch := omega) only [chk_t, beq_self_eq_true, nm_s, bj1_s, bj2_s, bj3_s, mo_1, mo_0, l_0, l_1, l_2, l_3, l_4, l_5, l_6, l_7, l_8, l_9, l_10, l_11, l_12, l_13, l_14, l_15, l_16, l_17, l_18, l_19, l_20, l_21, l_30, l_31, l_32, l_36, l_40, l_41, l_42, l_43, l_44, l_45, l_46, l_47, l_48, l_49, l_50, l_51, l_52, l_57, l_58, l_60, l_64, l_72, l_80, l_92, l_98, l_99, l_100, l_102, l_105, l_111, l_112, l_114, l_115, l_116, l_117, l_120, l_144, l_200, l_201, l_240, l_300, l_320, l_400, l_500, l_550, l_560, l_649, l_650, l_1000, l_1400, l_2000, l_4000, l_10000, iN_add, iN_sub, iN_mul, iN_le_t, iN_le_f, iN_lt_t, iN_lt_f, iN_eq_f, inb_iN, ix_iN, isZ_0, isZ_1, ↓reduceIte, eq_self, place8, e1, e2, w8, v8, u8, r2', t2', m1, m2, m3, m4]
                · rcases till_r (iN q) (iN t) (iN u) (bgS Y) with x2 | ⟨j, j1, j2, x2⟩
                  · obtain ⟨D', W', m1, D1, W1, m2, m3, m4⟩ := key B (fun q hq => ccB.1 q (by omega))
                    rw [x1] at hA m2
                    rw [x2] at hB m4
                    refine pOK_none (x := -iN 9) h (G1 := B) ?_ ccB (H := stM 4 D' W' (LG 4 B)) ?_ (mf_st mf_LG)
                    · unfold f_X7_same
                      simp (maxSteps := 4000000) (disch := omega) only [chk_t, beq_self_eq_true, nm_s, bj1_s, bj2_s, bj3_s, mo_1, mo_0, l_0, l_1, l_2, l_3, l_4, l_5, l_6, l_7, l_8, l_9, l_10, l_11, l_12, l_13, l_14, l_15, l_16, l_17, l_18, l_19, l_20, l_21, l_30, l_31, l_32, l_36, l_40, l_41, l_42, l_43, l_44, l_45, l_46, l_47, l_48, l_49, l_50, l_51, l_52, l_57, l_58, l_60, l_64, l_72, l_80, l_92, l_98, l_99, l_100, l_102, l_105, l_111, l_112, l_114, l_115, l_116, l_117, l_120, l_144, l_200, l_201, l_240, l_300, l_320, l_400, l_500, l_550, l_560, l_649, l_650, l_1000, l_1400, l_2000, l_4000, l_10000, iN_add, iN_sub, iN_mul, iN_le_t, iN_le_f, iN_lt_t, iN_lt_f, iN_eq_f, inb_iN, ix_iN, isZ_0, isZ_1, ↓reduceIte, eq_self, c1, c2, kd_b ho, kd_b ho2, w7, v7, u7, r1, r2, t1, t2, s1, hA, s2, hB, N_m9]
                    · have r2' : B.1 131 k = iN 1 := by rw [ccB.1 131 (by omega)]; exact r2
                      have t2' : B.1 131 l = iN 1 := by rw [ccB.1 131 (by omega)]; exact t2
                      unfold f_X8_same
                      simp (maxSteps := 4000000) (disch := omega) only [chk_t, beq_self_eq_true, nm_s, bj1_s, bj2_s, bj3_s, mo_1, mo_0, l_0, l_1, l_2, l_3, l_4, l_5, l_6, l_7, l_8, l_9, l_10, l_11, l_12, l_13, l_14, l_15, l_16, l_17, l_18, l_19, l_20, l_21, l_30, l_31, l_32, l_36, l_40, l_41, l_42, l_43, l_44, l_45, l_46, l_47, l_48, l_49, l_50, l_51, l_52, l_57, l_58, l_60, l_64, l_72, l_80, l_92, l_98, l_99, l_100, l_102, l_105, l_111, l_112, l_114, l_115, l_116, l_117, l_120, l_144, l_200, l_201, l_240, l_300, l_320, l_400, l_500, l_550, l_560, l_649, l_650, l_1000, l_1400, l_2000, l_4000, l_10000, iN_add, iN_sub, iN_mul, iN_le_t, iN_le_f, iN_lt_t, iN_lt_f, iN_eq_f, inb_iN, ix_iN, isZ_0, isZ_1, ↓reduceIte, eq_self, place8, e1, e2, w8, v8, u8, r2', t2', m1, m2, m3, m4, N_m9]
                  · have eab : ab (iN i - iN j) = if iN i < iN j then iN j - iN i else iN i - iN j := ab_far (by rw [li (by omega)]; omega) (by rw [li (by omega)]; omega)
                    have efar := far_ok (iN i) (iN j)
                    rw [← eab] at efar
                    generalize hz : ab (iN i - iN j) = z at *
                    have fin : ∀ (y : Nat) (cmp : (iN j ≤ iN i) = True ∧ y = 0 ∨ (iN j ≤ iN i) = False ∧ y = 1), pOK (f_X7_same (iN k) (iN l) (iN q) (iN t) (iN v) (iN u)) (f_X8_same (iN k) (iN l) (iN q) (iN t) (iN v) (iN u)) G := by
                      intro y cmp
                      have e50 := cc_50 (y := iN y) ccB
                      obtain ⟨D', W', m1, D1, W1, m2, m3, m4⟩ := key (sI B 0 16 (iN y)) e50
                      rw [x1] at hA m2
                      rw [x2] at hB m4
                      have r2' : (sI B 0 16 (iN y)).1 131 k = iN 1 := by rw [e50 131 (by omega)]; exact r2
                      have t2' : (sI B 0 16 (iN y)).1 131 l = iN 1 := by rw [e50 131 (by omega)]; exact t2
                      rcases cmp with ⟨cm, rfl⟩ | ⟨cm, rfl⟩
                      · have hC : f_X7_same (iN k) (iN l) (iN q) (iN t) (iN v) (iN u) G = some (z, sI B 0 16 (iN 0)) := by
                          unfold f_X7_same f_X7_told
                          rw [← hz]
                          rw [c1, bj1_s, c2, bj1_s, mo_1, kd_b ho, chk_t, mo_1, kd_b ho2, chk_t, w7, bj1_s]
                          refine (if_neg (by decide)).trans ?_
                          refine (congrArg (fun z => bj1 z _) v7).trans ?_
                          rw [bj1_s]
                          refine (if_neg (by decide)).trans ?_
                          refine (congrArg (fun z => bj1 z _) u7).trans ?_
                          rw [bj1_s]
                          refine (if_neg (by decide)).trans ?_
                          rw [r1, r2, t1, t2, s1]
                          refine (if_neg (by decide)).trans ?_
                          refine (if_neg (by decide)).trans ?_
                          rw [hA, bj2_s, s2, hB, bj2_s]
                          refine (if_neg (of_eq_false (N_m9 (b := i) (by omega)))).trans ?_
                          refine (if_neg (of_eq_false (N_m9 (b := j) (by omega)))).trans ?_
                          exact if_pos (of_eq_true cm)
                        refine pOK_tell (x := z) (y := iN 0) (G1 := B) (H := stM 4 D' W' (LG 4 (sI B 0 16 (iN 0)))) h hC ccB ?_ (mf_st mf_LG)
                        unfold f_X8_same f_X8_tells
                        simp (maxSteps := 4000000) (disch := omega) only [chk_t, beq_self_eq_true, nm_s, bj1_s, bj2_s, bj3_s, mo_1, mo_0, l_0, l_1, l_2, l_3, l_4, l_5, l_6, l_7, l_8, l_9, l_10, l_11, l_12, l_13, l_14, l_15, l_16, l_17, l_18, l_19, l_20, l_21, l_30, l_31, l_32, l_36, l_40, l_41, l_42, l_43, l_44, l_45, l_46, l_47, l_48, l_49, l_50, l_51, l_52, l_57, l_58, l_60, l_64, l_72, l_80, l_92, l_98, l_99, l_100, l_102, l_105, l_111, l_112, l_114, l_115, l_116, l_117, l_120, l_144, l_200, l_201, l_240, l_300, l_320, l_400, l_500, l_550, l_560, l_649, l_650, l_1000, l_1400, l_2000, l_4000, l_10000, iN_add, iN_sub, iN_mul, iN_le_t, iN_le_f, iN_lt_t, iN_lt_f, iN_eq_f, inb_iN, ix_iN, isZ_0, isZ_1, ↓reduceIte, eq_self, place8, e1, e2, w8, v8, u8, r2', t2', m1, m2, m3, m4, N_m9, cm, efar]
                      · have hC : f_X7_same (iN k) (iN l) (iN q) (iN t) (iN v) (iN u) G = some (z, sI B 0 16 (iN 1)) := by
                          unfold f_X7_same f_X7_told
                          rw [← hz]
                          rw [c1, bj1_s, c2, bj1_s, mo_1, kd_b ho, chk_t, mo_1, kd_b ho2, chk_t, w7, bj1_s]
                          refine (if_neg (by decide)).trans ?_
                          refine (congrArg (fun z => bj1 z _) v7).trans ?_
                          rw [bj1_s]
                          refine (if_neg (by decide)).trans ?_
                          refine (congrArg (fun z => bj1 z _) u7).trans ?_
                          rw [bj1_s]
                          refine (if_neg (by decide)).trans ?_
                          rw [r1, r2, t1, t2, s1]
                          refine (if_neg (by decide)).trans ?_
                          refine (if_neg (by decide)).trans ?_
                          rw [hA, bj2_s, s2, hB, bj2_s]
                          refine (if_neg (of_eq_false (N_m9 (b := i) (by omega)))).trans ?_
                          refine (if_neg (of_eq_false (N_m9 (b := j) (by omega)))).trans ?_
                          exact if_neg (of_eq_false cm)
                        refine pOK_tell (x := z) (y := iN 1) (G1 := B) (H := stM 4 D' W' (LG 4 (sI B 0 16 (iN 1)))) h hC ccB ?_ (mf_st mf_LG)
                        unfold f_X8_same f_X8_tells
                        simp (maxSteps := 4000000) (disch := omega) only [chk_t, beq_self_eq_true, nm_s, bj1_s, bj2_s, bj3_s, mo_1, mo_0, l_0, l_1, l_2, l_3, l_4, l_5, l_6, l_7, l_8, l_9, l_10, l_11, l_12, l_13, l_14, l_15, l_16, l_17, l_18, l_19, l_20, l_21, l_30, l_31, l_32, l_36, l_40, l_41, l_42, l_43, l_44, l_45, l_46, l_47, l_48, l_49, l_50, l_51, l_52, l_57, l_58, l_60, l_64, l_72, l_80, l_92, l_98, l_99, l_100, l_102, l_105, l_111, l_112, l_114, l_115, l_116, l_117, l_120, l_144, l_200, l_201, l_240, l_300, l_320, l_400, l_500, l_550, l_560, l_649, l_650, l_1000, l_1400, l_2000, l_4000, l_10000, iN_add, iN_sub, iN_mul, iN_le_t, iN_le_f, iN_lt_t, iN_lt_f, iN_eq_f, inb_iN, ix_iN, isZ_0, isZ_1, ↓reduceIte, eq_self, place8, e1, e2, w8, v8, u8, r2', t2', m1, m2, m3, m4, N_m9, cm, efar]
                    by_cases cm : j ≤ i
                    · exact fin 0 (Or.inl ⟨iN_le_t cm (by omega), rfl⟩)
                    · exact fin 1 (Or.inr ⟨iN_le_f (by omega) (by omega), rfl⟩)

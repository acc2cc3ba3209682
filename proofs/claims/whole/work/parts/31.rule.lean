/-! safe, rule -/
def safG (w : Int32) : Int32 := if w ≤ iN 500 then iN 0 else (w - iN 500) / iN 10
theorem safG_c {w : Int32} (h : 0 ≤ w.toInt) (h2 : w.toInt ≤ 3000) : mx (w - iN 500) (iN 0) / iN 10 = safG w := by
  have e1 : (w - iN 500).toInt = w.toInt - 500 := t_sub (by rw [li (by omega)]; omega) (by rw [li (by omega)]; omega)
  unfold safG
  by_cases c : w ≤ iN 500
  · rw [if_pos c]
    have c2 := t_le.mp c
    rw [li (by omega)] at c2
    have e2 : mx (w - iN 500) (iN 0) = iN 0 := by
      rw [t_eq, mx_t, e1, li (by omega)]
      split <;> omega
    rw [e2]
    rfl
  · rw [if_neg c]
    have c2 : ¬ w.toInt ≤ (iN 500).toInt := fun e => c (t_le.mpr e)
    rw [li (by omega)] at c2
    have e2 : mx (w - iN 500) (iN 0) = w - iN 500 := by
      rw [t_eq, mx_t, e1, li (by omega)]
      split <;> omega
    rw [e2]
def safT (g : Nat → Int32) : Nat → Int32
  | 0 => iN 0
  | k + 1 => safT g k + g (k + 1)
theorem op_safe (a1 a2 : Int32) {G : G_} (h : RR G) : pOK (f_X7_safe a1 a2) (f_X8_safe a1 a2) G := by
  rcases slab_cases a1 G with ⟨e1, c1⟩ | ⟨k, hk, rfl, e1, c1, ho⟩
  · refine pOK_same (x := -iN 1) h (by unfold f_X7_safe; rw [c1, bj1_s]; rfl) ?_
    rcases heat_N a2 with ⟨_, w8⟩ | ⟨_, w8, -⟩ <;> (unfold f_X8_safe; simp (disch := omega) only [chk_t, beq_self_eq_true, nm_s, bj1_s, bj2_s, bj3_s, mo_1, mo_0, l_0, l_1, l_2, l_3, l_4, l_5, l_6, l_7, l_8, l_9, l_10, l_11, l_12, l_13, l_14, l_15, l_16, l_17, l_18, l_19, l_20, l_21, l_30, l_31, l_32, l_36, l_40, l_41, l_42, l_43, l_44, l_45, l_46, l_47, l_48, l_49, l_50, l_51, l_52, l_57, l_58, l_60, l_64, l_72, l_80, l_92, l_98, l_99, l_100, l_102, l_105, l_111, l_112, l_114, l_115, l_116, l_117, l_120, l_144, l_200, l_201, l_240, l_300, l_320, l_400, l_500, l_550, l_560, l_649, l_650, l_1000, l_1400, l_2000, l_4000, l_10000, iN_add, iN_sub, iN_mul, iN_le_t, iN_le_f, iN_lt_t, iN_lt_f, iN_eq_f, inb_iN, ix_iN, isZ_0, isZ_1, ↓reduceIte, eq_self, w8, ns_bad2 e1, le_m1])
  · rcases heat_N a2 with ⟨w7, w8⟩ | ⟨w7, w8, q, rfl, hq1, hq2⟩
    · refine pOK_same (x := -iN 1) h ?_ ?_
      · unfold f_X7_safe
        simp (disch := omega) only [chk_t, beq_self_eq_true, nm_s, bj1_s, bj2_s, bj3_s, mo_1, mo_0, l_0, l_1, l_2, l_3, l_4, l_5, l_6, l_7, l_8, l_9, l_10, l_11, l_12, l_13, l_14, l_15, l_16, l_17, l_18, l_19, l_20, l_21, l_30, l_31, l_32, l_36, l_40, l_41, l_42, l_43, l_44, l_45, l_46, l_47, l_48, l_49, l_50, l_51, l_52, l_57, l_58, l_60, l_64, l_72, l_80, l_92, l_98, l_99, l_100, l_102, l_105, l_111, l_112, l_114, l_115, l_116, l_117, l_120, l_144, l_200, l_201, l_240, l_300, l_320, l_400, l_500, l_550, l_560, l_649, l_650, l_1000, l_1400, l_2000, l_4000, l_10000, iN_add, iN_sub, iN_mul, iN_le_t, iN_le_f, iN_lt_t, iN_lt_f, iN_eq_f, inb_iN, ix_iN, isZ_0, isZ_1, ↓reduceIte, eq_self, c1, kd_b ho, w7]
      · unfold f_X8_safe
        simp (disch := omega) only [chk_t, beq_self_eq_true, nm_s, bj1_s, bj2_s, bj3_s, mo_1, mo_0, l_0, l_1, l_2, l_3, l_4, l_5, l_6, l_7, l_8, l_9, l_10, l_11, l_12, l_13, l_14, l_15, l_16, l_17, l_18, l_19, l_20, l_21, l_30, l_31, l_32, l_36, l_40, l_41, l_42, l_43, l_44, l_45, l_46, l_47, l_48, l_49, l_50, l_51, l_52, l_57, l_58, l_60, l_64, l_72, l_80, l_92, l_98, l_99, l_100, l_102, l_105, l_111, l_112, l_114, l_115, l_116, l_117, l_120, l_144, l_200, l_201, l_240, l_300, l_320, l_400, l_500, l_550, l_560, l_649, l_650, l_1000, l_1400, l_2000, l_4000, l_10000, iN_add, iN_sub, iN_mul, iN_le_t, iN_le_f, iN_lt_t, iN_lt_f, iN_eq_f, inb_iN, ix_iN, isZ_0, isZ_1, ↓reduceIte, eq_self, w8, ns_bad1, le_m1]
    · obtain ⟨r1, r2, r3⟩ := h.1.2.2.1 k hk
      rcases r2 with r2 | ⟨r2, n, hsl⟩
      · refine pOK_found (f := 1) (by omega) h ?_ ?_
        · unfold f_X7_safe
          simp (disch := omega) only [chk_t, beq_self_eq_true, nm_s, bj1_s, bj2_s, bj3_s, mo_1, mo_0, l_0, l_1, l_2, l_3, l_4, l_5, l_6, l_7, l_8, l_9, l_10, l_11, l_12, l_13, l_14, l_15, l_16, l_17, l_18, l_19, l_20, l_21, l_30, l_31, l_32, l_36, l_40, l_41, l_42, l_43, l_44, l_45, l_46, l_47, l_48, l_49, l_50, l_51, l_52, l_57, l_58, l_60, l_64, l_72, l_80, l_92, l_98, l_99, l_100, l_102, l_105, l_111, l_112, l_114, l_115, l_116, l_117, l_120, l_144, l_200, l_201, l_240, l_300, l_320, l_400, l_500, l_550, l_560, l_649, l_650, l_1000, l_1400, l_2000, l_4000, l_10000, iN_add, iN_sub, iN_mul, iN_le_t, iN_le_f, iN_lt_t, iN_lt_f, iN_eq_f, inb_iN, ix_iN, isZ_0, isZ_1, ↓reduceIte, eq_self, c1, kd_b ho, w7, r1, r2, found_ok]
        · unfold f_X8_safe
          simp (disch := omega) only [chk_t, beq_self_eq_true, nm_s, bj1_s, bj2_s, bj3_s, mo_1, mo_0, l_0, l_1, l_2, l_3, l_4, l_5, l_6, l_7, l_8, l_9, l_10, l_11, l_12, l_13, l_14, l_15, l_16, l_17, l_18, l_19, l_20, l_21, l_30, l_31, l_32, l_36, l_40, l_41, l_42, l_43, l_44, l_45, l_46, l_47, l_48, l_49, l_50, l_51, l_52, l_57, l_58, l_60, l_64, l_72, l_80, l_92, l_98, l_99, l_100, l_102, l_105, l_111, l_112, l_114, l_115, l_116, l_117, l_120, l_144, l_200, l_201, l_240, l_300, l_320, l_400, l_500, l_550, l_560, l_649, l_650, l_1000, l_1400, l_2000, l_4000, l_10000, iN_add, iN_sub, iN_mul, iN_le_t, iN_le_f, iN_lt_t, iN_lt_f, iN_eq_f, inb_iN, ix_iN, isZ_0, isZ_1, ↓reduceIte, eq_self, w8, ns_miss hk (show (fndC 1 G).1 131 k = iN 0 by rw [fndC_o (by omega) (by omega)]; exact r2), le_m3]
      · have hX := nx_sl hsl
        have hc := nx_c (G := G) r3
        have hX4 : newX k G 4 = iN 0 := nx_4
        have hNew := fun A => nx_new (k := k) (G := G) (A := A) hk
        generalize newX k G = X at *
        have hqR := qR_N hq2
        have wX0 := wf_bg hX (by unfold mD; rw [hX4]; decide)
        have wX := fun j => wf_ov (k := j) (kd_ := iN 3) wX0 hqR
        obtain ⟨W, hW⟩ : ∃ W : Nat → Int32, W = fun j => midW (ovS (iN 3) (iN q) (bgS X) j) := ⟨_, rfl⟩
        have hWt : ∀ j, midW (ovS (iN 3) (iN q) (bgS X) j) = W j := fun j => by rw [hW]
        have hWr : ∀ j, 0 ≤ (W j).toInt ∧ (W j).toInt ≤ 3000 := fun j => by
          have w := wX j
          have hn := w.1.2
          rw [← hWt]
          unfold midW
          exact w.2.2.1 _ (by rw [okN_n w.1]; omega)
        obtain ⟨S, hS⟩ : ∃ S : Nat → Int32, S = safT (fun j => safG (W j)) := ⟨_, rfl⟩
        have hS0 : S 0 = iN 0 := by rw [hS]; rfl
        have hSs : ∀ j, S (j + 1) = S j + safG (W (j + 1)) := fun j => by rw [hS]; rfl
        obtain ⟨z, hz⟩ : ∃ z : Int32, z = tillF (fun j => !decide (S j < iN 300)) 200 0 := ⟨_, rfl⟩
        obtain ⟨A, hA, cA, fA⟩ := begin_ok (o := 17) (X := X) (G := G) rfl ho (by omega) hX.1 hc.2.1 hc.2.2.2 hX4
        have s1 : G.1 (71 + k) 1 = iN n := hc.1.trans hX.1.1
        have s2 : G.1 (71 + k) 3 = X 2 := hc.2.2.1
        have kC := loop_iv (fun f v (s : Int32 × G_) => f_X7_safe_l54_12 (iN q) f s.1 v s.2) (fun j s => 1 ≤ j ∧ tillF (fun j => !decide (S j < iN 300)) (201 - j) (j - 1) = z ∧ s.1 = S (j - 1) ∧ cD 17 (ovS (iN 3) (iN q) (bgS X) (j - 1)) s.2 ∧ cc G s.2)
          (fun r => ∃ C, cc G C ∧ ((z = -iN 9 ∧ r = some (-iN 9, C)) ∨ (∃ j, 1 ≤ j ∧ j ≤ 200 ∧ z = iN j ∧ r = some (iN j, sI C 0 16 (W j))))) 1 201 (by
          intro f j ⟨x, H⟩ h3 h5 ⟨_, i0, ix_, i1, i2⟩
          have ix_ : x = _ := ix_
          obtain ⟨i, rfl⟩ : ∃ i, j = i + 1 := ⟨j - 1, by omega⟩
          rw [show i + 1 - 1 = i by omega] at i0 i1 ix_
          subst ix_
          obtain ⟨C, hC, cC, fC⟩ := heat_ok (o := 17) (k := iN 3) (q := iN q) rfl (wX i) hqR i1
          have cC : cD 17 (ovS (iN 3) (iN q) (bgS X) (i + 1)) C := cC
          have ccC := cc_tr i2 (cc_fr fC (by omega) (by omega))
          have m1 := midW_ok (o := 17) rfl (wX (i + 1)).1 cC
          rw [hWt] at m1
          have hg := safG_c (hWr (i + 1)).1 (hWr (i + 1)).2
          rw [show 201 - (i + 1) = (200 - (i + 1)) + 1 by omega] at i0
          unfold tillF at i0
          by_cases c : S (i + 1) < iN 300
          · left
            rw [if_neg (by rw [decide_eq_true c]; decide)] at i0
            refine ⟨(S (i + 1), C), ⟨by omega, by rw [show 201 - (i + 1 + 1) = 200 - (i + 1) by omega]; exact i0, rfl, cC, ccC⟩, ?_⟩
            show f_X7_safe_l54_12 (iN q) (f + 1) (S i) (iN (i + 1)) H = f_X7_safe_l54_12 (iN q) f (S (i + 1)) (iN (i + 1 + 1)) C
            conv => lhs; unfold f_X7_safe_l54_12
            rw [hSs] at c ⊢
            simp (disch := omega) only [chk_t, beq_self_eq_true, nm_s, bj1_s, bj2_s, bj3_s, mo_1, mo_0, l_0, l_1, l_2, l_3, l_4, l_5, l_6, l_7, l_8, l_9, l_10, l_11, l_12, l_13, l_14, l_15, l_16, l_17, l_18, l_19, l_20, l_21, l_30, l_31, l_32, l_36, l_40, l_41, l_42, l_43, l_44, l_45, l_46, l_47, l_48, l_49, l_50, l_51, l_52, l_57, l_58, l_60, l_64, l_72, l_80, l_92, l_98, l_99, l_100, l_102, l_105, l_111, l_112, l_114, l_115, l_116, l_117, l_120, l_144, l_200, l_201, l_240, l_300, l_320, l_400, l_500, l_550, l_560, l_649, l_650, l_1000, l_1400, l_2000, l_4000, l_10000, iN_add, iN_sub, iN_mul, iN_le_t, iN_le_f, iN_lt_t, iN_lt_f, iN_eq_f, inb_iN, ix_iN, isZ_0, isZ_1, ↓reduceIte, eq_self, hC, m1, hg, if_pos c]
          · right
            rw [if_pos (by rw [decide_eq_false c]; decide)] at i0
            refine ⟨C, ccC, Or.inr ⟨i + 1, by omega, by omega, i0.symm, ?_⟩⟩
            show f_X7_safe_l54_12 (iN q) (f + 1) (S i) (iN (i + 1)) H = _
            rw [hSs] at c
            unfold f_X7_safe_l54_12 f_X7_told
            simp (disch := omega) only [chk_t, beq_self_eq_true, nm_s, bj1_s, bj2_s, bj3_s, mo_1, mo_0, l_0, l_1, l_2, l_3, l_4, l_5, l_6, l_7, l_8, l_9, l_10, l_11, l_12, l_13, l_14, l_15, l_16, l_17, l_18, l_19, l_20, l_21, l_30, l_31, l_32, l_36, l_40, l_41, l_42, l_43, l_44, l_45, l_46, l_47, l_48, l_49, l_50, l_51, l_52, l_57, l_58, l_60, l_64, l_72, l_80, l_92, l_98, l_99, l_100, l_102, l_105, l_111, l_112, l_114, l_115, l_116, l_117, l_120, l_144, l_200, l_201, l_240, l_300, l_320, l_400, l_500, l_550, l_560, l_649, l_650, l_1000, l_1400, l_2000, l_4000, l_10000, iN_add, iN_sub, iN_mul, iN_le_t, iN_le_f, iN_lt_t, iN_lt_f, iN_eq_f, inb_iN, ix_iN, isZ_0, isZ_1, ↓reduceIte, eq_self, hC, m1, hg, if_neg c]) (by
          intro f ⟨x, H⟩ ⟨_, i0, _, i1, i2⟩
          refine ⟨H, i2, Or.inl ⟨i0.symm, ?_⟩⟩
          show f_X7_safe_l54_12 (iN q) (f + 1) x (iN 201) H = _
          unfold f_X7_safe_l54_12
          simp (disch := omega) only [chk_t, beq_self_eq_true, nm_s, bj1_s, bj2_s, bj3_s, mo_1, mo_0, l_0, l_1, l_2, l_3, l_4, l_5, l_6, l_7, l_8, l_9, l_10, l_11, l_12, l_13, l_14, l_15, l_16, l_17, l_18, l_19, l_20, l_21, l_30, l_31, l_32, l_36, l_40, l_41, l_42, l_43, l_44, l_45, l_46, l_47, l_48, l_49, l_50, l_51, l_52, l_57, l_58, l_60, l_64, l_72, l_80, l_92, l_98, l_99, l_100, l_102, l_105, l_111, l_112, l_114, l_115, l_116, l_117, l_120, l_144, l_200, l_201, l_240, l_300, l_320, l_400, l_500, l_550, l_560, l_649, l_650, l_1000, l_1400, l_2000, l_4000, l_10000, iN_add, iN_sub, iN_mul, iN_le_t, iN_le_f, iN_lt_t, iN_lt_f, iN_eq_f, inb_iN, ix_iN, isZ_0, isZ_1, ↓reduceIte, eq_self]) (by omega) (n := FU) (fu_lt (by omega)) (s := (iN 0, A)) ⟨by omega, hz.symm, hS0.symm, cA, cc_fr fA (by omega) (by omega)⟩
        have kM : ∀ H : G_, (∀ q, 50 ≤ q → H.1 q = G.1 q) → ∃ C, mf H C ∧ ((z = -iN 9 ∧ f_X8_safe (iN k) (iN q) H = some (-iN 9, C)) ∨ (∃ j, 1 ≤ j ∧ j ≤ 200 ∧ z = iN j ∧ f_X8_safe (iN k) (iN q) H = some (iN j, sI C 124 2 (W j)))) := by
          intro H hH
          have hbM := bM_LG (m := 4) (G := H) (by omega)
          have key := loop_iv (fun f v (s : Int32 × G_) => f_X8_safe_l31_13 (iN q) f s.1 v s.2) (fun j s => 1 ≤ j ∧ tillF (fun j => !decide (S j < iN 300)) (201 - j) (j - 1) = z ∧ s.1 = S (j - 1) ∧ ∃ W', s.2 = stM 4 (ovS (iN 3) (iN q) (bgS X) (j - 1)) W' (LG 4 H))
            (fun r => ∃ C, mf H C ∧ ((z = -iN 9 ∧ r = some (-iN 9, C)) ∨ (∃ j, 1 ≤ j ∧ j ≤ 200 ∧ z = iN j ∧ r = some (iN j, sI C 124 2 (W j))))) 1 201 (by
            intro f j ⟨x, R⟩ h3 h5 ⟨_, i0, ix_, W', i1⟩
            have ix_ : x = _ := ix_
            have i1 : R = _ := i1
            subst i1
            obtain ⟨i, rfl⟩ : ∃ i, j = i + 1 := ⟨j - 1, by omega⟩
            rw [show i + 1 - 1 = i by omega] at i0 ix_
            rw [show i + 1 - 1 = i by omega]
            subst ix_
            obtain ⟨W2, m0⟩ := mtick_ok (W := W') (k := iN 3) (q := iN q) hbM (wX i).1
            have m0 : f_X8_tick (iN 3) (iN q) (stM 4 (ovS (iN 3) (iN q) (bgS X) i) W' (LG 4 H)) = some (stM 4 (ovS (iN 3) (iN q) (bgS X) (i + 1)) W2 (LG 4 H)) := m0
            have m1 := mmid_ok (W := W2) hbM (wX (i + 1)).1
            have m2 := midWv (W := W2) hbM (wX (i + 1)).1
            rw [hWt] at m2
            have hg : (if W (i + 1) ≤ iN 500 then iN 0 else (W (i + 1) - iN 500) / iN 10) = safG (W (i + 1)) := rfl
            rw [show 201 - (i + 1) = (200 - (i + 1)) + 1 by omega] at i0
            unfold tillF at i0
            by_cases c : S (i + 1) < iN 300
            · left
              rw [if_neg (by rw [decide_eq_true c]; decide)] at i0
              refine ⟨(S (i + 1), stM 4 (ovS (iN 3) (iN q) (bgS X) (i + 1)) W2 (LG 4 H)), ⟨by omega, by rw [show 201 - (i + 1 + 1) = 200 - (i + 1) by omega]; exact i0, rfl, W2, rfl⟩, ?_⟩
              show f_X8_safe_l31_13 (iN q) (f + 1) (S i) (iN (i + 1)) _ = f_X8_safe_l31_13 (iN q) f (S (i + 1)) (iN (i + 1 + 1)) _
              conv => lhs; unfold f_X8_safe_l31_13
              rw [hSs] at c ⊢
              simp (disch := omega) only [chk_t, beq_self_eq_true, nm_s, bj1_s, bj2_s, bj3_s, mo_1, mo_0, l_0, l_1, l_2, l_3, l_4, l_5, l_6, l_7, l_8, l_9, l_10, l_11, l_12, l_13, l_14, l_15, l_16, l_17, l_18, l_19, l_20, l_21, l_30, l_31, l_32, l_36, l_40, l_41, l_42, l_43, l_44, l_45, l_46, l_47, l_48, l_49, l_50, l_51, l_52, l_57, l_58, l_60, l_64, l_72, l_80, l_92, l_98, l_99, l_100, l_102, l_105, l_111, l_112, l_114, l_115, l_116, l_117, l_120, l_144, l_200, l_201, l_240, l_300, l_320, l_400, l_500, l_550, l_560, l_649, l_650, l_1000, l_1400, l_2000, l_4000, l_10000, iN_add, iN_sub, iN_mul, iN_le_t, iN_le_f, iN_lt_t, iN_lt_f, iN_eq_f, inb_iN, ix_iN, isZ_0, isZ_1, ↓reduceIte, eq_self, m0, m1, m2, ite_so, hg, if_pos c]
            · right
              rw [if_pos (by rw [decide_eq_false c]; decide)] at i0
              refine ⟨stM 4 (ovS (iN 3) (iN q) (bgS X) (i + 1)) W2 (LG 4 H), mf_st mf_LG, Or.inr ⟨i + 1, by omega, by omega, i0.symm, ?_⟩⟩
              show f_X8_safe_l31_13 (iN q) (f + 1) (S i) (iN (i + 1)) _ = _
              rw [hSs] at c
              unfold f_X8_safe_l31_13 f_X8_tells
              simp (disch := omega) only [chk_t, beq_self_eq_true, nm_s, bj1_s, bj2_s, bj3_s, mo_1, mo_0, l_0, l_1, l_2, l_3, l_4, l_5, l_6, l_7, l_8, l_9, l_10, l_11, l_12, l_13, l_14, l_15, l_16, l_17, l_18, l_19, l_20, l_21, l_30, l_31, l_32, l_36, l_40, l_41, l_42, l_43, l_44, l_45, l_46, l_47, l_48, l_49, l_50, l_51, l_52, l_57, l_58, l_60, l_64, l_72, l_80, l_92, l_98, l_99, l_100, l_102, l_105, l_111, l_112, l_114, l_115, l_116, l_117, l_120, l_144, l_200, l_201, l_240, l_300, l_320, l_400, l_500, l_550, l_560, l_649, l_650, l_1000, l_1400, l_2000, l_4000, l_10000, iN_add, iN_sub, iN_mul, iN_le_t, iN_le_f, iN_lt_t, iN_lt_f, iN_eq_f, inb_iN, ix_iN, isZ_0, isZ_1, ↓reduceIte, eq_self, m0, m1, m2, ite_so, hg, if_neg c]) (by
            intro f ⟨x, R⟩ ⟨_, i0, _, W', i1⟩
            have i1 : R = _ := i1
            subst i1
            refine ⟨stM 4 (ovS (iN 3) (iN q) (bgS X) (201 - 1)) W' (LG 4 H), mf_st mf_LG, Or.inl ⟨i0.symm, ?_⟩⟩
            show f_X8_safe_l31_13 (iN q) (f + 1) x (iN 201) _ = _
            unfold f_X8_safe_l31_13
            simp (disch := omega) only [chk_t, beq_self_eq_true, nm_s, bj1_s, bj2_s, bj3_s, mo_1, mo_0, l_0, l_1, l_2, l_3, l_4, l_5, l_6, l_7, l_8, l_9, l_10, l_11, l_12, l_13, l_14, l_15, l_16, l_17, l_18, l_19, l_20, l_21, l_30, l_31, l_32, l_36, l_40, l_41, l_42, l_43, l_44, l_45, l_46, l_47, l_48, l_49, l_50, l_51, l_52, l_57, l_58, l_60, l_64, l_72, l_80, l_92, l_98, l_99, l_100, l_102, l_105, l_111, l_112, l_114, l_115, l_116, l_117, l_120, l_144, l_200, l_201, l_240, l_300, l_320, l_400, l_500, l_550, l_560, l_649, l_650, l_1000, l_1400, l_2000, l_4000, l_10000, iN_add, iN_sub, iN_mul, iN_le_t, iN_le_f, iN_lt_t, iN_lt_f, iN_eq_f, inb_iN, ix_iN, isZ_0, isZ_1, ↓reduceIte, eq_self]) (by omega) (n := FU) (fu_lt (by omega)) (s := (iN 0, stM 4 (bgS X) (WM H) (LG 4 H))) ⟨by omega, hz.symm, hS0.symm, WM H, rfl⟩
          have r2' : H.1 131 k = iN 1 := by rw [hH 131 (by omega)]; exact r2
          have e : f_X8_safe (iN k) (iN q) H = f_X8_safe_l31_13 (iN q) FU (iN 0) (iN 1) (stM 4 (bgS X) (WM H) (LG 4 H)) := by
            unfold f_X8_safe
            simp (disch := omega) only [chk_t, beq_self_eq_true, nm_s, bj1_s, bj2_s, bj3_s, mo_1, mo_0, l_0, l_1, l_2, l_3, l_4, l_5, l_6, l_7, l_8, l_9, l_10, l_11, l_12, l_13, l_14, l_15, l_16, l_17, l_18, l_19, l_20, l_21, l_30, l_31, l_32, l_36, l_40, l_41, l_42, l_43, l_44, l_45, l_46, l_47, l_48, l_49, l_50, l_51, l_52, l_57, l_58, l_60, l_64, l_72, l_80, l_92, l_98, l_99, l_100, l_102, l_105, l_111, l_112, l_114, l_115, l_116, l_117, l_120, l_144, l_200, l_201, l_240, l_300, l_320, l_400, l_500, l_550, l_560, l_649, l_650, l_1000, l_1400, l_2000, l_4000, l_10000, iN_add, iN_sub, iN_mul, iN_le_t, iN_le_f, iN_lt_t, iN_lt_f, iN_eq_f, inb_iN, ix_iN, isZ_0, isZ_1, ↓reduceIte, eq_self, w8, ns_ok hk r2', le_00, hNew H hH, mbegins_ok hbM hX.1]
          rw [e]
          exact key
        have eC : f_X7_safe (iN k) (iN q) G = f_X7_safe_l54_12 (iN q) FU (iN 0) (iN 1) A := by
          unfold f_X7_safe
          simp (disch := omega) only [chk_t, beq_self_eq_true, nm_s, bj1_s, bj2_s, bj3_s, mo_1, mo_0, l_0, l_1, l_2, l_3, l_4, l_5, l_6, l_7, l_8, l_9, l_10, l_11, l_12, l_13, l_14, l_15, l_16, l_17, l_18, l_19, l_20, l_21, l_30, l_31, l_32, l_36, l_40, l_41, l_42, l_43, l_44, l_45, l_46, l_47, l_48, l_49, l_50, l_51, l_52, l_57, l_58, l_60, l_64, l_72, l_80, l_92, l_98, l_99, l_100, l_102, l_105, l_111, l_112, l_114, l_115, l_116, l_117, l_120, l_144, l_200, l_201, l_240, l_300, l_320, l_400, l_500, l_550, l_560, l_649, l_650, l_1000, l_1400, l_2000, l_4000, l_10000, iN_add, iN_sub, iN_mul, iN_le_t, iN_le_f, iN_lt_t, iN_lt_f, iN_eq_f, inb_iN, ix_iN, isZ_0, isZ_1, ↓reduceIte, eq_self, c1, kd_b ho, w7, r1, r2, s1, s2, hA]
        have kC : ∃ C, cc G C ∧ ((z = -iN 9 ∧ f_X7_safe_l54_12 (iN q) FU (iN 0) (iN 1) A = some (-iN 9, C)) ∨ (∃ j, 1 ≤ j ∧ j ≤ 200 ∧ z = iN j ∧ f_X7_safe_l54_12 (iN q) FU (iN 0) (iN 1) A = some (iN j, sI C 0 16 (W j)))) := kC
        obtain ⟨C, ccC, ⟨z1, k1⟩ | ⟨j, j1, j2, z1, k1⟩⟩ := kC
        · obtain ⟨D, mD', ⟨z2, k2⟩ | ⟨j, j1, j2, z2, k2⟩⟩ := kM C (fun q hq => ccC.1 q (by omega))
          · exact pOK_none h (eC.trans k1) ccC k2 mD'
          · rw [z1] at z2
            exact absurd z2.symm (of_eq_false (N_m9 (by omega)))
        · obtain ⟨D, mD', ⟨z2, k2⟩ | ⟨j', j1', j2', z2, k2⟩⟩ := kM (sI C 0 16 (W j)) (cc_50 ccC)
          · rw [z1] at z2
            exact absurd z2 (of_eq_false (N_m9 (by omega)))
          · rw [z1] at z2
            have ej := (iN_inj (by omega) (by omega)).mp z2
            subst ej
            exact pOK_tell h (eC.trans k1) ccC k2 mD'
def trS (q t v : Int32) (X : Nat → Int32) (j : Nat) : Int32 := if tillS q t v (bgS (up X 0 (iN j))) = -iN 9 then iN 200 else tillS q t v (bgS (up X 0 (iN j)))
theorem tr_N (q t v : Int32) (X : Nat → Int32) (j : Nat) : ∃ i, 1 ≤ i ∧ i ≤ 200 ∧ trS q t v X j = iN i := by
  unfold trS
  rcases till_r q t v (bgS (up X 0 (iN j))) with e | ⟨i, h1, h2, e⟩
  · rw [if_pos e]
    exact ⟨200, by omega, by omega, rfl⟩
  · rw [e, if_neg (of_eq_false (N_m9 (by omega)))]
    exact ⟨i, h1, h2, rfl⟩
theorem op_rule (a1 a2 a3 a4 : Int32) {G : G_} (h : RR G) : pOK (f_X7_rule a1 a2 a3 a4) (f_X8_rule a1 a2 a3 a4) G := by
  rcases slab_cases a1 G with ⟨e1, c1⟩ | ⟨k, hk, rfl, e1, c1, ho⟩
  · refine pOK_same (x := -iN 1) h (by unfold f_X7_rule; rw [c1, bj1_s]; rfl) ?_
    rcases way_N a2 a3 with ⟨_, w8⟩ | ⟨_, w8, -⟩ <;> rcases warm_N a4 with ⟨_, v8⟩ | ⟨_, v8, -⟩ <;> (unfold f_X8_rule; simp (disch := omega) only [chk_t, beq_self_eq_true, nm_s, bj1_s, bj2_s, bj3_s, mo_1, mo_0, l_0, l_1, l_2, l_3, l_4, l_5, l_6, l_7, l_8, l_9, l_10, l_11, l_12, l_13, l_14, l_15, l_16, l_17, l_18, l_19, l_20, l_21, l_30, l_31, l_32, l_36, l_40, l_41, l_42, l_43, l_44, l_45, l_46, l_47, l_48, l_49, l_50, l_51, l_52, l_57, l_58, l_60, l_64, l_72, l_80, l_92, l_98, l_99, l_100, l_102, l_105, l_111, l_112, l_114, l_115, l_116, l_117, l_120, l_144, l_200, l_201, l_240, l_300, l_320, l_400, l_500, l_550, l_560, l_649, l_650, l_1000, l_1400, l_2000, l_4000, l_10000, iN_add, iN_sub, iN_mul, iN_le_t, iN_le_f, iN_lt_t, iN_lt_f, iN_eq_f, inb_iN, ix_iN, isZ_0, isZ_1, ↓reduceIte, eq_self, w8, v8, ns_bad2 e1, le_m1])
  · rcases way_N a2 a3 with ⟨w7, w8⟩ | ⟨w7, w8, q, t, rfl, rfl, hq1, hq2, ht1, ht2⟩
    · refine pOK_same (x := -iN 1) h ?_ ?_
      · unfold f_X7_rule
        simp (disch := omega) only [chk_t, beq_self_eq_true, nm_s, bj1_s, bj2_s, bj3_s, mo_1, mo_0, l_0, l_1, l_2, l_3, l_4, l_5, l_6, l_7, l_8, l_9, l_10, l_11, l_12, l_13, l_14, l_15, l_16, l_17, l_18, l_19, l_20, l_21, l_30, l_31, l_32, l_36, l_40, l_41, l_42, l_43, l_44, l_45, l_46, l_47, l_48, l_49, l_50, l_51, l_52, l_57, l_58, l_60, l_64, l_72, l_80, l_92, l_98, l_99, l_100, l_102, l_105, l_111, l_112, l_114, l_115, l_116, l_117, l_120, l_144, l_200, l_201, l_240, l_300, l_320, l_400, l_500, l_550, l_560, l_649, l_650, l_1000, l_1400, l_2000, l_4000, l_10000, iN_add, iN_sub, iN_mul, iN_le_t, iN_le_f, iN_lt_t, iN_lt_f, iN_eq_f, inb_iN, ix_iN, isZ_0, isZ_1, ↓reduceIte, eq_self, c1, kd_b ho, w7]
      · unfold f_X8_rule
        simp (disch := omega) only [chk_t, beq_self_eq_true, nm_s, bj1_s, bj2_s, bj3_s, mo_1, mo_0, l_0, l_1, l_2, l_3, l_4, l_5, l_6, l_7, l_8, l_9, l_10, l_11, l_12, l_13, l_14, l_15, l_16, l_17, l_18, l_19, l_20, l_21, l_30, l_31, l_32, l_36, l_40, l_41, l_42, l_43, l_44, l_45, l_46, l_47, l_48, l_49, l_50, l_51, l_52, l_57, l_58, l_60, l_64, l_72, l_80, l_92, l_98, l_99, l_100, l_102, l_105, l_111, l_112, l_114, l_115, l_116, l_117, l_120, l_144, l_200, l_201, l_240, l_300, l_320, l_400, l_500, l_550, l_560, l_649, l_650, l_1000, l_1400, l_2000, l_4000, l_10000, iN_add, iN_sub, iN_mul, iN_le_t, iN_le_f, iN_lt_t, iN_lt_f, iN_eq_f, inb_iN, ix_iN, isZ_0, isZ_1, ↓reduceIte, eq_self, w8, ns_bad1, le_m1]
    · rcases warm_N a4 with ⟨v7, v8⟩ | ⟨v7, v8, v, rfl, hv⟩
      · refine pOK_same (x := -iN 1) h ?_ ?_
        · unfold f_X7_rule
          simp (disch := omega) only [chk_t, beq_self_eq_true, nm_s, bj1_s, bj2_s, bj3_s, mo_1, mo_0, l_0, l_1, l_2, l_3, l_4, l_5, l_6, l_7, l_8, l_9, l_10, l_11, l_12, l_13, l_14, l_15, l_16, l_17, l_18, l_19, l_20, l_21, l_30, l_31, l_32, l_36, l_40, l_41, l_42, l_43, l_44, l_45, l_46, l_47, l_48, l_49, l_50, l_51, l_52, l_57, l_58, l_60, l_64, l_72, l_80, l_92, l_98, l_99, l_100, l_102, l_105, l_111, l_112, l_114, l_115, l_116, l_117, l_120, l_144, l_200, l_201, l_240, l_300, l_320, l_400, l_500, l_550, l_560, l_649, l_650, l_1000, l_1400, l_2000, l_4000, l_10000, iN_add, iN_sub, iN_mul, iN_le_t, iN_le_f, iN_lt_t, iN_lt_f, iN_eq_f, inb_iN, ix_iN, isZ_0, isZ_1, ↓reduceIte, eq_self, c1, kd_b ho, w7, v7]
        · unfold f_X8_rule
          simp (disch := omega) only [chk_t, beq_self_eq_true, nm_s, bj1_s, bj2_s, bj3_s, mo_1, mo_0, l_0, l_1, l_2, l_3, l_4, l_5, l_6, l_7, l_8, l_9, l_10, l_11, l_12, l_13, l_14, l_15, l_16, l_17, l_18, l_19, l_20, l_21, l_30, l_31, l_32, l_36, l_40, l_41, l_42, l_43, l_44, l_45, l_46, l_47, l_48, l_49, l_50, l_51, l_52, l_57, l_58, l_60, l_64, l_72, l_80, l_92, l_98, l_99, l_100, l_102, l_105, l_111, l_112, l_114, l_115, l_116, l_117, l_120, l_144, l_200, l_201, l_240, l_300, l_320, l_400, l_500, l_550, l_560, l_649, l_650, l_1000, l_1400, l_2000, l_4000, l_10000, iN_add, iN_sub, iN_mul, iN_le_t, iN_le_f, iN_lt_t, iN_lt_f, iN_eq_f, inb_iN, ix_iN, isZ_0, isZ_1, ↓reduceIte, eq_self, w8, v8, ns_bad1, le_m1]
      · obtain ⟨r1, r2, r3⟩ := h.1.2.2.1 k hk
        rcases r2 with r2 | ⟨r2, n, hsl⟩
        · refine pOK_found (f := 1) (by omega) h ?_ ?_
          · unfold f_X7_rule
            simp (disch := omega) only [chk_t, beq_self_eq_true, nm_s, bj1_s, bj2_s, bj3_s, mo_1, mo_0, l_0, l_1, l_2, l_3, l_4, l_5, l_6, l_7, l_8, l_9, l_10, l_11, l_12, l_13, l_14, l_15, l_16, l_17, l_18, l_19, l_20, l_21, l_30, l_31, l_32, l_36, l_40, l_41, l_42, l_43, l_44, l_45, l_46, l_47, l_48, l_49, l_50, l_51, l_52, l_57, l_58, l_60, l_64, l_72, l_80, l_92, l_98, l_99, l_100, l_102, l_105, l_111, l_112, l_114, l_115, l_116, l_117, l_120, l_144, l_200, l_201, l_240, l_300, l_320, l_400, l_500, l_550, l_560, l_649, l_650, l_1000, l_1400, l_2000, l_4000, l_10000, iN_add, iN_sub, iN_mul, iN_le_t, iN_le_f, iN_lt_t, iN_lt_f, iN_eq_f, inb_iN, ix_iN, isZ_0, isZ_1, ↓reduceIte, eq_self, c1, kd_b ho, w7, v7, r1, r2, found_ok]
          · unfold f_X8_rule
            simp (disch := omega) only [chk_t, beq_self_eq_true, nm_s, bj1_s, bj2_s, bj3_s, mo_1, mo_0, l_0, l_1, l_2, l_3, l_4, l_5, l_6, l_7, l_8, l_9, l_10, l_11, l_12, l_13, l_14, l_15, l_16, l_17, l_18, l_19, l_20, l_21, l_30, l_31, l_32, l_36, l_40, l_41, l_42, l_43, l_44, l_45, l_46, l_47, l_48, l_49, l_50, l_51, l_52, l_57, l_58, l_60, l_64, l_72, l_80, l_92, l_98, l_99, l_100, l_102, l_105, l_111, l_112, l_114, l_115, l_116, l_117, l_120, l_144, l_200, l_201, l_240, l_300, l_320, l_400, l_500, l_550, l_560, l_649, l_650, l_1000, l_1400, l_2000, l_4000, l_10000, iN_add, iN_sub, iN_mul, iN_le_t, iN_le_f, iN_lt_t, iN_lt_f, iN_eq_f, inb_iN, ix_iN, isZ_0, isZ_1, ↓reduceIte, eq_self, w8, v8, ns_miss hk (show (fndC 1 G).1 131 k = iN 0 by rw [fndC_o (by omega) (by omega)]; exact r2), le_m3]
        · have hX := nx_sl hsl
          have hc := nx_c (G := G) r3
          have hX4 : newX k G 4 = iN 0 := nx_4
          have hNew := fun A => nx_new (k := k) (G := G) (A := A) hk
          generalize newX k G = X at *
          have hXs : ∀ s, 3 ≤ s → s ≤ 20 → slR (up X 0 (iN s)) s := fun s h1 h2 => ⟨⟨up_eq, h1, h2⟩, by rw [up_ne (by omega)]; exact hX.2⟩
          obtain ⟨T, hT⟩ : ∃ T : Nat → Int32, T = trS (iN q) (iN t) (iN v) X := ⟨_, rfl⟩
          have hTt : ∀ j, (if tillS (iN q) (iN t) (iN v) (bgS (up X 0 (iN j))) = -iN 9 then iN 200 else tillS (iN q) (iN t) (iN v) (bgS (up X 0 (iN j)))) = T j := fun j => by rw [hT]; rfl
          have hTn : ∀ j, ∃ i, 1 ≤ i ∧ i ≤ 200 ∧ T j = iN i := fun j => by rw [hT]; exact tr_N _ _ _ _ _
          have hL : ∃ C, f_X7_rule_l51_11 (iN q) (iN t) (iN v) (71 + k) FU (iN 3) G = some C ∧ cc G C ∧ ∀ i, 3 ≤ i → i < 21 → C.1 49 i = T i := by
            refine loop_h (fun f z s => f_X7_rule_l51_11 (iN q) (iN t) (iN v) (71 + k) f z s) (fun j C => cc G C ∧ ∀ i, 3 ≤ i → i < j → C.1 49 i = T i) _ 3 21 ?_ ?_ (by omega) (n := FU) (fu_lt (by omega)) ⟨cc_refl, fun i h1 h2 => by omega⟩
            · intro f j H h3 h4 ⟨i1, i2⟩
              have q1 : H.1 (71 + k) = G.1 (71 + k) := cc_at i1 (by omega)
              obtain ⟨A, hA, fA⟩ := till_ok (o := 17) (X := up X 0 (iN j)) (v := iN v) (G := H) rfl ho (by omega) (hXs j (by omega) (by omega)) (by rw [up_ne (by omega)]; exact hX4) (by rw [q1, up_ne (by omega)]; exact hc.2.1) (by rw [q1, up_ne (by omega)]; exact hc.2.2.1) (by rw [q1, up_ne (by omega)]; exact hc.2.2.2) (qR_N hq2) (t1N ht1 (by omega))
              refine ⟨sI A 49 j (T j), ⟨cc_sI (cc_tr i1 (cc_fr fA (by omega) (by omega))) (by omega) (by omega), fun i h1 h2 => ?_⟩, ?_⟩
              · by_cases c : i = j
                · subst c; exact sI_eq
                · rw [sI_j c, fA.1.1 49 (by omega)]; exact i2 i h1 (by omega)
              · show f_X7_rule_l51_11 (iN q) (iN t) (iN v) (71 + k) (f + 1) (iN j) H = _
                conv => lhs; unfold f_X7_rule_l51_11
                simp (disch := omega) only [chk_t, beq_self_eq_true, nm_s, bj1_s, bj2_s, bj3_s, mo_1, mo_0, l_0, l_1, l_2, l_3, l_4, l_5, l_6, l_7, l_8, l_9, l_10, l_11, l_12, l_13, l_14, l_15, l_16, l_17, l_18, l_19, l_20, l_21, l_30, l_31, l_32, l_36, l_40, l_41, l_42, l_43, l_44, l_45, l_46, l_47, l_48, l_49, l_50, l_51, l_52, l_57, l_58, l_60, l_64, l_72, l_80, l_92, l_98, l_99, l_100, l_102, l_105, l_111, l_112, l_114, l_115, l_116, l_117, l_120, l_144, l_200, l_201, l_240, l_300, l_320, l_400, l_500, l_550, l_560, l_649, l_650, l_1000, l_1400, l_2000, l_4000, l_10000, iN_add, iN_sub, iN_mul, iN_le_t, iN_le_f, iN_lt_t, iN_lt_f, iN_eq_f, inb_iN, ix_iN, isZ_0, isZ_1, ↓reduceIte, eq_self, hA, ite_so, hTt]
            · intro f H hI
              refine ⟨H, ?_, hI⟩
              show f_X7_rule_l51_11 (iN q) (iN t) (iN v) (71 + k) (f + 1) (iN 21) H = _
              unfold f_X7_rule_l51_11
              simp (disch := omega) only [chk_t, beq_self_eq_true, nm_s, bj1_s, bj2_s, bj3_s, mo_1, mo_0, l_0, l_1, l_2, l_3, l_4, l_5, l_6, l_7, l_8, l_9, l_10, l_11, l_12, l_13, l_14, l_15, l_16, l_17, l_18, l_19, l_20, l_21, l_30, l_31, l_32, l_36, l_40, l_41, l_42, l_43, l_44, l_45, l_46, l_47, l_48, l_49, l_50, l_51, l_52, l_57, l_58, l_60, l_64, l_72, l_80, l_92, l_98, l_99, l_100, l_102, l_105, l_111, l_112, l_114, l_115, l_116, l_117, l_120, l_144, l_200, l_201, l_240, l_300, l_320, l_400, l_500, l_550, l_560, l_649, l_650, l_1000, l_1400, l_2000, l_4000, l_10000, iN_add, iN_sub, iN_mul, iN_le_t, iN_le_f, iN_lt_t, iN_lt_f, iN_eq_f, inb_iN, ix_iN, isZ_0, isZ_1, ↓reduceIte, eq_self]
          obtain ⟨C, hC, ccC, hCT⟩ := hL
          obtain ⟨F, hF⟩ : ∃ F : Nat → Int32, F = fun x => sumS (fun i => if iN x * iN (3 + i) < T (3 + i) then T (3 + i) - iN x * iN (3 + i) else iN x * iN (3 + i) - T (3 + i)) 18 := ⟨_, rfl⟩
          have hFt : ∀ x, sumS (fun i => if iN x * iN (3 + i) < T (3 + i) then T (3 + i) - iN x * iN (3 + i) else iN x * iN (3 + i) - T (3 + i)) 18 = F x := fun x => by rw [hF]
          have cIn : ∀ (u w : Int32) (x : Nat), 1 ≤ x → x ≤ 20 → f_X7_rule_l128_26 u w (iN x) C FU (iN 0) (iN 3) = some (F x) := by
            intro u w x hx1 hx2
            have key := loop_cl (fun f z s => f_X7_rule_l128_26 u w (iN x) C f s z) (fun j => sumS (fun i => if iN x * iN (3 + i) < T (3 + i) then T (3 + i) - iN x * iN (3 + i) else iN x * iN (3 + i) - T (3 + i)) (j - 3)) 3 21 (some (F x)) ?_ ?_ (by omega) (n := FU) (fu_lt (by omega))
            · exact key
            · intro f j h3 h4
              obtain ⟨i, rfl⟩ : ∃ i, j = 3 + i := ⟨j - 3, by omega⟩
              obtain ⟨τ, hτ1, hτ2, hτ⟩ := hTn (3 + i)
              have eab : ab (iN (x * (3 + i)) - iN τ) = if iN (x * (3 + i)) < iN τ then iN τ - iN (x * (3 + i)) else iN (x * (3 + i)) - iN τ := ab_far (by
                have : x * (3 + i) ≤ 20 * 20 := Nat.mul_le_mul (by omega) (by omega)
                rw [li (by omega)]; omega) (by rw [li (by omega)]; omega)
              have hmul : x * (3 + i) ≤ 20 * 20 := Nat.mul_le_mul (by omega) (by omega)
              rw [show 3 + i - 3 = i by omega, show 3 + i + 1 - 3 = i + 1 by omega]
              show f_X7_rule_l128_26 u w (iN x) C (f + 1) _ (iN (3 + i)) = f_X7_rule_l128_26 u w (iN x) C f (sumS _ i + (if iN x * iN (3 + i) < T (3 + i) then T (3 + i) - iN x * iN (3 + i) else iN x * iN (3 + i) - T (3 + i))) (iN (3 + i + 1))
              generalize sumS (fun i => if iN x * iN (3 + i) < T (3 + i) then T (3 + i) - iN x * iN (3 + i) else iN x * iN (3 + i) - T (3 + i)) i = sm
              conv => lhs; unfold f_X7_rule_l128_26
              rw [hτ, iN_mul, ← eab]
              simp (disch := omega) only [chk_t, beq_self_eq_true, nm_s, bj1_s, bj2_s, bj3_s, mo_1, mo_0, l_0, l_1, l_2, l_3, l_4, l_5, l_6, l_7, l_8, l_9, l_10, l_11, l_12, l_13, l_14, l_15, l_16, l_17, l_18, l_19, l_20, l_21, l_30, l_31, l_32, l_36, l_40, l_41, l_42, l_43, l_44, l_45, l_46, l_47, l_48, l_49, l_50, l_51, l_52, l_57, l_58, l_60, l_64, l_72, l_80, l_92, l_98, l_99, l_100, l_102, l_105, l_111, l_112, l_114, l_115, l_116, l_117, l_120, l_144, l_200, l_201, l_240, l_300, l_320, l_400, l_500, l_550, l_560, l_649, l_650, l_1000, l_1400, l_2000, l_4000, l_10000, iN_add, iN_sub, iN_mul, iN_le_t, iN_le_f, iN_lt_t, iN_lt_f, iN_eq_f, inb_iN, ix_iN, isZ_0, isZ_1, ↓reduceIte, eq_self, hCT, hτ]
            · intro f
              show f_X7_rule_l128_26 u w (iN x) C (f + 1) _ (iN 21) = _
              rw [← hFt]
              unfold f_X7_rule_l128_26
              simp (disch := omega) only [chk_t, beq_self_eq_true, nm_s, bj1_s, bj2_s, bj3_s, mo_1, mo_0, l_0, l_1, l_2, l_3, l_4, l_5, l_6, l_7, l_8, l_9, l_10, l_11, l_12, l_13, l_14, l_15, l_16, l_17, l_18, l_19, l_20, l_21, l_30, l_31, l_32, l_36, l_40, l_41, l_42, l_43, l_44, l_45, l_46, l_47, l_48, l_49, l_50, l_51, l_52, l_57, l_58, l_60, l_64, l_72, l_80, l_92, l_98, l_99, l_100, l_102, l_105, l_111, l_112, l_114, l_115, l_116, l_117, l_120, l_144, l_200, l_201, l_240, l_300, l_320, l_400, l_500, l_550, l_560, l_649, l_650, l_1000, l_1400, l_2000, l_4000, l_10000, iN_add, iN_sub, iN_mul, iN_le_t, iN_le_f, iN_lt_t, iN_lt_f, iN_eq_f, inb_iN, ix_iN, isZ_0, isZ_1, ↓reduceIte, eq_self]
          have cOut : ∃ r, f_X7_rule_l115_23 C FU (iN 0) (iN 0) (iN 1) = some r ∧ r = fiA F (iN 0, iN 0) 21 := by
            refine loop_h (fun f z (s : Int32 × Int32) => f_X7_rule_l115_23 C f s.1 s.2 z) (fun j s => s = fiA F (iN 0, iN 0) j) _ 1 21 ?_ ?_ (by omega) (n := FU) (fu_lt (by omega)) (s := (iN 0, iN 0)) fiA_1.symm
            · intro f j s h3 h4 hs
              subst hs
              refine ⟨_, rfl, ?_⟩
              by_cases c0 : j = 1
              · subst c0
                rw [fiA_1, fiA_2]
                show f_X7_rule_l115_23 C (f + 1) (iN 0) (iN 0) (iN 1) = _
                conv => lhs; unfold f_X7_rule_l115_23
                simp (disch := omega) only [chk_t, beq_self_eq_true, nm_s, bj1_s, bj2_s, bj3_s, mo_1, mo_0, l_0, l_1, l_2, l_3, l_4, l_5, l_6, l_7, l_8, l_9, l_10, l_11, l_12, l_13, l_14, l_15, l_16, l_17, l_18, l_19, l_20, l_21, l_30, l_31, l_32, l_36, l_40, l_41, l_42, l_43, l_44, l_45, l_46, l_47, l_48, l_49, l_50, l_51, l_52, l_57, l_58, l_60, l_64, l_72, l_80, l_92, l_98, l_99, l_100, l_102, l_105, l_111, l_112, l_114, l_115, l_116, l_117, l_120, l_144, l_200, l_201, l_240, l_300, l_320, l_400, l_500, l_550, l_560, l_649, l_650, l_1000, l_1400, l_2000, l_4000, l_10000, iN_add, iN_sub, iN_mul, iN_le_t, iN_le_f, iN_lt_t, iN_lt_f, iN_eq_f, inb_iN, ix_iN, isZ_0, isZ_1, ↓reduceIte, eq_self, cIn]
              · rw [fiA_s (j := j) (by omega)]
                obtain ⟨b, hb1, hb2, hb3⟩ := fiA_b (f := F) (j := j) (s0 := (iN 0, iN 0)) (by omega)
                generalize fiA F (iN 0, iN 0) j = s at *
                obtain ⟨x, y⟩ := s
                have hb3 : x = iN b := hb3
                subst hb3
                show f_X7_rule_l115_23 C (f + 1) (iN b) y (iN j) = _
                conv => lhs; unfold f_X7_rule_l115_23
                by_cases cq : y ≤ F j
                · simp (disch := omega) only [chk_t, beq_self_eq_true, nm_s, bj1_s, bj2_s, bj3_s, mo_1, mo_0, l_0, l_1, l_2, l_3, l_4, l_5, l_6, l_7, l_8, l_9, l_10, l_11, l_12, l_13, l_14, l_15, l_16, l_17, l_18, l_19, l_20, l_21, l_30, l_31, l_32, l_36, l_40, l_41, l_42, l_43, l_44, l_45, l_46, l_47, l_48, l_49, l_50, l_51, l_52, l_57, l_58, l_60, l_64, l_72, l_80, l_92, l_98, l_99, l_100, l_102, l_105, l_111, l_112, l_114, l_115, l_116, l_117, l_120, l_144, l_200, l_201, l_240, l_300, l_320, l_400, l_500, l_550, l_560, l_649, l_650, l_1000, l_1400, l_2000, l_4000, l_10000, iN_add, iN_sub, iN_mul, iN_le_t, iN_le_f, iN_lt_t, iN_lt_f, iN_eq_f, inb_iN, ix_iN, isZ_0, isZ_1, ↓reduceIte, eq_self, cIn, if_pos cq]
                · simp (disch := omega) only [chk_t, beq_self_eq_true, nm_s, bj1_s, bj2_s, bj3_s, mo_1, mo_0, l_0, l_1, l_2, l_3, l_4, l_5, l_6, l_7, l_8, l_9, l_10, l_11, l_12, l_13, l_14, l_15, l_16, l_17, l_18, l_19, l_20, l_21, l_30, l_31, l_32, l_36, l_40, l_41, l_42, l_43, l_44, l_45, l_46, l_47, l_48, l_49, l_50, l_51, l_52, l_57, l_58, l_60, l_64, l_72, l_80, l_92, l_98, l_99, l_100, l_102, l_105, l_111, l_112, l_114, l_115, l_116, l_117, l_120, l_144, l_200, l_201, l_240, l_300, l_320, l_400, l_500, l_550, l_560, l_649, l_650, l_1000, l_1400, l_2000, l_4000, l_10000, iN_add, iN_sub, iN_mul, iN_le_t, iN_le_f, iN_lt_t, iN_lt_f, iN_eq_f, inb_iN, ix_iN, isZ_0, isZ_1, ↓reduceIte, eq_self, cIn, if_neg cq]
            · intro f s hs
              refine ⟨s, ?_, hs⟩
              show f_X7_rule_l115_23 C (f + 1) s.1 s.2 (iN 21) = _
              unfold f_X7_rule_l115_23
              simp (disch := omega) only [chk_t, beq_self_eq_true, nm_s, bj1_s, bj2_s, bj3_s, mo_1, mo_0, l_0, l_1, l_2, l_3, l_4, l_5, l_6, l_7, l_8, l_9, l_10, l_11, l_12, l_13, l_14, l_15, l_16, l_17, l_18, l_19, l_20, l_21, l_30, l_31, l_32, l_36, l_40, l_41, l_42, l_43, l_44, l_45, l_46, l_47, l_48, l_49, l_50, l_51, l_52, l_57, l_58, l_60, l_64, l_72, l_80, l_92, l_98, l_99, l_100, l_102, l_105, l_111, l_112, l_114, l_115, l_116, l_117, l_120, l_144, l_200, l_201, l_240, l_300, l_320, l_400, l_500, l_550, l_560, l_649, l_650, l_1000, l_1400, l_2000, l_4000, l_10000, iN_add, iN_sub, iN_mul, iN_le_t, iN_le_f, iN_lt_t, iN_lt_f, iN_eq_f, inb_iN, ix_iN, isZ_0, isZ_1, ↓reduceIte, eq_self]
          obtain ⟨rc, hrc, erc⟩ := cOut
          rw [fiA_e (j := 21) (s0 := (iN 0, iN 0)) (s1 := (-iN 9, iN 0)) (by omega)] at erc
          have kM : ∀ H : G_, (∀ q, 50 ≤ q → H.1 q = G.1 q) → ∃ D' W' H', mf H H' ∧ f_X8_rule (iN k) (iN q) (iN t) (iN v) H = some (rc.1, sI (stM 4 D' W' H') 124 2 rc.2) := by
            intro H hH
            have hbM := bM_LG (m := 4) (G := H) (by omega)
            have l1 : ∃ R, f_X8_rule_l44_14 (iN q) (iN t) (iN v) FU (iN 3) (stM 4 X (WM H) (LG 4 H)) = some R ∧ ∃ D' W' H', R = stM 4 D' W' H' ∧ mf H H' ∧ (∀ i, 3 ≤ i → i < 21 → H'.1 145 i = T i) := by
              refine loop_h (fun f z s => f_X8_rule_l44_14 (iN q) (iN t) (iN v) f z s) (fun j R => ∃ D' W' H', R = stM 4 D' W' H' ∧ (mf H H' ∧ ∀ i, 3 ≤ i → i < j → H'.1 145 i = T i) ∧ bM 4 H' ∧ ∀ p, p < 41 ∨ 112 ≤ p → p ≠ 0 → D' p = X p) _ 3 21 ?_ ?_ (by omega) (n := FU) (fu_lt (by omega)) ⟨X, WM H, LG 4 H, rfl, ⟨mf_LG, fun i h1 h2 => by omega⟩, hbM, fun _ _ _ => rfl⟩
              · intro f j R h3 h4 ⟨D', W', H', eR, ⟨g1, g2⟩, hb, hD⟩
                subst eR
                have eU := up2_eq (x := iN j) hD
                obtain ⟨D2, W2, m1, m2⟩ := mtill_ok (D := up D' 0 (iN j)) (W := W') (v := iN v) (q := iN q) hb ⟨up_eq, by omega, by omega⟩ (t1N ht1 (by omega))
                rw [bg_eq eU] at m1
                refine ⟨stM 4 D2 W2 (sI H' 145 j (T j)), ⟨D2, W2, _, rfl, ⟨mf_sI g1 (by omega), fun i h1 h2 => ?_⟩, ⟨hb.1, by rw [sI_p (by omega)]; exact hb.2⟩, fun p h1 h2 => by rw [m2 p h1, up_ne h2, hD p h1 h2]⟩, ?_⟩
                · by_cases c : i = j
                  · subst c; exact sI_eq
                  · rw [sI_j c]; exact g2 i h1 (by omega)
                · show f_X8_rule_l44_14 (iN q) (iN t) (iN v) (f + 1) (iN j) _ = _
                  conv => lhs; unfold f_X8_rule_l44_14
                  simp (disch := omega) only [chk_t, beq_self_eq_true, nm_s, bj1_s, bj2_s, bj3_s, mo_1, mo_0, l_0, l_1, l_2, l_3, l_4, l_5, l_6, l_7, l_8, l_9, l_10, l_11, l_12, l_13, l_14, l_15, l_16, l_17, l_18, l_19, l_20, l_21, l_30, l_31, l_32, l_36, l_40, l_41, l_42, l_43, l_44, l_45, l_46, l_47, l_48, l_49, l_50, l_51, l_52, l_57, l_58, l_60, l_64, l_72, l_80, l_92, l_98, l_99, l_100, l_102, l_105, l_111, l_112, l_114, l_115, l_116, l_117, l_120, l_144, l_200, l_201, l_240, l_300, l_320, l_400, l_500, l_550, l_560, l_649, l_650, l_1000, l_1400, l_2000, l_4000, l_10000, iN_add, iN_sub, iN_mul, iN_le_t, iN_le_f, iN_lt_t, iN_lt_f, iN_eq_f, inb_iN, ix_iN, isZ_0, isZ_1, ↓reduceIte, eq_self, put_ok hb, m1, ite_so, hTt, st_sI]
              · intro f R ⟨D', W', H', eR, ⟨g1, g2⟩, hb, hD⟩
                refine ⟨R, ?_, D', W', H', eR, g1, g2⟩
                show f_X8_rule_l44_14 (iN q) (iN t) (iN v) (f + 1) (iN 21) R = _
                unfold f_X8_rule_l44_14
                simp (disch := omega) only [chk_t, beq_self_eq_true, nm_s, bj1_s, bj2_s, bj3_s, mo_1, mo_0, l_0, l_1, l_2, l_3, l_4, l_5, l_6, l_7, l_8, l_9, l_10, l_11, l_12, l_13, l_14, l_15, l_16, l_17, l_18, l_19, l_20, l_21, l_30, l_31, l_32, l_36, l_40, l_41, l_42, l_43, l_44, l_45, l_46, l_47, l_48, l_49, l_50, l_51, l_52, l_57, l_58, l_60, l_64, l_72, l_80, l_92, l_98, l_99, l_100, l_102, l_105, l_111, l_112, l_114, l_115, l_116, l_117, l_120, l_144, l_200, l_201, l_240, l_300, l_320, l_400, l_500, l_550, l_560, l_649, l_650, l_1000, l_1400, l_2000, l_4000, l_10000, iN_add, iN_sub, iN_mul, iN_le_t, iN_le_f, iN_lt_t, iN_lt_f, iN_eq_f, inb_iN, ix_iN, isZ_0, isZ_1, ↓reduceIte, eq_self]
            obtain ⟨R, hR, D', W', H', eR, g1, g2⟩ := l1
            have g3 : ∀ i, 3 ≤ i → i < 21 → R.1 145 i = T i := fun i h1 h2 => by rw [eR, stM_o (by omega) (by omega)]; exact g2 i h1 h2
            have mIn : ∀ (u w : Int32) (x : Nat), 1 ≤ x → x ≤ 20 → f_X8_rule_l119_31 u w (iN x) R FU (iN 0) (iN 3) = some (F x) := by
              intro u w x hx1 hx2
              have key := loop_cl (fun f z s => f_X8_rule_l119_31 u w (iN x) R f s z) (fun j => sumS (fun i => if iN x * iN (3 + i) < T (3 + i) then T (3 + i) - iN x * iN (3 + i) else iN x * iN (3 + i) - T (3 + i)) (j - 3)) 3 21 (some (F x)) ?_ ?_ (by omega) (n := FU) (fu_lt (by omega))
              · exact key
              · intro f j h3 h4
                obtain ⟨i, rfl⟩ : ∃ i, j = 3 + i := ⟨j - 3, by omega⟩
                rw [show 3 + i - 3 = i by omega, show 3 + i + 1 - 3 = i + 1 by omega]
                show f_X8_rule_l119_31 u w (iN x) R (f + 1) _ (iN (3 + i)) = f_X8_rule_l119_31 u w (iN x) R f (sumS _ i + (if iN x * iN (3 + i) < T (3 + i) then T (3 + i) - iN x * iN (3 + i) else iN x * iN (3 + i) - T (3 + i))) (iN (3 + i + 1))
                generalize sumS (fun i => if iN x * iN (3 + i) < T (3 + i) then T (3 + i) - iN x * iN (3 + i) else iN x * iN (3 + i) - T (3 + i)) i = sm
                conv => lhs; unfold f_X8_rule_l119_31
                simp (disch := omega) only [chk_t, beq_self_eq_true, nm_s, bj1_s, bj2_s, bj3_s, mo_1, mo_0, l_0, l_1, l_2, l_3, l_4, l_5, l_6, l_7, l_8, l_9, l_10, l_11, l_12, l_13, l_14, l_15, l_16, l_17, l_18, l_19, l_20, l_21, l_30, l_31, l_32, l_36, l_40, l_41, l_42, l_43, l_44, l_45, l_46, l_47, l_48, l_49, l_50, l_51, l_52, l_57, l_58, l_60, l_64, l_72, l_80, l_92, l_98, l_99, l_100, l_102, l_105, l_111, l_112, l_114, l_115, l_116, l_117, l_120, l_144, l_200, l_201, l_240, l_300, l_320, l_400, l_500, l_550, l_560, l_649, l_650, l_1000, l_1400, l_2000, l_4000, l_10000, iN_add, iN_sub, iN_mul, iN_le_t, iN_le_f, iN_lt_t, iN_lt_f, iN_eq_f, inb_iN, ix_iN, isZ_0, isZ_1, ↓reduceIte, eq_self, g3, far_ok]
              · intro f
                show f_X8_rule_l119_31 u w (iN x) R (f + 1) _ (iN 21) = _
                rw [← hFt]
                unfold f_X8_rule_l119_31
                simp (disch := omega) only [chk_t, beq_self_eq_true, nm_s, bj1_s, bj2_s, bj3_s, mo_1, mo_0, l_0, l_1, l_2, l_3, l_4, l_5, l_6, l_7, l_8, l_9, l_10, l_11, l_12, l_13, l_14, l_15, l_16, l_17, l_18, l_19, l_20, l_21, l_30, l_31, l_32, l_36, l_40, l_41, l_42, l_43, l_44, l_45, l_46, l_47, l_48, l_49, l_50, l_51, l_52, l_57, l_58, l_60, l_64, l_72, l_80, l_92, l_98, l_99, l_100, l_102, l_105, l_111, l_112, l_114, l_115, l_116, l_117, l_120, l_144, l_200, l_201, l_240, l_300, l_320, l_400, l_500, l_550, l_560, l_649, l_650, l_1000, l_1400, l_2000, l_4000, l_10000, iN_add, iN_sub, iN_mul, iN_le_t, iN_le_f, iN_lt_t, iN_lt_f, iN_eq_f, inb_iN, ix_iN, isZ_0, isZ_1, ↓reduceIte, eq_self]
            have mOut : ∃ r, f_X8_rule_l106_28 R FU (-iN 9) (iN 0) (iN 1) = some r ∧ r = fiA F (-iN 9, iN 0) 21 := by
              refine loop_h (fun f z (s : Int32 × Int32) => f_X8_rule_l106_28 R f s.1 s.2 z) (fun j s => s = fiA F (-iN 9, iN 0) j) _ 1 21 ?_ ?_ (by omega) (n := FU) (fu_lt (by omega)) (s := (-iN 9, iN 0)) fiA_1.symm
              · intro f j s h3 h4 hs
                subst hs
                refine ⟨_, rfl, ?_⟩
                by_cases c0 : j = 1
                · subst c0
                  rw [fiA_1, fiA_2]
                  show f_X8_rule_l106_28 R (f + 1) (-iN 9) (iN 0) (iN 1) = _
                  conv => lhs; unfold f_X8_rule_l106_28
                  simp (disch := omega) only [chk_t, beq_self_eq_true, nm_s, bj1_s, bj2_s, bj3_s, mo_1, mo_0, l_0, l_1, l_2, l_3, l_4, l_5, l_6, l_7, l_8, l_9, l_10, l_11, l_12, l_13, l_14, l_15, l_16, l_17, l_18, l_19, l_20, l_21, l_30, l_31, l_32, l_36, l_40, l_41, l_42, l_43, l_44, l_45, l_46, l_47, l_48, l_49, l_50, l_51, l_52, l_57, l_58, l_60, l_64, l_72, l_80, l_92, l_98, l_99, l_100, l_102, l_105, l_111, l_112, l_114, l_115, l_116, l_117, l_120, l_144, l_200, l_201, l_240, l_300, l_320, l_400, l_500, l_550, l_560, l_649, l_650, l_1000, l_1400, l_2000, l_4000, l_10000, iN_add, iN_sub, iN_mul, iN_le_t, iN_le_f, iN_lt_t, iN_lt_f, iN_eq_f, inb_iN, ix_iN, isZ_0, isZ_1, ↓reduceIte, eq_self, mIn]
                · rw [fiA_s (j := j) (by omega)]
                  obtain ⟨b, hb1, hb2, hb3⟩ := fiA_b (f := F) (j := j) (s0 := (-iN 9, iN 0)) (by omega)
                  generalize fiA F (-iN 9, iN 0) j = s at *
                  obtain ⟨x, y⟩ := s
                  have hb3 : x = iN b := hb3
                  subst hb3
                  show f_X8_rule_l106_28 R (f + 1) (iN b) y (iN j) = _
                  conv => lhs; unfold f_X8_rule_l106_28
                  by_cases cq : y ≤ F j
                  · simp (disch := omega) only [chk_t, beq_self_eq_true, nm_s, bj1_s, bj2_s, bj3_s, mo_1, mo_0, l_0, l_1, l_2, l_3, l_4, l_5, l_6, l_7, l_8, l_9, l_10, l_11, l_12, l_13, l_14, l_15, l_16, l_17, l_18, l_19, l_20, l_21, l_30, l_31, l_32, l_36, l_40, l_41, l_42, l_43, l_44, l_45, l_46, l_47, l_48, l_49, l_50, l_51, l_52, l_57, l_58, l_60, l_64, l_72, l_80, l_92, l_98, l_99, l_100, l_102, l_105, l_111, l_112, l_114, l_115, l_116, l_117, l_120, l_144, l_200, l_201, l_240, l_300, l_320, l_400, l_500, l_550, l_560, l_649, l_650, l_1000, l_1400, l_2000, l_4000, l_10000, iN_add, iN_sub, iN_mul, iN_le_t, iN_le_f, iN_lt_t, iN_lt_f, iN_eq_f, inb_iN, ix_iN, isZ_0, isZ_1, ↓reduceIte, eq_self, mIn, N_m9, if_pos cq]
                  · simp (disch := omega) only [chk_t, beq_self_eq_true, nm_s, bj1_s, bj2_s, bj3_s, mo_1, mo_0, l_0, l_1, l_2, l_3, l_4, l_5, l_6, l_7, l_8, l_9, l_10, l_11, l_12, l_13, l_14, l_15, l_16, l_17, l_18, l_19, l_20, l_21, l_30, l_31, l_32, l_36, l_40, l_41, l_42, l_43, l_44, l_45, l_46, l_47, l_48, l_49, l_50, l_51, l_52, l_57, l_58, l_60, l_64, l_72, l_80, l_92, l_98, l_99, l_100, l_102, l_105, l_111, l_112, l_114, l_115, l_116, l_117, l_120, l_144, l_200, l_201, l_240, l_300, l_320, l_400, l_500, l_550, l_560, l_649, l_650, l_1000, l_1400, l_2000, l_4000, l_10000, iN_add, iN_sub, iN_mul, iN_le_t, iN_le_f, iN_lt_t, iN_lt_f, iN_eq_f, inb_iN, ix_iN, isZ_0, isZ_1, ↓reduceIte, eq_self, mIn, N_m9, if_neg cq]
              · intro f s hs
                refine ⟨s, ?_, hs⟩
                show f_X8_rule_l106_28 R (f + 1) s.1 s.2 (iN 21) = _
                unfold f_X8_rule_l106_28
                simp (disch := omega) only [chk_t, beq_self_eq_true, nm_s, bj1_s, bj2_s, bj3_s, mo_1, mo_0, l_0, l_1, l_2, l_3, l_4, l_5, l_6, l_7, l_8, l_9, l_10, l_11, l_12, l_13, l_14, l_15, l_16, l_17, l_18, l_19, l_20, l_21, l_30, l_31, l_32, l_36, l_40, l_41, l_42, l_43, l_44, l_45, l_46, l_47, l_48, l_49, l_50, l_51, l_52, l_57, l_58, l_60, l_64, l_72, l_80, l_92, l_98, l_99, l_100, l_102, l_105, l_111, l_112, l_114, l_115, l_116, l_117, l_120, l_144, l_200, l_201, l_240, l_300, l_320, l_400, l_500, l_550, l_560, l_649, l_650, l_1000, l_1400, l_2000, l_4000, l_10000, iN_add, iN_sub, iN_mul, iN_le_t, iN_le_f, iN_lt_t, iN_lt_f, iN_eq_f, inb_iN, ix_iN, isZ_0, isZ_1, ↓reduceIte, eq_self]
            obtain ⟨rm, hrm, erm⟩ := mOut
            rw [← erc] at erm
            subst erm
            refine ⟨D', W', H', g1, ?_⟩
            have r2' : H.1 131 k = iN 1 := by rw [hH 131 (by omega)]; exact r2
            rw [← eR]
            obtain ⟨x, y⟩ := rm
            unfold f_X8_rule f_X8_tells
            simp (disch := omega) only [chk_t, beq_self_eq_true, nm_s, bj1_s, bj2_s, bj3_s, mo_1, mo_0, l_0, l_1, l_2, l_3, l_4, l_5, l_6, l_7, l_8, l_9, l_10, l_11, l_12, l_13, l_14, l_15, l_16, l_17, l_18, l_19, l_20, l_21, l_30, l_31, l_32, l_36, l_40, l_41, l_42, l_43, l_44, l_45, l_46, l_47, l_48, l_49, l_50, l_51, l_52, l_57, l_58, l_60, l_64, l_72, l_80, l_92, l_98, l_99, l_100, l_102, l_105, l_111, l_112, l_114, l_115, l_116, l_117, l_120, l_144, l_200, l_201, l_240, l_300, l_320, l_400, l_500, l_550, l_560, l_649, l_650, l_1000, l_1400, l_2000, l_4000, l_10000, iN_add, iN_sub, iN_mul, iN_le_t, iN_le_f, iN_lt_t, iN_lt_f, iN_eq_f, inb_iN, ix_iN, isZ_0, isZ_1, ↓reduceIte, eq_self, w8, v8, ns_ok hk r2', le_00, hNew H hH, hR, hrm]
          obtain ⟨D', W', H', g1, g2⟩ := kM (sI C 0 16 rc.2) (cc_50 ccC)
          refine pOK_tell (x := rc.1) (y := rc.2) h ?_ ccC g2 (mf_st g1)
          obtain ⟨x, y⟩ := rc
          unfold f_X7_rule f_X7_told
          simp (disch := omega) only [chk_t, beq_self_eq_true, nm_s, bj1_s, bj2_s, bj3_s, mo_1, mo_0, l_0, l_1, l_2, l_3, l_4, l_5, l_6, l_7, l_8, l_9, l_10, l_11, l_12, l_13, l_14, l_15, l_16, l_17, l_18, l_19, l_20, l_21, l_30, l_31, l_32, l_36, l_40, l_41, l_42, l_43, l_44, l_45, l_46, l_47, l_48, l_49, l_50, l_51, l_52, l_57, l_58, l_60, l_64, l_72, l_80, l_92, l_98, l_99, l_100, l_102, l_105, l_111, l_112, l_114, l_115, l_116, l_117, l_120, l_144, l_200, l_201, l_240, l_300, l_320, l_400, l_500, l_550, l_560, l_649, l_650, l_1000, l_1400, l_2000, l_4000, l_10000, iN_add, iN_sub, iN_mul, iN_le_t, iN_le_f, iN_lt_t, iN_lt_f, iN_eq_f, inb_iN, ix_iN, isZ_0, isZ_1, ↓reduceIte, eq_self, c1, kd_b ho, w7, v7, r1, r2, hC, hrc]

/-! rest, salt, thick: made by a plan -/
theorem bg_eq {E X : Nat → Int32} (h : ∀ p, p < 41 ∨ 112 ≤ p → E p = X p) : bgS E = bgS X := bg_bg h
theorem tk_eq {E X : Nat → Int32} (h : ∀ p, p < 41 → E p = X p) (hm : mD X ≤ 12) : tkS E = tkS X := by
  unfold tkS
  rw [mD_of (h 4 (by omega))]
  exact sumS_congr (fun i hi => h _ (by omega))
theorem mk_eq {E X : Nat → Int32} (h : ∀ p, p < 41 ∨ 112 ≤ p → E p = X p) (hm : mD X ≤ 12) : mkS E = mkS X := by
  unfold mkS
  rw [bg_eq h, tk_eq (fun p hp => h p (Or.inl hp)) hm]
theorem mk_lo {X : Nat → Int32} {n mm p : Nat} (hs : slR X n) (h : plR X mm) (hp : p < 41 ∨ 112 ≤ p) : mkS X p = X p := by
  unfold mkS
  rw [once_p (by omega) (by omega) (by omega) (by omega), go_lo (gD_bg hs h) hp, bg_keep hp]
theorem pl_keep {X E : Nat → Int32} {mm : Nat} (h : plR X mm) (e : ∀ p, 4 ≤ p → p < 41 → E p = X p) : plR E mm := by
  obtain ⟨h1, h2, h3, T, h4, h5⟩ := h
  refine ⟨by rw [e 4 (by omega) (by omega)]; exact h1, h2, fun i hi => ?_, T, h4, ?_⟩
  · obtain ⟨a, b, c, g1, g2, g3, g4⟩ := h3 i hi
    exact ⟨a, b, c, by rw [e _ (by omega) (by omega)]; exact g1, by rw [e _ (by omega) (by omega)]; exact g2, by rw [e _ (by omega) (by omega)]; exact g3, g4⟩
  · unfold tkS at h5 ⊢
    rw [mD_of (e 4 (by omega) (by omega)), mD_N h1 h2] at *
    rw [← h5]
    exact sumS_congr (fun i hi => e _ (by omega) (by omega))
theorem cPl_keep {b mm : Nat} {X E : Nat → Int32} {G : G_} (h : plR X mm) (e : ∀ p, 4 ≤ p → p < 41 → E p = X p) (hP : cPl b X G) : cPl b E G := by
  obtain ⟨h1, h2, h3⟩ := hP
  have hm := h.2.1
  have em := mD_N h.1 hm
  have em2 : mD E = mm := by rw [mD_of (e 4 (by omega) (by omega))]; exact em
  refine ⟨by rw [e 4 (by omega) (by omega)]; exact h1, ?_, fun i hi => ?_⟩
  · rw [h2]
    unfold tkS
    rw [em2, em]
    exact (sumS_congr (fun i hi => e _ (by omega) (by omega))).symm
  · rw [em2] at hi
    rw [e _ (by omega) (by omega), e _ (by omega) (by omega), e _ (by omega) (by omega)]
    exact h3 i (by omega)
/-- a slab and a plan laid anew in region 4 -/
def newP (k p : Nat) (G : G_) : Nat → Int32 := lpS (PL p G) (newX k G)
theorem np_sl {k p n : Nat} {G : G_} (h : slR (SL k G) n) : slR (newP k p G) n := sl_X h
theorem np_c {a k p : Nat} {G : G_} (h : cSl a (SL k G) G) : cSl a (newP k p G) G := cSl_X h
theorem np_pl {k p mm : Nat} {G : G_} (h : plR (PL p G) mm) : plR (newP k p G) mm := pl_X h
theorem np_cp {b k p mm : Nat} {G : G_} (h : plR (PL p G) mm) (hP : cPl b (PL p G) G) : cPl b (newP k p G) G := cPl_X h.1 h.2.1 hP
theorem np_lay {p k : Nat} {G A : G_} {W : Nat → Int32} (hp : p < 4) (h : ∀ q, 50 ≤ q → A.1 q = G.1 q) : f_X8_layPlan (iN p) (stM 4 (newX k G) W (LG 4 A)) = some (stM 4 (newP k p G) W (LG 4 A)) := by
  have m := layPlan_ok (k := p) (D := newX k G) (W := W) (bM_LG (m := 4) (G := A) (by omega)) hp
  rw [PL_fr (G' := LG 4 A) (G := G) (by rw [LG_o (by omega), h 134 (by omega)]) (by rw [LG_o (by omega), h 135 (by omega)])] at m
  exact m
theorem cPl_cc {b : Nat} {X : Nat → Int32} {G A : G_} (h : cPl b X G) (e : ∀ q, b ≤ q → q < b + 4 → A.1 q = G.1 q) : cPl b X A := by
  unfold cPl
  rw [e b (by omega) (by omega), e (b + 1) (by omega) (by omega), e (b + 2) (by omega) (by omega), e (b + 3) (by omega) (by omega)]
  exact h
theorem lt_le (a b : Int32) : (if a < b then a else b) = if a ≤ b then a else b := by
  by_cases c : a < b
  · rw [if_pos c, if_pos (t_le.mpr (by have := t_lt.mp c; omega))]
  · rw [if_neg c]
    by_cases c2 : a ≤ b
    · rw [if_pos c2, t_eq]
      have := t_le.mp c2
      have : ¬ a.toInt < b.toInt := fun e => c (t_lt.mpr e)
      omega
    · rw [if_neg c2]
theorem op_rest (a1 a2 : Int32) {G : G_} (h : RR G) : pOK (f_X7_rest a1 a2) (f_X8_rest a1 a2) G := by
  rcases slab_cases a1 G with ⟨e1, c1⟩ | ⟨k, hk, rfl, e1, c1, ho⟩
  · refine pOK_same (x := -iN 1) h ?_ (by unfold f_X8_rest; simp (disch := omega) only [chk_t, beq_self_eq_true, nm_s, bj1_s, bj2_s, bj3_s, mo_1, mo_0, l_0, l_1, l_2, l_3, l_4, l_5, l_6, l_7, l_8, l_9, l_10, l_11, l_12, l_13, l_14, l_15, l_16, l_17, l_18, l_19, l_20, l_21, l_30, l_31, l_32, l_36, l_40, l_41, l_42, l_43, l_44, l_45, l_46, l_47, l_48, l_49, l_50, l_51, l_52, l_57, l_58, l_60, l_64, l_72, l_80, l_92, l_98, l_99, l_100, l_102, l_105, l_111, l_112, l_114, l_115, l_116, l_117, l_120, l_144, l_200, l_201, l_240, l_300, l_320, l_400, l_500, l_550, l_560, l_649, l_650, l_1000, l_1400, l_2000, l_4000, l_10000, iN_add, iN_sub, iN_mul, iN_le_t, iN_le_f, iN_lt_t, iN_lt_f, iN_eq_f, inb_iN, ix_iN, isZ_0, isZ_1, ↓reduceIte, eq_self, np_bad2 (Or.inl e1), le_m1])
    rcases plan_cases a2 G with ⟨e2, c2⟩ | ⟨p, hp, rfl, e2, c2, ho2⟩ <;> (unfold f_X7_rest; rw [c1, bj1_s, c2, bj1_s]; rfl)
  · rcases plan_cases a2 G with ⟨e2, c2⟩ | ⟨p, hp, rfl, e2, c2, ho2⟩
    · refine pOK_same (x := -iN 1) h ?_ (by unfold f_X8_rest; simp (disch := omega) only [chk_t, beq_self_eq_true, nm_s, bj1_s, bj2_s, bj3_s, mo_1, mo_0, l_0, l_1, l_2, l_3, l_4, l_5, l_6, l_7, l_8, l_9, l_10, l_11, l_12, l_13, l_14, l_15, l_16, l_17, l_18, l_19, l_20, l_21, l_30, l_31, l_32, l_36, l_40, l_41, l_42, l_43, l_44, l_45, l_46, l_47, l_48, l_49, l_50, l_51, l_52, l_57, l_58, l_60, l_64, l_72, l_80, l_92, l_98, l_99, l_100, l_102, l_105, l_111, l_112, l_114, l_115, l_116, l_117, l_120, l_144, l_200, l_201, l_240, l_300, l_320, l_400, l_500, l_550, l_560, l_649, l_650, l_1000, l_1400, l_2000, l_4000, l_10000, iN_add, iN_sub, iN_mul, iN_le_t, iN_le_f, iN_lt_t, iN_lt_f, iN_eq_f, inb_iN, ix_iN, isZ_0, isZ_1, ↓reduceIte, eq_self, np_bad2 (Or.inr e2), le_m1])
      unfold f_X7_rest
      simp (disch := omega) only [chk_t, beq_self_eq_true, nm_s, bj1_s, bj2_s, bj3_s, mo_1, mo_0, l_0, l_1, l_2, l_3, l_4, l_5, l_6, l_7, l_8, l_9, l_10, l_11, l_12, l_13, l_14, l_15, l_16, l_17, l_18, l_19, l_20, l_21, l_30, l_31, l_32, l_36, l_40, l_41, l_42, l_43, l_44, l_45, l_46, l_47, l_48, l_49, l_50, l_51, l_52, l_57, l_58, l_60, l_64, l_72, l_80, l_92, l_98, l_99, l_100, l_102, l_105, l_111, l_112, l_114, l_115, l_116, l_117, l_120, l_144, l_200, l_201, l_240, l_300, l_320, l_400, l_500, l_550, l_560, l_649, l_650, l_1000, l_1400, l_2000, l_4000, l_10000, iN_add, iN_sub, iN_mul, iN_le_t, iN_le_f, iN_lt_t, iN_lt_f, iN_eq_f, inb_iN, ix_iN, isZ_0, isZ_1, ↓reduceIte, eq_self, c1, c2, kd_b ho]
    · obtain ⟨r1, r2, r3⟩ := h.1.2.2.1 k hk
      obtain ⟨t1, t2, t3⟩ := h.1.2.2.2.1 p hp
      rcases r2 with r2 | ⟨r2, n, hsl⟩
      · refine pOK_found (f := 1) (by omega) h ?_ ?_
        · unfold f_X7_rest
          simp (disch := omega) only [chk_t, beq_self_eq_true, nm_s, bj1_s, bj2_s, bj3_s, mo_1, mo_0, l_0, l_1, l_2, l_3, l_4, l_5, l_6, l_7, l_8, l_9, l_10, l_11, l_12, l_13, l_14, l_15, l_16, l_17, l_18, l_19, l_20, l_21, l_30, l_31, l_32, l_36, l_40, l_41, l_42, l_43, l_44, l_45, l_46, l_47, l_48, l_49, l_50, l_51, l_52, l_57, l_58, l_60, l_64, l_72, l_80, l_92, l_98, l_99, l_100, l_102, l_105, l_111, l_112, l_114, l_115, l_116, l_117, l_120, l_144, l_200, l_201, l_240, l_300, l_320, l_400, l_500, l_550, l_560, l_649, l_650, l_1000, l_1400, l_2000, l_4000, l_10000, iN_add, iN_sub, iN_mul, iN_le_t, iN_le_f, iN_lt_t, iN_lt_f, iN_eq_f, inb_iN, ix_iN, isZ_0, isZ_1, ↓reduceIte, eq_self, c1, c2, kd_b ho, kd_b ho2, r1, r2, found_ok]
        · unfold f_X8_rest
          simp (disch := omega) only [chk_t, beq_self_eq_true, nm_s, bj1_s, bj2_s, bj3_s, mo_1, mo_0, l_0, l_1, l_2, l_3, l_4, l_5, l_6, l_7, l_8, l_9, l_10, l_11, l_12, l_13, l_14, l_15, l_16, l_17, l_18, l_19, l_20, l_21, l_30, l_31, l_32, l_36, l_40, l_41, l_42, l_43, l_44, l_45, l_46, l_47, l_48, l_49, l_50, l_51, l_52, l_57, l_58, l_60, l_64, l_72, l_80, l_92, l_98, l_99, l_100, l_102, l_105, l_111, l_112, l_114, l_115, l_116, l_117, l_120, l_144, l_200, l_201, l_240, l_300, l_320, l_400, l_500, l_550, l_560, l_649, l_650, l_1000, l_1400, l_2000, l_4000, l_10000, iN_add, iN_sub, iN_mul, iN_le_t, iN_le_f, iN_lt_t, iN_lt_f, iN_eq_f, inb_iN, ix_iN, isZ_0, isZ_1, ↓reduceIte, eq_self, np_miss (k := k) (p := p) hk hp (Or.inl (show (fndC 1 G).1 131 k = iN 0 by rw [fndC_o (by omega) (by omega)]; exact r2)), le_m3]
      · rcases t2 with t2 | ⟨t2, mm, hpl⟩
        · refine pOK_found (f := 1) (by omega) h ?_ ?_
          · unfold f_X7_rest
            simp (disch := omega) only [chk_t, beq_self_eq_true, nm_s, bj1_s, bj2_s, bj3_s, mo_1, mo_0, l_0, l_1, l_2, l_3, l_4, l_5, l_6, l_7, l_8, l_9, l_10, l_11, l_12, l_13, l_14, l_15, l_16, l_17, l_18, l_19, l_20, l_21, l_30, l_31, l_32, l_36, l_40, l_41, l_42, l_43, l_44, l_45, l_46, l_47, l_48, l_49, l_50, l_51, l_52, l_57, l_58, l_60, l_64, l_72, l_80, l_92, l_98, l_99, l_100, l_102, l_105, l_111, l_112, l_114, l_115, l_116, l_117, l_120, l_144, l_200, l_201, l_240, l_300, l_320, l_400, l_500, l_550, l_560, l_649, l_650, l_1000, l_1400, l_2000, l_4000, l_10000, iN_add, iN_sub, iN_mul, iN_le_t, iN_le_f, iN_lt_t, iN_lt_f, iN_eq_f, inb_iN, ix_iN, isZ_0, isZ_1, ↓reduceIte, eq_self, c1, c2, kd_b ho, kd_b ho2, r1, r2, t1, t2, found_ok]
          · unfold f_X8_rest
            simp (disch := omega) only [chk_t, beq_self_eq_true, nm_s, bj1_s, bj2_s, bj3_s, mo_1, mo_0, l_0, l_1, l_2, l_3, l_4, l_5, l_6, l_7, l_8, l_9, l_10, l_11, l_12, l_13, l_14, l_15, l_16, l_17, l_18, l_19, l_20, l_21, l_30, l_31, l_32, l_36, l_40, l_41, l_42, l_43, l_44, l_45, l_46, l_47, l_48, l_49, l_50, l_51, l_52, l_57, l_58, l_60, l_64, l_72, l_80, l_92, l_98, l_99, l_100, l_102, l_105, l_111, l_112, l_114, l_115, l_116, l_117, l_120, l_144, l_200, l_201, l_240, l_300, l_320, l_400, l_500, l_550, l_560, l_649, l_650, l_1000, l_1400, l_2000, l_4000, l_10000, iN_add, iN_sub, iN_mul, iN_le_t, iN_le_f, iN_lt_t, iN_lt_f, iN_eq_f, inb_iN, ix_iN, isZ_0, isZ_1, ↓reduceIte, eq_self, np_miss (k := k) (p := p) hk hp (Or.inr ⟨show (fndC 1 G).1 131 k = iN 1 by rw [fndC_o (by omega) (by omega)]; exact r2, show (fndC 1 G).1 133 p = iN 0 by rw [fndC_o (by omega) (by omega)]; exact t2⟩), le_m3]
        · have hX := np_sl (p := p) hsl
          have hP := np_pl (k := k) hpl
          have hc := np_c (p := p) r3
          have hcp := np_cp (k := k) hpl (t3 t2)
          have hLay := fun A W => np_lay (p := p) (k := k) (G := G) (A := A) (W := W) hp
          generalize newP k p G = X at *
          obtain ⟨A, hA, cA, fA⟩ := mkPl_ok (o := 17) (G := G) rfl ho (by omega) ho2 (by omega) hX hc.2.1 hc.2.2.2 hP hcp
          have wm := wf_mk hX hP
          have hs1 : G.1 (71 + k) 1 = iN n := hc.1.trans hX.1.1
          have hs3 : G.1 (71 + k) 3 = X 2 := hc.2.2.1
          have l0 := closs_ok (o := 17) rfl wm.1 wm.2.2.1 wm.2.2.2 cA
          obtain ⟨F, hF⟩ : ∃ F : Nat → Int32, F = fun j => lossS (restS (mkS X) j) := ⟨_, rfl⟩
          have hFt : ∀ j, lossS (restS (mkS X) j) = F j := fun j => by rw [hF]
          have hF0 : lossS (mkS X) = F 0 := hFt 0
          obtain ⟨B, hB, -, ccB⟩ := loop_p (fun f v s H => f_X7_rest_l78_20 f s.1 s.2 v H) (fun j H => cD 17 (restS (mkS X) (j - 1)) H ∧ cc G H) (mnA F 1 (iN 0, F 0)) 1 31 (by
            intro f j H h3 h4 ⟨i1, i2⟩
            obtain ⟨i, rfl⟩ : ∃ i, j = i + 1 := ⟨j - 1, by omega⟩
            rw [show i + 1 - 1 = i by omega] at i1
            obtain ⟨C, hC, cC, fC⟩ := heat_ok (k := iN 4) (o := 17) rfl (wf_rest (k := i) wm) qR_0 i1
            have wi := wf_rest (k := i + 1) wm
            have cC : cD 17 (restS (mkS X) (i + 1)) C := cC
            have lC := closs_ok (o := 17) rfl wi.1 wi.2.2.1 wi.2.2.2 cC
            rw [hFt] at lC
            refine ⟨C, ⟨cC, cc_tr i2 (cc_fr fC (by omega) (by omega))⟩, ?_⟩
            rw [mnA_s (j := i + 1) (by omega)]
            generalize mnA F 1 (iN 0, F 0) (i + 1) = s
            obtain ⟨x, y⟩ := s
            show f_X7_rest_l78_20 (f + 1) x y (iN (i + 1)) H = _
            conv => lhs; unfold f_X7_rest_l78_20
            by_cases cq : y ≤ F (i + 1)
            · simp (disch := omega) only [chk_t, beq_self_eq_true, nm_s, bj1_s, bj2_s, bj3_s, mo_1, mo_0, l_0, l_1, l_2, l_3, l_4, l_5, l_6, l_7, l_8, l_9, l_10, l_11, l_12, l_13, l_14, l_15, l_16, l_17, l_18, l_19, l_20, l_21, l_30, l_31, l_32, l_36, l_40, l_41, l_42, l_43, l_44, l_45, l_46, l_47, l_48, l_49, l_50, l_51, l_52, l_57, l_58, l_60, l_64, l_72, l_80, l_92, l_98, l_99, l_100, l_102, l_105, l_111, l_112, l_114, l_115, l_116, l_117, l_120, l_144, l_200, l_201, l_240, l_300, l_320, l_400, l_500, l_550, l_560, l_649, l_650, l_1000, l_1400, l_2000, l_4000, l_10000, iN_add, iN_sub, iN_mul, iN_le_t, iN_le_f, iN_lt_t, iN_lt_f, iN_eq_f, inb_iN, ix_iN, isZ_0, isZ_1, ↓reduceIte, eq_self, hC, lC, if_pos cq]
            · simp (disch := omega) only [chk_t, beq_self_eq_true, nm_s, bj1_s, bj2_s, bj3_s, mo_1, mo_0, l_0, l_1, l_2, l_3, l_4, l_5, l_6, l_7, l_8, l_9, l_10, l_11, l_12, l_13, l_14, l_15, l_16, l_17, l_18, l_19, l_20, l_21, l_30, l_31, l_32, l_36, l_40, l_41, l_42, l_43, l_44, l_45, l_46, l_47, l_48, l_49, l_50, l_51, l_52, l_57, l_58, l_60, l_64, l_72, l_80, l_92, l_98, l_99, l_100, l_102, l_105, l_111, l_112, l_114, l_115, l_116, l_117, l_120, l_144, l_200, l_201, l_240, l_300, l_320, l_400, l_500, l_550, l_560, l_649, l_650, l_1000, l_1400, l_2000, l_4000, l_10000, iN_add, iN_sub, iN_mul, iN_le_t, iN_le_f, iN_lt_t, iN_lt_f, iN_eq_f, inb_iN, ix_iN, isZ_0, isZ_1, ↓reduceIte, eq_self, hC, lC, if_neg cq]) (by
            intro f x y H
            show f_X7_rest_l78_20 (f + 1) x y (iN 31) H = _
            unfold f_X7_rest_l78_20
            simp (disch := omega) only [chk_t, beq_self_eq_true, nm_s, bj1_s, bj2_s, bj3_s, mo_1, mo_0, l_0, l_1, l_2, l_3, l_4, l_5, l_6, l_7, l_8, l_9, l_10, l_11, l_12, l_13, l_14, l_15, l_16, l_17, l_18, l_19, l_20, l_21, l_30, l_31, l_32, l_36, l_40, l_41, l_42, l_43, l_44, l_45, l_46, l_47, l_48, l_49, l_50, l_51, l_52, l_57, l_58, l_60, l_64, l_72, l_80, l_92, l_98, l_99, l_100, l_102, l_105, l_111, l_112, l_114, l_115, l_116, l_117, l_120, l_144, l_200, l_201, l_240, l_300, l_320, l_400, l_500, l_550, l_560, l_649, l_650, l_1000, l_1400, l_2000, l_4000, l_10000, iN_add, iN_sub, iN_mul, iN_le_t, iN_le_f, iN_lt_t, iN_lt_f, iN_eq_f, inb_iN, ix_iN, isZ_0, isZ_1, ↓reduceIte, eq_self]) (by omega) (n := FU) (fu_lt (by omega)) (G := A) ⟨cA, cc_fr fA (by omega) (by omega)⟩
          rw [mnA_0] at hB
          have hB : f_X7_rest_l78_20 FU (iN 0) (F 0) (iN 1) A = some ((mnA F 1 (iN 0, F 0) 31).1, (mnA F 1 (iN 0, F 0) 31).2, B) := hB
          have hbM := fun y => bM_LG (m := 4) (G := sI B 0 16 y) (by omega)
          have hM := fun y W => loop_p (fun f v s H => f_X8_rest_l40_16 f s.1 s.2 v H) (fun j H => ∃ W', H = stM 4 (restS (mkS X) (j - 1)) W' (LG 4 (sI B 0 16 y))) (mnA F 1 (iN 0, F 0)) 1 31 (by
            intro f j H h3 h4 ⟨W', eH⟩
            subst eH
            obtain ⟨i, rfl⟩ : ∃ i, j = i + 1 := ⟨j - 1, by omega⟩
            rw [show i + 1 - 1 = i by omega, show i + 1 + 1 - 1 = i + 1 by omega]
            have wi := wf_rest (k := i + 1) wm
            obtain ⟨W2, m1⟩ := mrests_ok (D := restS (mkS X) i) (W := W') (c := 1) (hbM y) (wf_rest (k := i) wm).1 (by omega)
            have m1 : f_X8_rests (iN 1) (stM 4 (restS (mkS X) i) W' (LG 4 (sI B 0 16 y))) = some (stM 4 (restS (mkS X) (i + 1)) W2 (LG 4 (sI B 0 16 y))) := m1
            have m2 := mloss_ok (D := restS (mkS X) (i + 1)) (W := W2) (hbM y) wi.1
            rw [hFt] at m2
            refine ⟨_, ⟨W2, rfl⟩, ?_⟩
            rw [mnA_s (j := i + 1) (by omega)]
            generalize mnA F 1 (iN 0, F 0) (i + 1) = s
            obtain ⟨x, z⟩ := s
            show f_X8_rest_l40_16 (f + 1) x z (iN (i + 1)) _ = _
            conv => lhs; unfold f_X8_rest_l40_16
            by_cases cq : z ≤ F (i + 1)
            · simp (disch := omega) only [chk_t, beq_self_eq_true, nm_s, bj1_s, bj2_s, bj3_s, mo_1, mo_0, l_0, l_1, l_2, l_3, l_4, l_5, l_6, l_7, l_8, l_9, l_10, l_11, l_12, l_13, l_14, l_15, l_16, l_17, l_18, l_19, l_20, l_21, l_30, l_31, l_32, l_36, l_40, l_41, l_42, l_43, l_44, l_45, l_46, l_47, l_48, l_49, l_50, l_51, l_52, l_57, l_58, l_60, l_64, l_72, l_80, l_92, l_98, l_99, l_100, l_102, l_105, l_111, l_112, l_114, l_115, l_116, l_117, l_120, l_144, l_200, l_201, l_240, l_300, l_320, l_400, l_500, l_550, l_560, l_649, l_650, l_1000, l_1400, l_2000, l_4000, l_10000, iN_add, iN_sub, iN_mul, iN_le_t, iN_le_f, iN_lt_t, iN_lt_f, iN_eq_f, inb_iN, ix_iN, isZ_0, isZ_1, ↓reduceIte, eq_self, m1, m2, if_pos cq, lesser_ok, lt_le]
            · simp (disch := omega) only [chk_t, beq_self_eq_true, nm_s, bj1_s, bj2_s, bj3_s, mo_1, mo_0, l_0, l_1, l_2, l_3, l_4, l_5, l_6, l_7, l_8, l_9, l_10, l_11, l_12, l_13, l_14, l_15, l_16, l_17, l_18, l_19, l_20, l_21, l_30, l_31, l_32, l_36, l_40, l_41, l_42, l_43, l_44, l_45, l_46, l_47, l_48, l_49, l_50, l_51, l_52, l_57, l_58, l_60, l_64, l_72, l_80, l_92, l_98, l_99, l_100, l_102, l_105, l_111, l_112, l_114, l_115, l_116, l_117, l_120, l_144, l_200, l_201, l_240, l_300, l_320, l_400, l_500, l_550, l_560, l_649, l_650, l_1000, l_1400, l_2000, l_4000, l_10000, iN_add, iN_sub, iN_mul, iN_le_t, iN_le_f, iN_lt_t, iN_lt_f, iN_eq_f, inb_iN, ix_iN, isZ_0, isZ_1, ↓reduceIte, eq_self, m1, m2, if_neg cq, lesser_ok, lt_le]) (by
            intro f x z H
            show f_X8_rest_l40_16 (f + 1) x z (iN 31) H = _
            unfold f_X8_rest_l40_16
            simp (disch := omega) only [chk_t, beq_self_eq_true, nm_s, bj1_s, bj2_s, bj3_s, mo_1, mo_0, l_0, l_1, l_2, l_3, l_4, l_5, l_6, l_7, l_8, l_9, l_10, l_11, l_12, l_13, l_14, l_15, l_16, l_17, l_18, l_19, l_20, l_21, l_30, l_31, l_32, l_36, l_40, l_41, l_42, l_43, l_44, l_45, l_46, l_47, l_48, l_49, l_50, l_51, l_52, l_57, l_58, l_60, l_64, l_72, l_80, l_92, l_98, l_99, l_100, l_102, l_105, l_111, l_112, l_114, l_115, l_116, l_117, l_120, l_144, l_200, l_201, l_240, l_300, l_320, l_400, l_500, l_550, l_560, l_649, l_650, l_1000, l_1400, l_2000, l_4000, l_10000, iN_add, iN_sub, iN_mul, iN_le_t, iN_le_f, iN_lt_t, iN_lt_f, iN_eq_f, inb_iN, ix_iN, isZ_0, isZ_1, ↓reduceIte, eq_self]) (by omega) (n := FU) (fu_lt (by omega)) (G := stM 4 (mkS X) W (LG 4 (sI B 0 16 y))) ⟨W, rfl⟩
          rw [mnA_0] at hM
          generalize mnA F 1 (iN 0, F 0) 31 = s at *
          obtain ⟨x, y⟩ := s
          have e50 := cc_50 (y := y) ccB
          obtain ⟨W1, m1⟩ := mmk_ok (D := X) (W := WM (sI B 0 16 y)) (hbM y) hX hP
          have m2 := mloss_ok (D := mkS X) (W := W1) (hbM y) wm.1
          rw [hF0] at m2 l0
          obtain ⟨H, hH, W', eH⟩ := hM y W1
          have hH : f_X8_rest_l40_16 FU (iN 0) (F 0) (iN 1) (stM 4 (mkS X) W1 (LG 4 (sI B 0 16 y))) = some (x, y, H) := hH
          subst eH
          refine pOK_tell (x := x) (y := y) (G1 := B) (H := stM 4 (restS (mkS X) (31 - 1)) W' (LG 4 (sI B 0 16 y))) h ?_ ccB ?_ (mf_st mf_LG)
          · unfold f_X7_rest f_X7_told
            simp (disch := omega) only [chk_t, beq_self_eq_true, nm_s, bj1_s, bj2_s, bj3_s, mo_1, mo_0, l_0, l_1, l_2, l_3, l_4, l_5, l_6, l_7, l_8, l_9, l_10, l_11, l_12, l_13, l_14, l_15, l_16, l_17, l_18, l_19, l_20, l_21, l_30, l_31, l_32, l_36, l_40, l_41, l_42, l_43, l_44, l_45, l_46, l_47, l_48, l_49, l_50, l_51, l_52, l_57, l_58, l_60, l_64, l_72, l_80, l_92, l_98, l_99, l_100, l_102, l_105, l_111, l_112, l_114, l_115, l_116, l_117, l_120, l_144, l_200, l_201, l_240, l_300, l_320, l_400, l_500, l_550, l_560, l_649, l_650, l_1000, l_1400, l_2000, l_4000, l_10000, iN_add, iN_sub, iN_mul, iN_le_t, iN_le_f, iN_lt_t, iN_lt_f, iN_eq_f, inb_iN, ix_iN, isZ_0, isZ_1, ↓reduceIte, eq_self, c1, c2, kd_b ho, kd_b ho2, r1, r2, t1, t2, hs1, hs3, hA, l0, hB]
          · have r2' : (sI B 0 16 y).1 131 k = iN 1 := by rw [e50 131 (by omega)]; exact r2
            have t2' : (sI B 0 16 y).1 133 p = iN 1 := by rw [e50 133 (by omega)]; exact t2
            unfold f_X8_rest f_X8_tells
            simp (disch := omega) only [chk_t, beq_self_eq_true, nm_s, bj1_s, bj2_s, bj3_s, mo_1, mo_0, l_0, l_1, l_2, l_3, l_4, l_5, l_6, l_7, l_8, l_9, l_10, l_11, l_12, l_13, l_14, l_15, l_16, l_17, l_18, l_19, l_20, l_21, l_30, l_31, l_32, l_36, l_40, l_41, l_42, l_43, l_44, l_45, l_46, l_47, l_48, l_49, l_50, l_51, l_52, l_57, l_58, l_60, l_64, l_72, l_80, l_92, l_98, l_99, l_100, l_102, l_105, l_111, l_112, l_114, l_115, l_116, l_117, l_120, l_144, l_200, l_201, l_240, l_300, l_320, l_400, l_500, l_550, l_560, l_649, l_650, l_1000, l_1400, l_2000, l_4000, l_10000, iN_add, iN_sub, iN_mul, iN_le_t, iN_le_f, iN_lt_t, iN_lt_f, iN_eq_f, inb_iN, ix_iN, isZ_0, isZ_1, ↓reduceIte, eq_self, np_ok hk hp r2' t2', le_00, nx_new hk e50, hLay (sI B 0 16 y) (WM (sI B 0 16 y)) e50, m1, m2, hH]
theorem up2_eq {X E : Nat → Int32} {s : Nat} {x : Int32} (h : ∀ p, p < 41 ∨ 112 ≤ p → p ≠ s → E p = X p) : ∀ p, p < 41 ∨ 112 ≤ p → up E s x p = up X s x p := by
  intro p hp
  unfold up
  split
  · rfl
  · next c => exact h p hp c
theorem op_salt (a1 a2 : Int32) {G : G_} (h : RR G) : pOK (f_X7_salt a1 a2) (f_X8_salt a1 a2) G := by
  rcases slab_cases a1 G with ⟨e1, c1⟩ | ⟨k, hk, rfl, e1, c1, ho⟩
  · refine pOK_same (x := -iN 1) h ?_ (by unfold f_X8_salt; simp (disch := omega) only [chk_t, beq_self_eq_true, nm_s, bj1_s, bj2_s, bj3_s, mo_1, mo_0, l_0, l_1, l_2, l_3, l_4, l_5, l_6, l_7, l_8, l_9, l_10, l_11, l_12, l_13, l_14, l_15, l_16, l_17, l_18, l_19, l_20, l_21, l_30, l_31, l_32, l_36, l_40, l_41, l_42, l_43, l_44, l_45, l_46, l_47, l_48, l_49, l_50, l_51, l_52, l_57, l_58, l_60, l_64, l_72, l_80, l_92, l_98, l_99, l_100, l_102, l_105, l_111, l_112, l_114, l_115, l_116, l_117, l_120, l_144, l_200, l_201, l_240, l_300, l_320, l_400, l_500, l_550, l_560, l_649, l_650, l_1000, l_1400, l_2000, l_4000, l_10000, iN_add, iN_sub, iN_mul, iN_le_t, iN_le_f, iN_lt_t, iN_lt_f, iN_eq_f, inb_iN, ix_iN, isZ_0, isZ_1, ↓reduceIte, eq_self, np_bad2 (Or.inl e1), le_m1])
    rcases plan_cases a2 G with ⟨e2, c2⟩ | ⟨p, hp, rfl, e2, c2, ho2⟩ <;> (unfold f_X7_salt; rw [c1, bj1_s, c2, bj1_s]; rfl)
  · rcases plan_cases a2 G with ⟨e2, c2⟩ | ⟨p, hp, rfl, e2, c2, ho2⟩
    · refine pOK_same (x := -iN 1) h ?_ (by unfold f_X8_salt; simp (disch := omega) only [chk_t, beq_self_eq_true, nm_s, bj1_s, bj2_s, bj3_s, mo_1, mo_0, l_0, l_1, l_2, l_3, l_4, l_5, l_6, l_7, l_8, l_9, l_10, l_11, l_12, l_13, l_14, l_15, l_16, l_17, l_18, l_19, l_20, l_21, l_30, l_31, l_32, l_36, l_40, l_41, l_42, l_43, l_44, l_45, l_46, l_47, l_48, l_49, l_50, l_51, l_52, l_57, l_58, l_60, l_64, l_72, l_80, l_92, l_98, l_99, l_100, l_102, l_105, l_111, l_112, l_114, l_115, l_116, l_117, l_120, l_144, l_200, l_201, l_240, l_300, l_320, l_400, l_500, l_550, l_560, l_649, l_650, l_1000, l_1400, l_2000, l_4000, l_10000, iN_add, iN_sub, iN_mul, iN_le_t, iN_le_f, iN_lt_t, iN_lt_f, iN_eq_f, inb_iN, ix_iN, isZ_0, isZ_1, ↓reduceIte, eq_self, np_bad2 (Or.inr e2), le_m1])
      unfold f_X7_salt
      simp (disch := omega) only [chk_t, beq_self_eq_true, nm_s, bj1_s, bj2_s, bj3_s, mo_1, mo_0, l_0, l_1, l_2, l_3, l_4, l_5, l_6, l_7, l_8, l_9, l_10, l_11, l_12, l_13, l_14, l_15, l_16, l_17, l_18, l_19, l_20, l_21, l_30, l_31, l_32, l_36, l_40, l_41, l_42, l_43, l_44, l_45, l_46, l_47, l_48, l_49, l_50, l_51, l_52, l_57, l_58, l_60, l_64, l_72, l_80, l_92, l_98, l_99, l_100, l_102, l_105, l_111, l_112, l_114, l_115, l_116, l_117, l_120, l_144, l_200, l_201, l_240, l_300, l_320, l_400, l_500, l_550, l_560, l_649, l_650, l_1000, l_1400, l_2000, l_4000, l_10000, iN_add, iN_sub, iN_mul, iN_le_t, iN_le_f, iN_lt_t, iN_lt_f, iN_eq_f, inb_iN, ix_iN, isZ_0, isZ_1, ↓reduceIte, eq_self, c1, c2, kd_b ho]
    · obtain ⟨r1, r2, r3⟩ := h.1.2.2.1 k hk
      obtain ⟨t1, t2, t3⟩ := h.1.2.2.2.1 p hp
      rcases r2 with r2 | ⟨r2, n, hsl⟩
      · refine pOK_found (f := 1) (by omega) h ?_ ?_
        · unfold f_X7_salt
          simp (disch := omega) only [chk_t, beq_self_eq_true, nm_s, bj1_s, bj2_s, bj3_s, mo_1, mo_0, l_0, l_1, l_2, l_3, l_4, l_5, l_6, l_7, l_8, l_9, l_10, l_11, l_12, l_13, l_14, l_15, l_16, l_17, l_18, l_19, l_20, l_21, l_30, l_31, l_32, l_36, l_40, l_41, l_42, l_43, l_44, l_45, l_46, l_47, l_48, l_49, l_50, l_51, l_52, l_57, l_58, l_60, l_64, l_72, l_80, l_92, l_98, l_99, l_100, l_102, l_105, l_111, l_112, l_114, l_115, l_116, l_117, l_120, l_144, l_200, l_201, l_240, l_300, l_320, l_400, l_500, l_550, l_560, l_649, l_650, l_1000, l_1400, l_2000, l_4000, l_10000, iN_add, iN_sub, iN_mul, iN_le_t, iN_le_f, iN_lt_t, iN_lt_f, iN_eq_f, inb_iN, ix_iN, isZ_0, isZ_1, ↓reduceIte, eq_self, c1, c2, kd_b ho, kd_b ho2, r1, r2, found_ok]
        · unfold f_X8_salt
          simp (disch := omega) only [chk_t, beq_self_eq_true, nm_s, bj1_s, bj2_s, bj3_s, mo_1, mo_0, l_0, l_1, l_2, l_3, l_4, l_5, l_6, l_7, l_8, l_9, l_10, l_11, l_12, l_13, l_14, l_15, l_16, l_17, l_18, l_19, l_20, l_21, l_30, l_31, l_32, l_36, l_40, l_41, l_42, l_43, l_44, l_45, l_46, l_47, l_48, l_49, l_50, l_51, l_52, l_57, l_58, l_60, l_64, l_72, l_80, l_92, l_98, l_99, l_100, l_102, l_105, l_111, l_112, l_114, l_115, l_116, l_117, l_120, l_144, l_200, l_201, l_240, l_300, l_320, l_400, l_500, l_550, l_560, l_649, l_650, l_1000, l_1400, l_2000, l_4000, l_10000, iN_add, iN_sub, iN_mul, iN_le_t, iN_le_f, iN_lt_t, iN_lt_f, iN_eq_f, inb_iN, ix_iN, isZ_0, isZ_1, ↓reduceIte, eq_self, np_miss (k := k) (p := p) hk hp (Or.inl (show (fndC 1 G).1 131 k = iN 0 by rw [fndC_o (by omega) (by omega)]; exact r2)), le_m3]
      · rcases t2 with t2 | ⟨t2, mm, hpl⟩
        · refine pOK_found (f := 1) (by omega) h ?_ ?_
          · unfold f_X7_salt
            simp (disch := omega) only [chk_t, beq_self_eq_true, nm_s, bj1_s, bj2_s, bj3_s, mo_1, mo_0, l_0, l_1, l_2, l_3, l_4, l_5, l_6, l_7, l_8, l_9, l_10, l_11, l_12, l_13, l_14, l_15, l_16, l_17, l_18, l_19, l_20, l_21, l_30, l_31, l_32, l_36, l_40, l_41, l_42, l_43, l_44, l_45, l_46, l_47, l_48, l_49, l_50, l_51, l_52, l_57, l_58, l_60, l_64, l_72, l_80, l_92, l_98, l_99, l_100, l_102, l_105, l_111, l_112, l_114, l_115, l_116, l_117, l_120, l_144, l_200, l_201, l_240, l_300, l_320, l_400, l_500, l_550, l_560, l_649, l_650, l_1000, l_1400, l_2000, l_4000, l_10000, iN_add, iN_sub, iN_mul, iN_le_t, iN_le_f, iN_lt_t, iN_lt_f, iN_eq_f, inb_iN, ix_iN, isZ_0, isZ_1, ↓reduceIte, eq_self, c1, c2, kd_b ho, kd_b ho2, r1, r2, t1, t2, found_ok]
          · unfold f_X8_salt
            simp (disch := omega) only [chk_t, beq_self_eq_true, nm_s, bj1_s, bj2_s, bj3_s, mo_1, mo_0, l_0, l_1, l_2, l_3, l_4, l_5, l_6, l_7, l_8, l_9, l_10, l_11, l_12, l_13, l_14, l_15, l_16, l_17, l_18, l_19, l_20, l_21, l_30, l_31, l_32, l_36, l_40, l_41, l_42, l_43, l_44, l_45, l_46, l_47, l_48, l_49, l_50, l_51, l_52, l_57, l_58, l_60, l_64, l_72, l_80, l_92, l_98, l_99, l_100, l_102, l_105, l_111, l_112, l_114, l_115, l_116, l_117, l_120, l_144, l_200, l_201, l_240, l_300, l_320, l_400, l_500, l_550, l_560, l_649, l_650, l_1000, l_1400, l_2000, l_4000, l_10000, iN_add, iN_sub, iN_mul, iN_le_t, iN_le_f, iN_lt_t, iN_lt_f, iN_eq_f, inb_iN, ix_iN, isZ_0, isZ_1, ↓reduceIte, eq_self, np_miss (k := k) (p := p) hk hp (Or.inr ⟨show (fndC 1 G).1 131 k = iN 1 by rw [fndC_o (by omega) (by omega)]; exact r2, show (fndC 1 G).1 133 p = iN 0 by rw [fndC_o (by omega) (by omega)]; exact t2⟩), le_m3]
        · have hX := np_sl (p := p) hsl
          have hP := np_pl (k := k) hpl
          have hc := np_c (p := p) r3
          have hcp := np_cp (k := k) hpl (t3 t2)
          have hLay := fun A W => np_lay (p := p) (k := k) (G := G) (A := A) (W := W) hp
          generalize newP k p G = X at *
          have hs1 : G.1 (71 + k) 1 = iN n := hc.1.trans hX.1.1
          have hXs : ∀ s, slR (up X 2 (iN s)) n := fun s => ⟨okN_keep hX.1 (up_ne (by omega)), by rw [up_ne (by omega)]; exact hX.2⟩
          have hPs : ∀ s, plR (up X 2 (iN s)) mm := fun s => pl_keep hP (fun p h1 h2 => up_ne (by omega))
          have wm := fun s => wf_mk (hXs s) (hPs s)
          obtain ⟨F, hF⟩ : ∃ F : Nat → Int32, F = fun j => crustS (mkS (up X 2 (iN j))) := ⟨_, rfl⟩
          have hFt : ∀ j, crustS (mkS (up X 2 (iN j))) = F j := fun j => by rw [hF]
          obtain ⟨B, hB, ccB⟩ := loop_p (fun f v s H => f_X7_salt_l54_16 (71 + k) (75 + 4 * p) f s.1 s.2 v H) (fun _ H => cc G H) (mxA F 0 (iN 0, -iN 1)) 0 61 (by
            intro f j H h3 h4 hI
            have q1 : H.1 (71 + k) = G.1 (71 + k) := cc_at hI (by omega)
            obtain ⟨A, hA, cA, fA⟩ := mkPl_ok (o := 17) (X := up X 2 (iN j)) (G := H) rfl ho (by omega) ho2 (by omega) (hXs j) (by rw [up_ne (by omega), q1]; exact hc.2.1) (by rw [up_ne (by omega), q1]; exact hc.2.2.2) (hPs j) (cPl_keep hP (fun p h1 h2 => up_ne (by omega)) (cPl_cc hcp (fun q h1 h2 => cc_at hI (by omega))))
            rw [up_eq] at hA
            have lA := ccrust_ok (o := 17) rfl cA
            rw [hFt] at lA
            have s1 : H.1 (71 + k) 1 = iN n := by rw [q1]; exact hs1
            refine ⟨A, cc_tr hI (cc_fr fA (by omega) (by omega)), ?_⟩
            rw [mxA_s (by omega)]
            generalize mxA F 0 (iN 0, -iN 1) j = s
            obtain ⟨x, y⟩ := s
            show f_X7_salt_l54_16 (71 + k) (75 + 4 * p) (f + 1) x y (iN j) H = _
            conv => lhs; unfold f_X7_salt_l54_16
            by_cases cq : F j ≤ y
            · simp (disch := omega) only [chk_t, beq_self_eq_true, nm_s, bj1_s, bj2_s, bj3_s, mo_1, mo_0, l_0, l_1, l_2, l_3, l_4, l_5, l_6, l_7, l_8, l_9, l_10, l_11, l_12, l_13, l_14, l_15, l_16, l_17, l_18, l_19, l_20, l_21, l_30, l_31, l_32, l_36, l_40, l_41, l_42, l_43, l_44, l_45, l_46, l_47, l_48, l_49, l_50, l_51, l_52, l_57, l_58, l_60, l_64, l_72, l_80, l_92, l_98, l_99, l_100, l_102, l_105, l_111, l_112, l_114, l_115, l_116, l_117, l_120, l_144, l_200, l_201, l_240, l_300, l_320, l_400, l_500, l_550, l_560, l_649, l_650, l_1000, l_1400, l_2000, l_4000, l_10000, iN_add, iN_sub, iN_mul, iN_le_t, iN_le_f, iN_lt_t, iN_lt_f, iN_eq_f, inb_iN, ix_iN, isZ_0, isZ_1, ↓reduceIte, eq_self, s1, hA, lA, if_pos cq]
            · simp (disch := omega) only [chk_t, beq_self_eq_true, nm_s, bj1_s, bj2_s, bj3_s, mo_1, mo_0, l_0, l_1, l_2, l_3, l_4, l_5, l_6, l_7, l_8, l_9, l_10, l_11, l_12, l_13, l_14, l_15, l_16, l_17, l_18, l_19, l_20, l_21, l_30, l_31, l_32, l_36, l_40, l_41, l_42, l_43, l_44, l_45, l_46, l_47, l_48, l_49, l_50, l_51, l_52, l_57, l_58, l_60, l_64, l_72, l_80, l_92, l_98, l_99, l_100, l_102, l_105, l_111, l_112, l_114, l_115, l_116, l_117, l_120, l_144, l_200, l_201, l_240, l_300, l_320, l_400, l_500, l_550, l_560, l_649, l_650, l_1000, l_1400, l_2000, l_4000, l_10000, iN_add, iN_sub, iN_mul, iN_le_t, iN_le_f, iN_lt_t, iN_lt_f, iN_eq_f, inb_iN, ix_iN, isZ_0, isZ_1, ↓reduceIte, eq_self, s1, hA, lA, if_neg cq]) (by
            intro f x y H
            show f_X7_salt_l54_16 (71 + k) (75 + 4 * p) (f + 1) x y (iN 61) H = _
            unfold f_X7_salt_l54_16
            simp (disch := omega) only [chk_t, beq_self_eq_true, nm_s, bj1_s, bj2_s, bj3_s, mo_1, mo_0, l_0, l_1, l_2, l_3, l_4, l_5, l_6, l_7, l_8, l_9, l_10, l_11, l_12, l_13, l_14, l_15, l_16, l_17, l_18, l_19, l_20, l_21, l_30, l_31, l_32, l_36, l_40, l_41, l_42, l_43, l_44, l_45, l_46, l_47, l_48, l_49, l_50, l_51, l_52, l_57, l_58, l_60, l_64, l_72, l_80, l_92, l_98, l_99, l_100, l_102, l_105, l_111, l_112, l_114, l_115, l_116, l_117, l_120, l_144, l_200, l_201, l_240, l_300, l_320, l_400, l_500, l_550, l_560, l_649, l_650, l_1000, l_1400, l_2000, l_4000, l_10000, iN_add, iN_sub, iN_mul, iN_le_t, iN_le_f, iN_lt_t, iN_lt_f, iN_eq_f, inb_iN, ix_iN, isZ_0, isZ_1, ↓reduceIte, eq_self]) (by omega) (n := FU) (fu_lt (by omega)) (G := G) cc_refl
          rw [mxA_0] at hB
          have hB : f_X7_salt_l54_16 (71 + k) (75 + 4 * p) FU (iN 0) (-iN 1) (iN 0) G = some ((mxA F 0 (iN 0, -iN 1) 61).1, (mxA F 0 (iN 0, -iN 1) 61).2, B) := hB
          have hbM := fun y => bM_LG (m := 4) (G := sI B 0 16 y) (by omega)
          have hM := fun y W => loop_p (fun f v s H => f_X8_salt_l33_12 f s.1 s.2 v H) (fun _ H => ∃ D' W', H = stM 4 D' W' (LG 4 (sI B 0 16 y)) ∧ ∀ p, p < 41 ∨ 112 ≤ p → p ≠ 2 → D' p = X p) (mxA F 0 (iN 0, -iN 1)) 0 61 (by
            intro f j H h3 h4 ⟨D', W', eH, hD⟩
            subst eH
            have eU := up2_eq (x := iN j) hD
            have hs' : slR (up D' 2 (iN j)) n := ⟨okN_keep (hXs j).1 (eU 0 (by omega)), by rw [eU 1 (by omega)]; exact (hXs j).2⟩
            have hp' : plR (up D' 2 (iN j)) mm := pl_keep (hPs j) (fun p h1 h2 => eU p (by omega))
            obtain ⟨W2, m1⟩ := mmk_ok (D := up D' 2 (iN j)) (W := W') (hbM y) hs' hp'
            rw [mk_eq eU (by rw [mD_N (hPs j).1 (hPs j).2.1]; exact (hPs j).2.1)] at m1
            have m2 := mcrust_ok (D := mkS (up X 2 (iN j))) (W := W2) (hbM y)
            rw [hFt] at m2
            refine ⟨_, ⟨mkS (up X 2 (iN j)), W2, rfl, fun p h1 h2 => by rw [mk_lo (hXs j) (hPs j) h1, up_ne h2]⟩, ?_⟩
            rw [mxA_s (by omega)]
            generalize mxA F 0 (iN 0, -iN 1) j = s
            obtain ⟨x, z⟩ := s
            show f_X8_salt_l33_12 (f + 1) x z (iN j) _ = _
            conv => lhs; unfold f_X8_salt_l33_12
            by_cases cq : F j ≤ z
            · simp (disch := omega) only [chk_t, beq_self_eq_true, nm_s, bj1_s, bj2_s, bj3_s, mo_1, mo_0, l_0, l_1, l_2, l_3, l_4, l_5, l_6, l_7, l_8, l_9, l_10, l_11, l_12, l_13, l_14, l_15, l_16, l_17, l_18, l_19, l_20, l_21, l_30, l_31, l_32, l_36, l_40, l_41, l_42, l_43, l_44, l_45, l_46, l_47, l_48, l_49, l_50, l_51, l_52, l_57, l_58, l_60, l_64, l_72, l_80, l_92, l_98, l_99, l_100, l_102, l_105, l_111, l_112, l_114, l_115, l_116, l_117, l_120, l_144, l_200, l_201, l_240, l_300, l_320, l_400, l_500, l_550, l_560, l_649, l_650, l_1000, l_1400, l_2000, l_4000, l_10000, iN_add, iN_sub, iN_mul, iN_le_t, iN_le_f, iN_lt_t, iN_lt_f, iN_eq_f, inb_iN, ix_iN, isZ_0, isZ_1, ↓reduceIte, eq_self, put_ok (hbM y), m1, m2, if_pos cq, greater_ok, gt_le]
            · simp (disch := omega) only [chk_t, beq_self_eq_true, nm_s, bj1_s, bj2_s, bj3_s, mo_1, mo_0, l_0, l_1, l_2, l_3, l_4, l_5, l_6, l_7, l_8, l_9, l_10, l_11, l_12, l_13, l_14, l_15, l_16, l_17, l_18, l_19, l_20, l_21, l_30, l_31, l_32, l_36, l_40, l_41, l_42, l_43, l_44, l_45, l_46, l_47, l_48, l_49, l_50, l_51, l_52, l_57, l_58, l_60, l_64, l_72, l_80, l_92, l_98, l_99, l_100, l_102, l_105, l_111, l_112, l_114, l_115, l_116, l_117, l_120, l_144, l_200, l_201, l_240, l_300, l_320, l_400, l_500, l_550, l_560, l_649, l_650, l_1000, l_1400, l_2000, l_4000, l_10000, iN_add, iN_sub, iN_mul, iN_le_t, iN_le_f, iN_lt_t, iN_lt_f, iN_eq_f, inb_iN, ix_iN, isZ_0, isZ_1, ↓reduceIte, eq_self, put_ok (hbM y), m1, m2, if_neg cq, greater_ok, gt_le]) (by
            intro f x z H
            show f_X8_salt_l33_12 (f + 1) x z (iN 61) H = _
            unfold f_X8_salt_l33_12
            simp (disch := omega) only [chk_t, beq_self_eq_true, nm_s, bj1_s, bj2_s, bj3_s, mo_1, mo_0, l_0, l_1, l_2, l_3, l_4, l_5, l_6, l_7, l_8, l_9, l_10, l_11, l_12, l_13, l_14, l_15, l_16, l_17, l_18, l_19, l_20, l_21, l_30, l_31, l_32, l_36, l_40, l_41, l_42, l_43, l_44, l_45, l_46, l_47, l_48, l_49, l_50, l_51, l_52, l_57, l_58, l_60, l_64, l_72, l_80, l_92, l_98, l_99, l_100, l_102, l_105, l_111, l_112, l_114, l_115, l_116, l_117, l_120, l_144, l_200, l_201, l_240, l_300, l_320, l_400, l_500, l_550, l_560, l_649, l_650, l_1000, l_1400, l_2000, l_4000, l_10000, iN_add, iN_sub, iN_mul, iN_le_t, iN_le_f, iN_lt_t, iN_lt_f, iN_eq_f, inb_iN, ix_iN, isZ_0, isZ_1, ↓reduceIte, eq_self]) (by omega) (n := FU) (fu_lt (by omega)) (G := stM 4 X W (LG 4 (sI B 0 16 y))) ⟨X, W, rfl, fun _ _ _ => rfl⟩
          rw [mxA_0] at hM
          generalize mxA F 0 (iN 0, -iN 1) 61 = s at *
          obtain ⟨x, y⟩ := s
          have e50 := cc_50 (y := y) ccB
          obtain ⟨H, hH, D', W', eH, -⟩ := hM y (WM (sI B 0 16 y))
          have hH : f_X8_salt_l33_12 FU (iN 0) (-iN 1) (iN 0) (stM 4 X (WM (sI B 0 16 y)) (LG 4 (sI B 0 16 y))) = some (x, y, H) := hH
          subst eH
          refine pOK_tell (x := x) (y := y) (G1 := B) (H := stM 4 D' W' (LG 4 (sI B 0 16 y))) h ?_ ccB ?_ (mf_st mf_LG)
          · unfold f_X7_salt f_X7_told
            simp (disch := omega) only [chk_t, beq_self_eq_true, nm_s, bj1_s, bj2_s, bj3_s, mo_1, mo_0, l_0, l_1, l_2, l_3, l_4, l_5, l_6, l_7, l_8, l_9, l_10, l_11, l_12, l_13, l_14, l_15, l_16, l_17, l_18, l_19, l_20, l_21, l_30, l_31, l_32, l_36, l_40, l_41, l_42, l_43, l_44, l_45, l_46, l_47, l_48, l_49, l_50, l_51, l_52, l_57, l_58, l_60, l_64, l_72, l_80, l_92, l_98, l_99, l_100, l_102, l_105, l_111, l_112, l_114, l_115, l_116, l_117, l_120, l_144, l_200, l_201, l_240, l_300, l_320, l_400, l_500, l_550, l_560, l_649, l_650, l_1000, l_1400, l_2000, l_4000, l_10000, iN_add, iN_sub, iN_mul, iN_le_t, iN_le_f, iN_lt_t, iN_lt_f, iN_eq_f, inb_iN, ix_iN, isZ_0, isZ_1, ↓reduceIte, eq_self, c1, c2, kd_b ho, kd_b ho2, r1, r2, t1, t2, hB]
          · have r2' : (sI B 0 16 y).1 131 k = iN 1 := by rw [e50 131 (by omega)]; exact r2
            have t2' : (sI B 0 16 y).1 133 p = iN 1 := by rw [e50 133 (by omega)]; exact t2
            unfold f_X8_salt f_X8_tells
            simp (disch := omega) only [chk_t, beq_self_eq_true, nm_s, bj1_s, bj2_s, bj3_s, mo_1, mo_0, l_0, l_1, l_2, l_3, l_4, l_5, l_6, l_7, l_8, l_9, l_10, l_11, l_12, l_13, l_14, l_15, l_16, l_17, l_18, l_19, l_20, l_21, l_30, l_31, l_32, l_36, l_40, l_41, l_42, l_43, l_44, l_45, l_46, l_47, l_48, l_49, l_50, l_51, l_52, l_57, l_58, l_60, l_64, l_72, l_80, l_92, l_98, l_99, l_100, l_102, l_105, l_111, l_112, l_114, l_115, l_116, l_117, l_120, l_144, l_200, l_201, l_240, l_300, l_320, l_400, l_500, l_550, l_560, l_649, l_650, l_1000, l_1400, l_2000, l_4000, l_10000, iN_add, iN_sub, iN_mul, iN_le_t, iN_le_f, iN_lt_t, iN_lt_f, iN_eq_f, inb_iN, ix_iN, isZ_0, isZ_1, ↓reduceIte, eq_self, np_ok hk hp r2' t2', le_00, nx_new hk e50, hLay (sI B 0 16 y) (WM (sI B 0 16 y)) e50, hH]
/-- how many, and the least -/
def thF (f : Nat → Int32) : Nat → Int32 × Int32
  | 0 => (iN 0, -iN 9)
  | k + 1 => if f (3 + k) = iN 0 then thF f k else ((thF f k).1 + iN 1, if (thF f k).2 = -iN 9 then iN (3 + k) else (thF f k).2)
def thA (f : Nat → Int32) (j : Nat) : Int32 × Int32 := thF f (j - 3)
theorem thA_s {f : Nat → Int32} {j : Nat} (h : 3 ≤ j) : thA f (j + 1) = if f j = iN 0 then thA f j else ((thA f j).1 + iN 1, if (thA f j).2 = -iN 9 then iN j else (thA f j).2) := by
  unfold thA
  rw [show j + 1 - 3 = j - 3 + 1 by omega]
  show (if f (3 + (j - 3)) = iN 0 then thF f (j - 3) else ((thF f (j - 3)).1 + iN 1, if (thF f (j - 3)).2 = -iN 9 then iN (3 + (j - 3)) else (thF f (j - 3)).2)) = _
  rw [show 3 + (j - 3) = j by omega]
theorem N_m9 {b : Nat} (h : b ≤ 100000) : (iN b = -iN 9) = False := eq_false (fun e => by
  have := congrArg Int32.toInt e
  rw [li (by omega), show (-iN 9).toInt = -9 from by decide] at this
  omega)
theorem thF_b {f : Nat → Int32} (k : Nat) (hk : k ≤ 1000) : ∃ c, c ≤ k ∧ (thF f k).1 = iN c ∧ ((c = 0 ∧ (thF f k).2 = -iN 9) ∨ (1 ≤ c ∧ ∃ b, b ≤ 3 + k ∧ (thF f k).2 = iN b)) := by
  induction k with
  | zero => exact ⟨0, by omega, rfl, Or.inl ⟨rfl, rfl⟩⟩
  | succ k ih =>
    obtain ⟨c, h1, h2, h3⟩ := ih (by omega)
    unfold thF
    split
    · refine ⟨c, by omega, h2, ?_⟩
      rcases h3 with h3 | ⟨h3, b, h4, h5⟩
      · exact Or.inl h3
      · exact Or.inr ⟨h3, b, by omega, h5⟩
    · refine ⟨c + 1, by omega, by show (thF f k).1 + iN 1 = _; rw [h2, iN_add], Or.inr ⟨by omega, ?_⟩⟩
      rcases h3 with ⟨h3, h4⟩ | ⟨h3, b, h4, h5⟩
      · exact ⟨3 + k, by omega, if_pos h4⟩
      · refine ⟨b, by omega, ?_⟩
        show (if (thF f k).2 = -iN 9 then iN (3 + k) else (thF f k).2) = iN b
        rw [if_neg (by rw [h5]; exact of_eq_false (N_m9 (by omega))), h5]
theorem op_thick (a1 a2 a3 a4 : Int32) {G : G_} (h : RR G) : pOK (f_X7_thick a1 a2 a3 a4) (f_X8_thick a1 a2 a3 a4) G := by
  rcases slab_cases a1 G with ⟨e1, c1⟩ | ⟨k, hk, rfl, e1, c1, ho⟩
  · refine pOK_same (x := -iN 1) h ?_ ?_
    · rcases plan_cases a2 G with ⟨e2, c2⟩ | ⟨p, hp, rfl, e2, c2, ho2⟩ <;> (unfold f_X7_thick; rw [c1, bj1_s, c2, bj1_s]; rfl)
    · rcases span_N a3 a4 with ⟨_, w8⟩ | ⟨_, w8, -⟩ <;> (unfold f_X8_thick; simp (disch := omega) only [chk_t, beq_self_eq_true, nm_s, bj1_s, bj2_s, bj3_s, mo_1, mo_0, l_0, l_1, l_2, l_3, l_4, l_5, l_6, l_7, l_8, l_9, l_10, l_11, l_12, l_13, l_14, l_15, l_16, l_17, l_18, l_19, l_20, l_21, l_30, l_31, l_32, l_36, l_40, l_41, l_42, l_43, l_44, l_45, l_46, l_47, l_48, l_49, l_50, l_51, l_52, l_57, l_58, l_60, l_64, l_72, l_80, l_92, l_98, l_99, l_100, l_102, l_105, l_111, l_112, l_114, l_115, l_116, l_117, l_120, l_144, l_200, l_201, l_240, l_300, l_320, l_400, l_500, l_550, l_560, l_649, l_650, l_1000, l_1400, l_2000, l_4000, l_10000, iN_add, iN_sub, iN_mul, iN_le_t, iN_le_f, iN_lt_t, iN_lt_f, iN_eq_f, inb_iN, ix_iN, isZ_0, isZ_1, ↓reduceIte, eq_self, w8, np_bad2 (Or.inl e1), le_m1])
  · rcases plan_cases a2 G with ⟨e2, c2⟩ | ⟨p, hp, rfl, e2, c2, ho2⟩
    · refine pOK_same (x := -iN 1) h (by unfold f_X7_thick; simp (disch := omega) only [chk_t, beq_self_eq_true, nm_s, bj1_s, bj2_s, bj3_s, mo_1, mo_0, l_0, l_1, l_2, l_3, l_4, l_5, l_6, l_7, l_8, l_9, l_10, l_11, l_12, l_13, l_14, l_15, l_16, l_17, l_18, l_19, l_20, l_21, l_30, l_31, l_32, l_36, l_40, l_41, l_42, l_43, l_44, l_45, l_46, l_47, l_48, l_49, l_50, l_51, l_52, l_57, l_58, l_60, l_64, l_72, l_80, l_92, l_98, l_99, l_100, l_102, l_105, l_111, l_112, l_114, l_115, l_116, l_117, l_120, l_144, l_200, l_201, l_240, l_300, l_320, l_400, l_500, l_550, l_560, l_649, l_650, l_1000, l_1400, l_2000, l_4000, l_10000, iN_add, iN_sub, iN_mul, iN_le_t, iN_le_f, iN_lt_t, iN_lt_f, iN_eq_f, inb_iN, ix_iN, isZ_0, isZ_1, ↓reduceIte, eq_self, c1, c2, kd_b ho]) ?_
      rcases span_N a3 a4 with ⟨_, w8⟩ | ⟨_, w8, -⟩ <;> (unfold f_X8_thick; simp (disch := omega) only [chk_t, beq_self_eq_true, nm_s, bj1_s, bj2_s, bj3_s, mo_1, mo_0, l_0, l_1, l_2, l_3, l_4, l_5, l_6, l_7, l_8, l_9, l_10, l_11, l_12, l_13, l_14, l_15, l_16, l_17, l_18, l_19, l_20, l_21, l_30, l_31, l_32, l_36, l_40, l_41, l_42, l_43, l_44, l_45, l_46, l_47, l_48, l_49, l_50, l_51, l_52, l_57, l_58, l_60, l_64, l_72, l_80, l_92, l_98, l_99, l_100, l_102, l_105, l_111, l_112, l_114, l_115, l_116, l_117, l_120, l_144, l_200, l_201, l_240, l_300, l_320, l_400, l_500, l_550, l_560, l_649, l_650, l_1000, l_1400, l_2000, l_4000, l_10000, iN_add, iN_sub, iN_mul, iN_le_t, iN_le_f, iN_lt_t, iN_lt_f, iN_eq_f, inb_iN, ix_iN, isZ_0, isZ_1, ↓reduceIte, eq_self, w8, np_bad2 (Or.inr e2), le_m1])
    · rcases span_N a3 a4 with ⟨w7, w8⟩ | ⟨w7, w8, -⟩
      · refine pOK_same (x := -iN 1) h ?_ ?_
        · unfold f_X7_thick
          simp (disch := omega) only [chk_t, beq_self_eq_true, nm_s, bj1_s, bj2_s, bj3_s, mo_1, mo_0, l_0, l_1, l_2, l_3, l_4, l_5, l_6, l_7, l_8, l_9, l_10, l_11, l_12, l_13, l_14, l_15, l_16, l_17, l_18, l_19, l_20, l_21, l_30, l_31, l_32, l_36, l_40, l_41, l_42, l_43, l_44, l_45, l_46, l_47, l_48, l_49, l_50, l_51, l_52, l_57, l_58, l_60, l_64, l_72, l_80, l_92, l_98, l_99, l_100, l_102, l_105, l_111, l_112, l_114, l_115, l_116, l_117, l_120, l_144, l_200, l_201, l_240, l_300, l_320, l_400, l_500, l_550, l_560, l_649, l_650, l_1000, l_1400, l_2000, l_4000, l_10000, iN_add, iN_sub, iN_mul, iN_le_t, iN_le_f, iN_lt_t, iN_lt_f, iN_eq_f, inb_iN, ix_iN, isZ_0, isZ_1, ↓reduceIte, eq_self, c1, c2, kd_b ho, kd_b ho2, w7]
        · unfold f_X8_thick
          simp (disch := omega) only [chk_t, beq_self_eq_true, nm_s, bj1_s, bj2_s, bj3_s, mo_1, mo_0, l_0, l_1, l_2, l_3, l_4, l_5, l_6, l_7, l_8, l_9, l_10, l_11, l_12, l_13, l_14, l_15, l_16, l_17, l_18, l_19, l_20, l_21, l_30, l_31, l_32, l_36, l_40, l_41, l_42, l_43, l_44, l_45, l_46, l_47, l_48, l_49, l_50, l_51, l_52, l_57, l_58, l_60, l_64, l_72, l_80, l_92, l_98, l_99, l_100, l_102, l_105, l_111, l_112, l_114, l_115, l_116, l_117, l_120, l_144, l_200, l_201, l_240, l_300, l_320, l_400, l_500, l_550, l_560, l_649, l_650, l_1000, l_1400, l_2000, l_4000, l_10000, iN_add, iN_sub, iN_mul, iN_le_t, iN_le_f, iN_lt_t, iN_lt_f, iN_eq_f, inb_iN, ix_iN, isZ_0, isZ_1, ↓reduceIte, eq_self, w8, np_bad1, le_m1]
      · obtain ⟨r1, r2, r3⟩ := h.1.2.2.1 k hk
        obtain ⟨t1, t2, t3⟩ := h.1.2.2.2.1 p hp
        rcases r2 with r2 | ⟨r2, n, hsl⟩
        · refine pOK_found (f := 1) (by omega) h ?_ ?_
          · unfold f_X7_thick
            simp (disch := omega) only [chk_t, beq_self_eq_true, nm_s, bj1_s, bj2_s, bj3_s, mo_1, mo_0, l_0, l_1, l_2, l_3, l_4, l_5, l_6, l_7, l_8, l_9, l_10, l_11, l_12, l_13, l_14, l_15, l_16, l_17, l_18, l_19, l_20, l_21, l_30, l_31, l_32, l_36, l_40, l_41, l_42, l_43, l_44, l_45, l_46, l_47, l_48, l_49, l_50, l_51, l_52, l_57, l_58, l_60, l_64, l_72, l_80, l_92, l_98, l_99, l_100, l_102, l_105, l_111, l_112, l_114, l_115, l_116, l_117, l_120, l_144, l_200, l_201, l_240, l_300, l_320, l_400, l_500, l_550, l_560, l_649, l_650, l_1000, l_1400, l_2000, l_4000, l_10000, iN_add, iN_sub, iN_mul, iN_le_t, iN_le_f, iN_lt_t, iN_lt_f, iN_eq_f, inb_iN, ix_iN, isZ_0, isZ_1, ↓reduceIte, eq_self, c1, c2, kd_b ho, kd_b ho2, w7, r1, r2, found_ok]
          · unfold f_X8_thick
            simp (disch := omega) only [chk_t, beq_self_eq_true, nm_s, bj1_s, bj2_s, bj3_s, mo_1, mo_0, l_0, l_1, l_2, l_3, l_4, l_5, l_6, l_7, l_8, l_9, l_10, l_11, l_12, l_13, l_14, l_15, l_16, l_17, l_18, l_19, l_20, l_21, l_30, l_31, l_32, l_36, l_40, l_41, l_42, l_43, l_44, l_45, l_46, l_47, l_48, l_49, l_50, l_51, l_52, l_57, l_58, l_60, l_64, l_72, l_80, l_92, l_98, l_99, l_100, l_102, l_105, l_111, l_112, l_114, l_115, l_116, l_117, l_120, l_144, l_200, l_201, l_240, l_300, l_320, l_400, l_500, l_550, l_560, l_649, l_650, l_1000, l_1400, l_2000, l_4000, l_10000, iN_add, iN_sub, iN_mul, iN_le_t, iN_le_f, iN_lt_t, iN_lt_f, iN_eq_f, inb_iN, ix_iN, isZ_0, isZ_1, ↓reduceIte, eq_self, w8, np_miss (k := k) (p := p) hk hp (Or.inl (show (fndC 1 G).1 131 k = iN 0 by rw [fndC_o (by omega) (by omega)]; exact r2)), le_m3]
        · rcases t2 with t2 | ⟨t2, mm, hpl⟩
          · refine pOK_found (f := 1) (by omega) h ?_ ?_
            · unfold f_X7_thick
              simp (disch := omega) only [chk_t, beq_self_eq_true, nm_s, bj1_s, bj2_s, bj3_s, mo_1, mo_0, l_0, l_1, l_2, l_3, l_4, l_5, l_6, l_7, l_8, l_9, l_10, l_11, l_12, l_13, l_14, l_15, l_16, l_17, l_18, l_19, l_20, l_21, l_30, l_31, l_32, l_36, l_40, l_41, l_42, l_43, l_44, l_45, l_46, l_47, l_48, l_49, l_50, l_51, l_52, l_57, l_58, l_60, l_64, l_72, l_80, l_92, l_98, l_99, l_100, l_102, l_105, l_111, l_112, l_114, l_115, l_116, l_117, l_120, l_144, l_200, l_201, l_240, l_300, l_320, l_400, l_500, l_550, l_560, l_649, l_650, l_1000, l_1400, l_2000, l_4000, l_10000, iN_add, iN_sub, iN_mul, iN_le_t, iN_le_f, iN_lt_t, iN_lt_f, iN_eq_f, inb_iN, ix_iN, isZ_0, isZ_1, ↓reduceIte, eq_self, c1, c2, kd_b ho, kd_b ho2, w7, r1, r2, t1, t2, found_ok]
            · unfold f_X8_thick
              simp (disch := omega) only [chk_t, beq_self_eq_true, nm_s, bj1_s, bj2_s, bj3_s, mo_1, mo_0, l_0, l_1, l_2, l_3, l_4, l_5, l_6, l_7, l_8, l_9, l_10, l_11, l_12, l_13, l_14, l_15, l_16, l_17, l_18, l_19, l_20, l_21, l_30, l_31, l_32, l_36, l_40, l_41, l_42, l_43, l_44, l_45, l_46, l_47, l_48, l_49, l_50, l_51, l_52, l_57, l_58, l_60, l_64, l_72, l_80, l_92, l_98, l_99, l_100, l_102, l_105, l_111, l_112, l_114, l_115, l_116, l_117, l_120, l_144, l_200, l_201, l_240, l_300, l_320, l_400, l_500, l_550, l_560, l_649, l_650, l_1000, l_1400, l_2000, l_4000, l_10000, iN_add, iN_sub, iN_mul, iN_le_t, iN_le_f, iN_lt_t, iN_lt_f, iN_eq_f, inb_iN, ix_iN, isZ_0, isZ_1, ↓reduceIte, eq_self, w8, np_miss (k := k) (p := p) hk hp (Or.inr ⟨show (fndC 1 G).1 131 k = iN 1 by rw [fndC_o (by omega) (by omega)]; exact r2, show (fndC 1 G).1 133 p = iN 0 by rw [fndC_o (by omega) (by omega)]; exact t2⟩), le_m3]
          · have hX := np_sl (p := p) hsl
            have hP := np_pl (k := k) hpl
            have hc := np_c (p := p) r3
            have hcp := np_cp (k := k) hpl (t3 t2)
            have hLay := fun A W => np_lay (p := p) (k := k) (G := G) (A := A) (W := W) hp
            generalize newP k p G = X at *
            have hs3 : G.1 (71 + k) 3 = X 2 := hc.2.2.1
            have hXs : ∀ s, 3 ≤ s → s ≤ 20 → slR (up X 0 (iN s)) s := fun s h1 h2 => ⟨⟨up_eq, h1, h2⟩, by rw [up_ne (by omega)]; exact hX.2⟩
            have hPs : ∀ s, plR (up X 0 (iN s)) mm := fun s => pl_keep hP (fun p h1 h2 => up_ne (by omega))
            have wm := fun s h1 h2 => wf_mk (hXs s h1 h2) (hPs s)
            obtain ⟨F, hF⟩ : ∃ F : Nat → Int32, F = fun j => inS a3 a4 (midM (mkS (up X 0 (iN j)))) := ⟨_, rfl⟩
            have hFt : ∀ j, inS a3 a4 (midM (mkS (up X 0 (iN j)))) = F j := fun j => by rw [hF]
            obtain ⟨B, hB, ccB⟩ := loop_p (fun f v s H => f_X7_thick_l67_18 a3 a4 (71 + k) (75 + 4 * p) f s.1 s.2 v H) (fun _ H => cc G H) (thA F) 3 21 (by
              intro f j H h3 h4 hI
              have q1 : H.1 (71 + k) = G.1 (71 + k) := cc_at hI (by omega)
              obtain ⟨A, hA, cA, fA⟩ := mkPl_ok (o := 17) (X := up X 0 (iN j)) (G := H) rfl ho (by omega) ho2 (by omega) (hXs j (by omega) (by omega)) (by rw [up_ne (by omega), q1]; exact hc.2.1) (by rw [up_ne (by omega), q1]; exact hc.2.2.2) (hPs j) (cPl_keep hP (fun p h1 h2 => up_ne (by omega)) (cPl_cc hcp (fun q h1 h2 => cc_at hI (by omega))))
              rw [up_ne (by omega)] at hA
              have lA := midM_ok (o := 17) rfl (wm j (by omega) (by omega)).1 cA
              have s3 : H.1 (71 + k) 3 = X 2 := by rw [q1]; exact hs3
              have iA : f_X7_within (midM (mkS (up X 0 (iN j)))) a3 a4 = some (F j) := by rw [in7, hFt]
              refine ⟨A, cc_tr hI (cc_fr fA (by omega) (by omega)), ?_⟩
              rw [thA_s (by omega)]
              generalize thA F j = s
              obtain ⟨x, y⟩ := s
              show f_X7_thick_l67_18 a3 a4 (71 + k) (75 + 4 * p) (f + 1) x y (iN j) H = _
              conv => lhs; unfold f_X7_thick_l67_18
              by_cases cq : F j = iN 0
              · rw [if_pos cq]
                rw [cq] at iA
                simp (disch := omega) only [chk_t, beq_self_eq_true, nm_s, bj1_s, bj2_s, bj3_s, mo_1, mo_0, l_0, l_1, l_2, l_3, l_4, l_5, l_6, l_7, l_8, l_9, l_10, l_11, l_12, l_13, l_14, l_15, l_16, l_17, l_18, l_19, l_20, l_21, l_30, l_31, l_32, l_36, l_40, l_41, l_42, l_43, l_44, l_45, l_46, l_47, l_48, l_49, l_50, l_51, l_52, l_57, l_58, l_60, l_64, l_72, l_80, l_92, l_98, l_99, l_100, l_102, l_105, l_111, l_112, l_114, l_115, l_116, l_117, l_120, l_144, l_200, l_201, l_240, l_300, l_320, l_400, l_500, l_550, l_560, l_649, l_650, l_1000, l_1400, l_2000, l_4000, l_10000, iN_add, iN_sub, iN_mul, iN_le_t, iN_le_f, iN_lt_t, iN_lt_f, iN_eq_f, inb_iN, ix_iN, isZ_0, isZ_1, ↓reduceIte, eq_self, s3, hA, lA, iA]
              · rw [if_neg cq]
                have cq := eq_false cq
                simp (disch := omega) only [chk_t, beq_self_eq_true, nm_s, bj1_s, bj2_s, bj3_s, mo_1, mo_0, l_0, l_1, l_2, l_3, l_4, l_5, l_6, l_7, l_8, l_9, l_10, l_11, l_12, l_13, l_14, l_15, l_16, l_17, l_18, l_19, l_20, l_21, l_30, l_31, l_32, l_36, l_40, l_41, l_42, l_43, l_44, l_45, l_46, l_47, l_48, l_49, l_50, l_51, l_52, l_57, l_58, l_60, l_64, l_72, l_80, l_92, l_98, l_99, l_100, l_102, l_105, l_111, l_112, l_114, l_115, l_116, l_117, l_120, l_144, l_200, l_201, l_240, l_300, l_320, l_400, l_500, l_550, l_560, l_649, l_650, l_1000, l_1400, l_2000, l_4000, l_10000, iN_add, iN_sub, iN_mul, iN_le_t, iN_le_f, iN_lt_t, iN_lt_f, iN_eq_f, inb_iN, ix_iN, isZ_0, isZ_1, ↓reduceIte, eq_self, s3, hA, lA, iA, cq, ite_so]) (by
              intro f x y H
              show f_X7_thick_l67_18 a3 a4 (71 + k) (75 + 4 * p) (f + 1) x y (iN 21) H = _
              unfold f_X7_thick_l67_18
              simp (disch := omega) only [chk_t, beq_self_eq_true, nm_s, bj1_s, bj2_s, bj3_s, mo_1, mo_0, l_0, l_1, l_2, l_3, l_4, l_5, l_6, l_7, l_8, l_9, l_10, l_11, l_12, l_13, l_14, l_15, l_16, l_17, l_18, l_19, l_20, l_21, l_30, l_31, l_32, l_36, l_40, l_41, l_42, l_43, l_44, l_45, l_46, l_47, l_48, l_49, l_50, l_51, l_52, l_57, l_58, l_60, l_64, l_72, l_80, l_92, l_98, l_99, l_100, l_102, l_105, l_111, l_112, l_114, l_115, l_116, l_117, l_120, l_144, l_200, l_201, l_240, l_300, l_320, l_400, l_500, l_550, l_560, l_649, l_650, l_1000, l_1400, l_2000, l_4000, l_10000, iN_add, iN_sub, iN_mul, iN_le_t, iN_le_f, iN_lt_t, iN_lt_f, iN_eq_f, inb_iN, ix_iN, isZ_0, isZ_1, ↓reduceIte, eq_self]) (by omega) (n := FU) (fu_lt (by omega)) (G := G) cc_refl
            have e0 : thA F 3 = (iN 0, -iN 9) := rfl
            rw [e0] at hB
            have hB : f_X7_thick_l67_18 a3 a4 (71 + k) (75 + 4 * p) FU (iN 0) (-iN 9) (iN 3) G = some ((thA F 21).1, (thA F 21).2, B) := hB
            have hbM := fun y => bM_LG (m := 4) (G := sI B 0 16 y) (by omega)
            have hM := fun y W => loop_p (fun f v s H => f_X8_thick_l42_14 a3 a4 f s.1 s.2 v H) (fun _ H => ∃ D' W', H = stM 4 D' W' (LG 4 (sI B 0 16 y)) ∧ ∀ p, p < 41 ∨ 112 ≤ p → p ≠ 0 → D' p = X p) (thA F) 3 21 (by
              intro f j H h3 h4 ⟨D', W', eH, hD⟩
              subst eH
              have eU := up2_eq (x := iN j) hD
              have hs' : slR (up D' 0 (iN j)) j := ⟨okN_keep (hXs j (by omega) (by omega)).1 (eU 0 (by omega)), by rw [eU 1 (by omega)]; exact (hXs j (by omega) (by omega)).2⟩
              have hp' : plR (up D' 0 (iN j)) mm := pl_keep (hPs j) (fun p h1 h2 => eU p (by omega))
              obtain ⟨W2, m1⟩ := mmk_ok (D := up D' 0 (iN j)) (W := W') (hbM y) hs' hp'
              rw [mk_eq eU (by rw [mD_N (hPs j).1 (hPs j).2.1]; exact (hPs j).2.1)] at m1
              have wj := (wm j (by omega) (by omega)).1
              have m2 := mmid_ok (D := mkS (up X 0 (iN j))) (W := W2) (hbM y) wj
              have m3 := midMv (D := mkS (up X 0 (iN j))) (W := W2) (hbM y) wj
              have iA : f_X8_in (midM (mkS (up X 0 (iN j)))) a3 a4 = some (F j) := by rw [in8, hFt]
              refine ⟨_, ⟨mkS (up X 0 (iN j)), W2, rfl, fun p h1 h2 => by rw [mk_lo (hXs j (by omega) (by omega)) (hPs j) h1, up_ne h2]⟩, ?_⟩
              rw [thA_s (by omega)]
              obtain ⟨c, hc1, hc2, hc3⟩ := thF_b (f := F) (j - 3) (by omega)
              have hc2 : (thA F j).1 = iN c := hc2
              have hc3 : (c = 0 ∧ (thA F j).2 = -iN 9) ∨ (1 ≤ c ∧ ∃ b, b ≤ 3 + (j - 3) ∧ (thA F j).2 = iN b) := hc3
              generalize thA F j = s at *
              obtain ⟨x, z⟩ := s
              have hc2 : x = iN c := hc2
              subst hc2
              show f_X8_thick_l42_14 a3 a4 (f + 1) (iN c) z (iN j) _ = _
              conv => lhs; unfold f_X8_thick_l42_14
              by_cases cq : F j = iN 0
              · rw [if_pos cq]
                rw [cq] at iA
                simp (disch := omega) only [chk_t, beq_self_eq_true, nm_s, bj1_s, bj2_s, bj3_s, mo_1, mo_0, l_0, l_1, l_2, l_3, l_4, l_5, l_6, l_7, l_8, l_9, l_10, l_11, l_12, l_13, l_14, l_15, l_16, l_17, l_18, l_19, l_20, l_21, l_30, l_31, l_32, l_36, l_40, l_41, l_42, l_43, l_44, l_45, l_46, l_47, l_48, l_49, l_50, l_51, l_52, l_57, l_58, l_60, l_64, l_72, l_80, l_92, l_98, l_99, l_100, l_102, l_105, l_111, l_112, l_114, l_115, l_116, l_117, l_120, l_144, l_200, l_201, l_240, l_300, l_320, l_400, l_500, l_550, l_560, l_649, l_650, l_1000, l_1400, l_2000, l_4000, l_10000, iN_add, iN_sub, iN_mul, iN_le_t, iN_le_f, iN_lt_t, iN_lt_f, iN_eq_f, inb_iN, ix_iN, isZ_0, isZ_1, ↓reduceIte, eq_self, put_ok (hbM y), m1, m2, m3, iA]
              · rw [if_neg cq]
                have cq := eq_false cq
                rcases hc3 with ⟨hc3, hc4⟩ | ⟨hc3, b, hc4, hc5⟩
                · have hc4 : z = -iN 9 := hc4
                  subst hc3 hc4
                  simp (disch := omega) only [chk_t, beq_self_eq_true, nm_s, bj1_s, bj2_s, bj3_s, mo_1, mo_0, l_0, l_1, l_2, l_3, l_4, l_5, l_6, l_7, l_8, l_9, l_10, l_11, l_12, l_13, l_14, l_15, l_16, l_17, l_18, l_19, l_20, l_21, l_30, l_31, l_32, l_36, l_40, l_41, l_42, l_43, l_44, l_45, l_46, l_47, l_48, l_49, l_50, l_51, l_52, l_57, l_58, l_60, l_64, l_72, l_80, l_92, l_98, l_99, l_100, l_102, l_105, l_111, l_112, l_114, l_115, l_116, l_117, l_120, l_144, l_200, l_201, l_240, l_300, l_320, l_400, l_500, l_550, l_560, l_649, l_650, l_1000, l_1400, l_2000, l_4000, l_10000, iN_add, iN_sub, iN_mul, iN_le_t, iN_le_f, iN_lt_t, iN_lt_f, iN_eq_f, inb_iN, ix_iN, isZ_0, isZ_1, ↓reduceIte, eq_self, put_ok (hbM y), m1, m2, m3, iA, cq]
                · have hc5 : z = iN b := hc5
                  subst hc5
                  simp (disch := omega) only [chk_t, beq_self_eq_true, nm_s, bj1_s, bj2_s, bj3_s, mo_1, mo_0, l_0, l_1, l_2, l_3, l_4, l_5, l_6, l_7, l_8, l_9, l_10, l_11, l_12, l_13, l_14, l_15, l_16, l_17, l_18, l_19, l_20, l_21, l_30, l_31, l_32, l_36, l_40, l_41, l_42, l_43, l_44, l_45, l_46, l_47, l_48, l_49, l_50, l_51, l_52, l_57, l_58, l_60, l_64, l_72, l_80, l_92, l_98, l_99, l_100, l_102, l_105, l_111, l_112, l_114, l_115, l_116, l_117, l_120, l_144, l_200, l_201, l_240, l_300, l_320, l_400, l_500, l_550, l_560, l_649, l_650, l_1000, l_1400, l_2000, l_4000, l_10000, iN_add, iN_sub, iN_mul, iN_le_t, iN_le_f, iN_lt_t, iN_lt_f, iN_eq_f, inb_iN, ix_iN, isZ_0, isZ_1, ↓reduceIte, eq_self, put_ok (hbM y), m1, m2, m3, iA, cq, N_m9]) (by
              intro f x z H
              show f_X8_thick_l42_14 a3 a4 (f + 1) x z (iN 21) H = _
              unfold f_X8_thick_l42_14
              simp (disch := omega) only [chk_t, beq_self_eq_true, nm_s, bj1_s, bj2_s, bj3_s, mo_1, mo_0, l_0, l_1, l_2, l_3, l_4, l_5, l_6, l_7, l_8, l_9, l_10, l_11, l_12, l_13, l_14, l_15, l_16, l_17, l_18, l_19, l_20, l_21, l_30, l_31, l_32, l_36, l_40, l_41, l_42, l_43, l_44, l_45, l_46, l_47, l_48, l_49, l_50, l_51, l_52, l_57, l_58, l_60, l_64, l_72, l_80, l_92, l_98, l_99, l_100, l_102, l_105, l_111, l_112, l_114, l_115, l_116, l_117, l_120, l_144, l_200, l_201, l_240, l_300, l_320, l_400, l_500, l_550, l_560, l_649, l_650, l_1000, l_1400, l_2000, l_4000, l_10000, iN_add, iN_sub, iN_mul, iN_le_t, iN_le_f, iN_lt_t, iN_lt_f, iN_eq_f, inb_iN, ix_iN, isZ_0, isZ_1, ↓reduceIte, eq_self]) (by omega) (n := FU) (fu_lt (by omega)) (G := stM 4 X W (LG 4 (sI B 0 16 y))) ⟨X, W, rfl, fun _ _ _ => rfl⟩
            rw [e0] at hM
            generalize thA F 21 = s at *
            obtain ⟨x, y⟩ := s
            have e50 := cc_50 (y := y) ccB
            obtain ⟨H, hH, D', W', eH, -⟩ := hM y (WM (sI B 0 16 y))
            have hH : f_X8_thick_l42_14 a3 a4 FU (iN 0) (-iN 9) (iN 3) (stM 4 X (WM (sI B 0 16 y)) (LG 4 (sI B 0 16 y))) = some (x, y, H) := hH
            subst eH
            refine pOK_tell (x := x) (y := y) (G1 := B) (H := stM 4 D' W' (LG 4 (sI B 0 16 y))) h ?_ ccB ?_ (mf_st mf_LG)
            · unfold f_X7_thick f_X7_told
              simp (disch := omega) only [chk_t, beq_self_eq_true, nm_s, bj1_s, bj2_s, bj3_s, mo_1, mo_0, l_0, l_1, l_2, l_3, l_4, l_5, l_6, l_7, l_8, l_9, l_10, l_11, l_12, l_13, l_14, l_15, l_16, l_17, l_18, l_19, l_20, l_21, l_30, l_31, l_32, l_36, l_40, l_41, l_42, l_43, l_44, l_45, l_46, l_47, l_48, l_49, l_50, l_51, l_52, l_57, l_58, l_60, l_64, l_72, l_80, l_92, l_98, l_99, l_100, l_102, l_105, l_111, l_112, l_114, l_115, l_116, l_117, l_120, l_144, l_200, l_201, l_240, l_300, l_320, l_400, l_500, l_550, l_560, l_649, l_650, l_1000, l_1400, l_2000, l_4000, l_10000, iN_add, iN_sub, iN_mul, iN_le_t, iN_le_f, iN_lt_t, iN_lt_f, iN_eq_f, inb_iN, ix_iN, isZ_0, isZ_1, ↓reduceIte, eq_self, c1, c2, kd_b ho, kd_b ho2, w7, r1, r2, t1, t2, hB]
            · have r2' : (sI B 0 16 y).1 131 k = iN 1 := by rw [e50 131 (by omega)]; exact r2
              have t2' : (sI B 0 16 y).1 133 p = iN 1 := by rw [e50 133 (by omega)]; exact t2
              unfold f_X8_thick f_X8_tells
              simp (disch := omega) only [chk_t, beq_self_eq_true, nm_s, bj1_s, bj2_s, bj3_s, mo_1, mo_0, l_0, l_1, l_2, l_3, l_4, l_5, l_6, l_7, l_8, l_9, l_10, l_11, l_12, l_13, l_14, l_15, l_16, l_17, l_18, l_19, l_20, l_21, l_30, l_31, l_32, l_36, l_40, l_41, l_42, l_43, l_44, l_45, l_46, l_47, l_48, l_49, l_50, l_51, l_52, l_57, l_58, l_60, l_64, l_72, l_80, l_92, l_98, l_99, l_100, l_102, l_105, l_111, l_112, l_114, l_115, l_116, l_117, l_120, l_144, l_200, l_201, l_240, l_300, l_320, l_400, l_500, l_550, l_560, l_649, l_650, l_1000, l_1400, l_2000, l_4000, l_10000, iN_add, iN_sub, iN_mul, iN_le_t, iN_le_f, iN_lt_t, iN_lt_f, iN_eq_f, inb_iN, ix_iN, isZ_0, isZ_1, ↓reduceIte, eq_self, w8, np_ok hk hp r2' t2', le_00, nx_new hk e50, hLay (sI B 0 16 y) (WM (sI B 0 16 y)) e50, hH]

/-! from its own slice it is told -/
theorem once_hi {f p : Nat} {D : Nat → Int32} (h : 50 ≤ p) : onceS f D p = D p := once_p (by omega) (by omega) (by omega) (by omega)
theorem mk_hi {X : Nat → Int32} {T p : Nat} (e : tkS X = iN T) (hT : T ≤ 200) (h : 50 ≤ p) : mkS X p = goS (bgS X) T p := by
  unfold mkS
  rw [once_hi h, e, ix_iN (by omega)]
theorem colS_r (D : Nat → Int32) (i : Nat) : inS (iN 0) (iN 2) (colS D i) = iN 1 := by
  unfold colS
  split
  · split <;> decide
  · decide
theorem alS_col (D : Nat → Int32) (g : Nat → Int32) (n : Nat) (h : ∀ i, i < n → g i = colS D i) : alS g n = iN 1 := by
  induction n with
  | zero => rfl
  | succ n ih =>
    unfold alS
    rw [ih (fun i hi => h i (by omega)), if_neg (by decide), h n (by omega)]
    exact colS_r D n
def WH (n mm : Nat) (X : Nat → Int32) (G : G_) : Prop := (SL 0 n X G) ∧ (PL 0 mm X G) ∧ (∀ k, 1 ≤ k → k < 4 → G.1 (71 + k) 0 = iN 0) ∧ (∀ k, 1 ≤ k → k < 4 → G.1 (75 + 4 * k) 3 = iN 0) ∧ (G.1 51 1 = iN n) ∧ (∀ i, i < n → G.1 52 i = colS (mkS X) i)
theorem WH.sl {n mm : Nat} {X : Nat → Int32} {G : G_} (q_ : WH n mm X G) : SL 0 n X G := q_.1
theorem WH.pl {n mm : Nat} {X : Nat → Int32} {G : G_} (q_ : WH n mm X G) : PL 0 mm X G := q_.2.1
theorem WH.ns {n mm : Nat} {X : Nat → Int32} {G : G_} (q_ : WH n mm X G) : ∀ k, 1 ≤ k → k < 4 → G.1 (71 + k) 0 = iN 0 := q_.2.2.1
theorem WH.np {n mm : Nat} {X : Nat → Int32} {G : G_} (q_ : WH n mm X G) : ∀ k, 1 ≤ k → k < 4 → G.1 (75 + 4 * k) 3 = iN 0 := q_.2.2.2.1
theorem WH.r1 {n mm : Nat} {X : Nat → Int32} {G : G_} (q_ : WH n mm X G) : G.1 51 1 = iN n := q_.2.2.2.2.1
theorem WH.rv {n mm : Nat} {X : Nat → Int32} {G : G_} (q_ : WH n mm X G) : ∀ i, i < n → G.1 52 i = colS (mkS X) i := q_.2.2.2.2.2
theorem WH_fr {n mm : Nat} {X : Nat → Int32} {G A : G_} (h : WH n mm X G) (e : ∀ q, 51 ≤ q → q < 92 → A.1 q = G.1 q) : WH n mm X A := ⟨SL_fr h.sl (e _ (by omega) (by omega)), PL_fr h.pl (fun q h1 h2 => e q (by omega) (by omega)), fun k h1 h2 => by rw [e _ (by omega) (by omega)]; exact h.ns k h1 h2, fun k h1 h2 => by rw [e _ (by omega) (by omega)]; exact h.np k h1 h2, by rw [e _ (by omega) (by omega)]; exact h.r1, fun i hi => by rw [e _ (by omega) (by omega)]; exact h.rv i hi⟩
theorem sum_same {D : Nat → Int32} {n : Nat} : sumS (fun i => if colS D i = colS D i then iN 0 else iN 1) n = iN 0 := by
  induction n with
  | zero => rfl
  | succ k ihk =>
    show sumS _ k + (if colS D k = colS D k then iN 0 else iN 1) = iN 0
    rw [ihk, if_pos rfl]
    rfl
theorem least_c {n mm : Nat} {X : Nat → Int32} {G : G_} (h : WH n mm X G) : ∃ H, f_X7_leastUnlike 51 G = some (iN 0, H) ∧ H.1 48 0 = iN 0 ∧ (∀ i, 1 ≤ i → i < 16 → H.1 48 i = -iN 1) ∧ cc G H := by
  have hb := h.sl.2.2.1.2
  have k51 : kd 51 = 4 := rfl
  obtain ⟨s0, o5⟩ := slabAt_t (k := 0) (by omega) G
  obtain ⟨p0, o2⟩ := planAt_t (k := 0) (by omega) G
  have s0 : f_X7_slabAt (iN 0) G = some (some 71) := s0
  have p0 : f_X7_planAt (iN 0) G = some (some 75) := p0
  have o5 : kd 71 = 5 := o5
  have o2 : kd 75 = 2 := o2
  obtain ⟨G10, e10⟩ : ∃ G10, G10 = sI G 48 0 (-iN 1) := ⟨_, rfl⟩
  have f10 : ∀ q, q ≠ 48 → G10.1 q = G.1 q := fun q hq => by rw [e10, sI_p hq]
  have h10 : WH n mm X G10 := WH_fr h (fun q h1 h2 => f10 q (by omega))
  have q1 : G10.1 71 0 = iN 1 := h10.sl.1
  have t1 : G10.1 75 3 = iN 1 := h10.pl.1
  have x1 : G10.1 71 1 = iN n := h10.sl.2.1.1.trans h10.sl.2.2.1.1
  have x3 : G10.1 71 3 = X 2 := h10.sl.2.1.2.2.1
  have r1 := h10.r1
  obtain ⟨A, hA, cA, fA⟩ := mkPl_ok (o := 17) (a := 71) (b := 75) (G := G10) rfl o5 (by omega) o2 (by omega) h10.sl.2.2 h10.sl.2.1.2.1 h10.sl.2.1.2.2.2 h10.pl.2.2 h10.pl.2.1
  have wfm := wf_mk h10.sl.2.2 h10.pl.2.2
  have u := unl_ok (r := 0) (z := n) (n := n) (G := G) (A := A) (D := mkS X) (g := fun i => colS (mkS X) i) rfl (by omega) wfm.1 cA (by rw [fA.1.1 _ (by omega)]; exact h10.r1) (fun i hi => by rw [fA.1.1 _ (by omega)]; exact h10.rv i hi)
  rw [sum_same] at u
  have u : f_X0_unlikeRow 17 51 A = some (iN 0) := u
  obtain ⟨H1, eH1⟩ : ∃ H1, H1 = sI A 48 0 (iN 0) := ⟨_, rfl⟩
  have c1 : cc G H1 := by
    rw [eH1]
    refine cc_sI (cc_tr ?_ (cc_fr fA (by omega) (by omega))) (by omega) (by omega)
    rw [e10]
    exact cc_sI cc_refl (by omega) (by omega)
  have v1 : H1.1 48 0 = iN 0 := by rw [eH1, sI_eq]
  have n1 : (iN 0 ≤ -iN 1) = False := le_m1
  obtain ⟨⟨x, H⟩, hH, i0, i1, i2, i3⟩ := loop_h (fun n v (s : Int32 × G_) => f_X7_leastUnlike_l4_4 51 n s.1 v s.2) (fun j s => s.1 = iN 0 ∧ s.2.1 48 0 = iN 0 ∧ (∀ i, 1 ≤ i → i < j → s.2.1 48 i = -iN 1) ∧ cc G s.2) (fun r => r.1 = iN 0 ∧ r.2.1 48 0 = iN 0 ∧ (∀ i, 1 ≤ i → i < 16 → r.2.1 48 i = -iN 1) ∧ cc G r.2) 1 16 (by
    intro f j ⟨x, H⟩ h3 h4 ⟨g0, g1, g2, g3⟩
    have g0 : x = iN 0 := g0
    subst g0
    obtain ⟨a1, b1⟩ := slabAt_t (k := j / 4) (by omega) H
    obtain ⟨a2, b2⟩ := planAt_t (k := j - j / 4 * 4) (by omega) H
    refine ⟨(iN 0, sI H 48 j (-iN 1)), ⟨rfl, ?_, fun i q1 q2 => ?_, cc_sI g3 (by omega) (by omega)⟩, ?_⟩
    · show (sI H 48 j (-iN 1)).1 48 0 = _
      rw [sI_v, if_neg (by omega)]
      exact g1
    · show (sI H 48 j (-iN 1)).1 48 i = _
      rw [sI_v]
      by_cases c : i = j
      · rw [if_pos c]
      · rw [if_neg c]
        exact g2 i q1 (by omega)
    · show f_X7_leastUnlike_l4_4 51 (f + 1) (iN 0) (iN j) H = f_X7_leastUnlike_l4_4 51 f (iN 0) (iN (j + 1)) (sI H 48 j (-iN 1))
      have hd : iN j / iN 4 = iN (j / 4) := iN_div (by omega) (by omega) (by omega)
      conv => lhs; unfold f_X7_leastUnlike_l4_4
      by_cases c : j / 4 = 0
      · have p0 : H.1 (75 + 4 * (j - j / 4 * 4)) 3 = iN 0 := by rw [cc_at g3 (by omega)]; exact h.np _ (by omega) (by omega)
        have s1 : H.1 (71 + j / 4) 0 = iN 1 := by rw [cc_at g3 (by omega), c]; exact h.sl.1
        simp (maxSteps := 4000000) (disch := omega) only [chk_t, beq_self_eq_true, nm_s, bj1_s, bj2_s, bj3_s, mo_1, mo_0, l_0, l_1, l_2, l_3, l_4, l_5, l_6, l_7, l_8, l_9, l_10, l_11, l_12, l_13, l_14, l_15, l_16, l_17, l_18, l_19, l_20, l_21, l_24, l_30, l_31, l_32, l_36, l_40, l_41, l_42, l_43, l_44, l_45, l_46, l_47, l_48, l_49, l_50, l_51, l_52, l_57, l_58, l_60, l_61, l_64, l_72, l_80, l_92, l_98, l_99, l_100, l_102, l_105, l_111, l_112, l_114, l_115, l_116, l_117, l_120, l_144, l_200, l_201, l_240, l_300, l_320, l_400, l_500, l_512, l_550, l_560, l_649, l_650, l_1000, l_1032, l_1400, l_2000, l_4000, l_10000, l_268435455, iN_add, iN_sub, iN_mul, iN_le_t, iN_le_f, iN_lt_t, iN_lt_f, iN_eq_f, inb_iN, ix_iN, isZ_0, isZ_1, ↓reduceIte, eq_self, hd, a1, a2, kd_b b1, kd_b b2, sI_p, p0, s1]
      · have s0 : H.1 (71 + j / 4) 0 = iN 0 := by rw [cc_at g3 (by omega)]; exact h.ns _ (by omega) (by omega)
        simp (maxSteps := 4000000) (disch := omega) only [chk_t, beq_self_eq_true, nm_s, bj1_s, bj2_s, bj3_s, mo_1, mo_0, l_0, l_1, l_2, l_3, l_4, l_5, l_6, l_7, l_8, l_9, l_10, l_11, l_12, l_13, l_14, l_15, l_16, l_17, l_18, l_19, l_20, l_21, l_24, l_30, l_31, l_32, l_36, l_40, l_41, l_42, l_43, l_44, l_45, l_46, l_47, l_48, l_49, l_50, l_51, l_52, l_57, l_58, l_60, l_61, l_64, l_72, l_80, l_92, l_98, l_99, l_100, l_102, l_105, l_111, l_112, l_114, l_115, l_116, l_117, l_120, l_144, l_200, l_201, l_240, l_300, l_320, l_400, l_500, l_512, l_550, l_560, l_649, l_650, l_1000, l_1032, l_1400, l_2000, l_4000, l_10000, l_268435455, iN_add, iN_sub, iN_mul, iN_le_t, iN_le_f, iN_lt_t, iN_lt_f, iN_eq_f, inb_iN, ix_iN, isZ_0, isZ_1, ↓reduceIte, eq_self, hd, a1, a2, kd_b b1, kd_b b2, sI_p, s0]) (by
    intro f ⟨x, H⟩ ⟨g0, g1, g2, g3⟩
    refine ⟨(x, H), ?_, g0, g1, g2, g3⟩
    show f_X7_leastUnlike_l4_4 51 (f + 1) x (iN 16) H = _
    unfold f_X7_leastUnlike_l4_4
    simp (disch := omega) only [chk_t, beq_self_eq_true, nm_s, bj1_s, bj2_s, bj3_s, mo_1, mo_0, l_0, l_1, l_2, l_3, l_4, l_5, l_6, l_7, l_8, l_9, l_10, l_11, l_12, l_13, l_14, l_15, l_16, l_17, l_18, l_19, l_20, l_21, l_24, l_30, l_31, l_32, l_36, l_40, l_41, l_42, l_43, l_44, l_45, l_46, l_47, l_48, l_49, l_50, l_51, l_52, l_57, l_58, l_60, l_61, l_64, l_72, l_80, l_92, l_98, l_99, l_100, l_102, l_105, l_111, l_112, l_114, l_115, l_116, l_117, l_120, l_144, l_200, l_201, l_240, l_300, l_320, l_400, l_500, l_512, l_550, l_560, l_649, l_650, l_1000, l_1032, l_1400, l_2000, l_4000, l_10000, l_268435455, iN_add, iN_sub, iN_mul, iN_le_t, iN_le_f, iN_lt_t, iN_lt_f, iN_eq_f, inb_iN, ix_iN, isZ_0, isZ_1, ↓reduceIte, eq_self]) (by omega) (n := 999) (by omega) (s := (iN 0, H1)) ⟨rfl, v1, fun i q1 q2 => by omega, c1⟩
  have i0 : x = iN 0 := i0
  subst i0
  have hH : f_X7_leastUnlike_l4_4 51 999 (iN 0) (iN 1) H1 = some (iN 0, H) := hH
  refine ⟨H, ?_, i1, i2, i3⟩
  have first : f_X7_leastUnlike_l4_4 51 FU (-iN 1) (iN 0) G = some (iN 0, H) := by
    show f_X7_leastUnlike_l4_4 51 (999 + 1) (-iN 1) (iN 0) G = some (iN 0, H)
    unfold f_X7_leastUnlike_l4_4
    simp (maxSteps := 4000000) (disch := omega) only [chk_t, beq_self_eq_true, nm_s, bj1_s, bj2_s, bj3_s, mo_1, mo_0, l_0, l_1, l_2, l_3, l_4, l_5, l_6, l_7, l_8, l_9, l_10, l_11, l_12, l_13, l_14, l_15, l_16, l_17, l_18, l_19, l_20, l_21, l_24, l_30, l_31, l_32, l_36, l_40, l_41, l_42, l_43, l_44, l_45, l_46, l_47, l_48, l_49, l_50, l_51, l_52, l_57, l_58, l_60, l_61, l_64, l_72, l_80, l_92, l_98, l_99, l_100, l_102, l_105, l_111, l_112, l_114, l_115, l_116, l_117, l_120, l_144, l_200, l_201, l_240, l_300, l_320, l_400, l_500, l_512, l_550, l_560, l_649, l_650, l_1000, l_1032, l_1400, l_2000, l_4000, l_10000, l_268435455, iN_add, iN_sub, iN_mul, iN_le_t, iN_le_f, iN_lt_t, iN_lt_f, iN_eq_f, inb_iN, ix_iN, isZ_0, isZ_1, ↓reduceIte, eq_self, iN_div, s0, p0, ← e10, kd_b o5, kd_b o2, q1, t1, x1, x3, r1, hA, u, n1, sI_eq]
    rw [← eH1]
    exact hH
  unfold f_X7_leastUnlike
  simp (disch := omega) only [chk_t, beq_self_eq_true, nm_s, bj1_s, bj2_s, bj3_s, mo_1, mo_0, l_0, l_1, l_2, l_3, l_4, l_5, l_6, l_7, l_8, l_9, l_10, l_11, l_12, l_13, l_14, l_15, l_16, l_17, l_18, l_19, l_20, l_21, l_24, l_30, l_31, l_32, l_36, l_40, l_41, l_42, l_43, l_44, l_45, l_46, l_47, l_48, l_49, l_50, l_51, l_52, l_57, l_58, l_60, l_61, l_64, l_72, l_80, l_92, l_98, l_99, l_100, l_102, l_105, l_111, l_112, l_114, l_115, l_116, l_117, l_120, l_144, l_200, l_201, l_240, l_300, l_320, l_400, l_500, l_512, l_550, l_560, l_649, l_650, l_1000, l_1032, l_1400, l_2000, l_4000, l_10000, l_268435455, iN_add, iN_sub, iN_mul, iN_le_t, iN_le_f, iN_lt_t, iN_lt_f, iN_eq_f, inb_iN, ix_iN, isZ_0, isZ_1, ↓reduceIte, eq_self, kd_b k51, first]
theorem which_c {n mm : Nat} {X : Nat → Int32} {G : G_} (h : WH n mm X G) : ∃ H, f_X7_which (iN 0) G = some (iN 0, sI H 0 16 (iN 0)) ∧ cc G H := by
  have hb := h.sl.2.2.1.2
  obtain ⟨c1, ho⟩ := rowAt_t (k := 0) (by omega) G
  have c1 : f_X7_rowAt (iN 0) G = some (some 51) := c1
  have ho : kd 51 = 4 := ho
  have w := cwrong_ok (z := n) (g := colS (mkS X)) ho (by omega) h.r1 h.rv
  rw [inS_t (by omega) (by omega), if_neg (by decide), alS_col (mkS X) (colS (mkS X)) n (fun i hi => rfl), if_neg (by decide)] at w
  obtain ⟨H, hH, h0, h1, h2⟩ := least_c h
  have l : f_X7_which_l37_11 (iN 0) H FU (iN 0) = some (iN 0, sI H 0 16 (iN 0)) := by
    show f_X7_which_l37_11 (iN 0) H (999 + 1) (iN 0) = _
    unfold f_X7_which_l37_11 f_X7_told
    simp (disch := omega) only [chk_t, beq_self_eq_true, nm_s, bj1_s, bj2_s, bj3_s, mo_1, mo_0, l_0, l_1, l_2, l_3, l_4, l_5, l_6, l_7, l_8, l_9, l_10, l_11, l_12, l_13, l_14, l_15, l_16, l_17, l_18, l_19, l_20, l_21, l_24, l_30, l_31, l_32, l_36, l_40, l_41, l_42, l_43, l_44, l_45, l_46, l_47, l_48, l_49, l_50, l_51, l_52, l_57, l_58, l_60, l_61, l_64, l_72, l_80, l_92, l_98, l_99, l_100, l_102, l_105, l_111, l_112, l_114, l_115, l_116, l_117, l_120, l_144, l_200, l_201, l_240, l_300, l_320, l_400, l_500, l_512, l_550, l_560, l_649, l_650, l_1000, l_1032, l_1400, l_2000, l_4000, l_10000, l_268435455, iN_add, iN_sub, iN_mul, iN_le_t, iN_le_f, iN_lt_t, iN_lt_f, iN_eq_f, inb_iN, ix_iN, isZ_0, isZ_1, ↓reduceIte, eq_self, h0, iN_div]
  refine ⟨H, ?_, h2⟩
  unfold f_X7_which
  simp (disch := omega) only [chk_t, beq_self_eq_true, nm_s, bj1_s, bj2_s, bj3_s, mo_1, mo_0, l_0, l_1, l_2, l_3, l_4, l_5, l_6, l_7, l_8, l_9, l_10, l_11, l_12, l_13, l_14, l_15, l_16, l_17, l_18, l_19, l_20, l_21, l_24, l_30, l_31, l_32, l_36, l_40, l_41, l_42, l_43, l_44, l_45, l_46, l_47, l_48, l_49, l_50, l_51, l_52, l_57, l_58, l_60, l_61, l_64, l_72, l_80, l_92, l_98, l_99, l_100, l_102, l_105, l_111, l_112, l_114, l_115, l_116, l_117, l_120, l_144, l_200, l_201, l_240, l_300, l_320, l_400, l_500, l_512, l_550, l_560, l_649, l_650, l_1000, l_1032, l_1400, l_2000, l_4000, l_10000, l_268435455, iN_add, iN_sub, iN_mul, iN_le_t, iN_le_f, iN_lt_t, iN_lt_f, iN_eq_f, inb_iN, ix_iN, isZ_0, isZ_1, ↓reduceIte, eq_self, c1, kd_b ho, w, hH, l]
theorem odds_c {n mm : Nat} {X : Nat → Int32} {G : G_} (h : WH n mm X G) : ∃ H, f_X7_odds (iN 0) (iN 0) G = some (iN 1, sJ (sJ H 0 17 1) 0 18 1) ∧ cc G H := by
  have hb := h.sl.2.2.1.2
  obtain ⟨c1, ho⟩ := rowAt_t (k := 0) (by omega) G
  have c1 : f_X7_rowAt (iN 0) G = some (some 51) := c1
  have ho : kd 51 = 4 := ho
  have w := cwrong_ok (z := n) (g := colS (mkS X)) ho (by omega) h.r1 h.rv
  rw [inS_t (by omega) (by omega), if_neg (by decide), alS_col (mkS X) (colS (mkS X)) n (fun i hi => rfl), if_neg (by decide)] at w
  obtain ⟨H, hH, h0, h1, h2⟩ := least_c h
  have l2 : f_X7_odds_l66_15 (iN 0) (iN 0) H 999 (iN 1) (iN 1) (iN 1) = some (iN 1, iN 1) := by
    obtain ⟨r, hr, er⟩ := loop_h (fun n v (s : Int32 × Int32) => f_X7_odds_l66_15 (iN 0) (iN 0) H n s.1 s.2 v) (fun j s => s = (iN 1, iN 1)) (fun r => r = (iN 1, iN 1)) 1 16 (by
      intro f j s h3 h4 e
      subst e
      refine ⟨(iN 1, iN 1), rfl, ?_⟩
      have a := h1 j h3 h4
      have b : ((-iN 1 : Int32) = iN 0) = False := eq_false (by decide)
      show f_X7_odds_l66_15 (iN 0) (iN 0) H (f + 1) (iN 1) (iN 1) (iN j) = f_X7_odds_l66_15 (iN 0) (iN 0) H f (iN 1) (iN 1) (iN (j + 1))
      conv => lhs; unfold f_X7_odds_l66_15
      simp (disch := omega) only [chk_t, beq_self_eq_true, nm_s, bj1_s, bj2_s, bj3_s, mo_1, mo_0, l_0, l_1, l_2, l_3, l_4, l_5, l_6, l_7, l_8, l_9, l_10, l_11, l_12, l_13, l_14, l_15, l_16, l_17, l_18, l_19, l_20, l_21, l_24, l_30, l_31, l_32, l_36, l_40, l_41, l_42, l_43, l_44, l_45, l_46, l_47, l_48, l_49, l_50, l_51, l_52, l_57, l_58, l_60, l_61, l_64, l_72, l_80, l_92, l_98, l_99, l_100, l_102, l_105, l_111, l_112, l_114, l_115, l_116, l_117, l_120, l_144, l_200, l_201, l_240, l_300, l_320, l_400, l_500, l_512, l_550, l_560, l_649, l_650, l_1000, l_1032, l_1400, l_2000, l_4000, l_10000, l_268435455, iN_add, iN_sub, iN_mul, iN_le_t, iN_le_f, iN_lt_t, iN_lt_f, iN_eq_f, inb_iN, ix_iN, isZ_0, isZ_1, ↓reduceIte, eq_self, a, b]) (by
      intro f s e
      subst e
      refine ⟨(iN 1, iN 1), ?_, rfl⟩
      show f_X7_odds_l66_15 (iN 0) (iN 0) H (f + 1) (iN 1) (iN 1) (iN 16) = _
      unfold f_X7_odds_l66_15
      simp (disch := omega) only [chk_t, beq_self_eq_true, nm_s, bj1_s, bj2_s, bj3_s, mo_1, mo_0, l_0, l_1, l_2, l_3, l_4, l_5, l_6, l_7, l_8, l_9, l_10, l_11, l_12, l_13, l_14, l_15, l_16, l_17, l_18, l_19, l_20, l_21, l_24, l_30, l_31, l_32, l_36, l_40, l_41, l_42, l_43, l_44, l_45, l_46, l_47, l_48, l_49, l_50, l_51, l_52, l_57, l_58, l_60, l_61, l_64, l_72, l_80, l_92, l_98, l_99, l_100, l_102, l_105, l_111, l_112, l_114, l_115, l_116, l_117, l_120, l_144, l_200, l_201, l_240, l_300, l_320, l_400, l_500, l_512, l_550, l_560, l_649, l_650, l_1000, l_1032, l_1400, l_2000, l_4000, l_10000, l_268435455, iN_add, iN_sub, iN_mul, iN_le_t, iN_le_f, iN_lt_t, iN_lt_f, iN_eq_f, inb_iN, ix_iN, isZ_0, isZ_1, ↓reduceIte, eq_self]) (by omega) (n := 999) (by omega) (s := (iN 1, iN 1)) rfl
    rw [er] at hr
    exact hr
  have l : f_X7_odds_l66_15 (iN 0) (iN 0) H FU (iN 0) (iN 0) (iN 0) = some (iN 1, iN 1) := by
    show f_X7_odds_l66_15 (iN 0) (iN 0) H (999 + 1) (iN 0) (iN 0) (iN 0) = _
    unfold f_X7_odds_l66_15
    simp (disch := omega) only [chk_t, beq_self_eq_true, nm_s, bj1_s, bj2_s, bj3_s, mo_1, mo_0, l_0, l_1, l_2, l_3, l_4, l_5, l_6, l_7, l_8, l_9, l_10, l_11, l_12, l_13, l_14, l_15, l_16, l_17, l_18, l_19, l_20, l_21, l_24, l_30, l_31, l_32, l_36, l_40, l_41, l_42, l_43, l_44, l_45, l_46, l_47, l_48, l_49, l_50, l_51, l_52, l_57, l_58, l_60, l_61, l_64, l_72, l_80, l_92, l_98, l_99, l_100, l_102, l_105, l_111, l_112, l_114, l_115, l_116, l_117, l_120, l_144, l_200, l_201, l_240, l_300, l_320, l_400, l_500, l_512, l_550, l_560, l_649, l_650, l_1000, l_1032, l_1400, l_2000, l_4000, l_10000, l_268435455, iN_add, iN_sub, iN_mul, iN_le_t, iN_le_f, iN_lt_t, iN_lt_f, iN_eq_f, inb_iN, ix_iN, isZ_0, isZ_1, ↓reduceIte, eq_self, h0, iN_div]
    exact l2
  have t := ctell_ok (a := 1) (b := 1) (G := H) (by omega) (by omega) (by omega)
  have t : f_X7_tellFraction (iN 1) (iN 1) H = some (sJ (sJ H 0 17 1) 0 18 1) := t
  have i1 := in_1 (a := 0) (k := 0) (b := 3) (by omega) (by omega)
  refine ⟨H, ?_, h2⟩
  unfold f_X7_odds
  simp (disch := omega) only [chk_t, beq_self_eq_true, nm_s, bj1_s, bj2_s, bj3_s, mo_1, mo_0, l_0, l_1, l_2, l_3, l_4, l_5, l_6, l_7, l_8, l_9, l_10, l_11, l_12, l_13, l_14, l_15, l_16, l_17, l_18, l_19, l_20, l_21, l_24, l_30, l_31, l_32, l_36, l_40, l_41, l_42, l_43, l_44, l_45, l_46, l_47, l_48, l_49, l_50, l_51, l_52, l_57, l_58, l_60, l_61, l_64, l_72, l_80, l_92, l_98, l_99, l_100, l_102, l_105, l_111, l_112, l_114, l_115, l_116, l_117, l_120, l_144, l_200, l_201, l_240, l_300, l_320, l_400, l_500, l_512, l_550, l_560, l_649, l_650, l_1000, l_1032, l_1400, l_2000, l_4000, l_10000, l_268435455, iN_add, iN_sub, iN_mul, iN_le_t, iN_le_f, iN_lt_t, iN_lt_f, iN_eq_f, inb_iN, ix_iN, isZ_0, isZ_1, ↓reduceIte, eq_self, c1, kd_b ho, i1, w, hH, l, t]

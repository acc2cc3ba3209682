/-! tick by tick, both dishes -/
theorem tells_c {G : G_} {x : Int32} : f_L_tells (iN 1) (sI G 0 16 x) = some x := by
  unfold f_L_tells
  have e : f_X7_asked (sI G 0 16 x) = some x := by rw [asked_c, sI_eq]
  simp (disch := omega) only [chk_t, beq_self_eq_true, nm_s, bj1_s, bj2_s, bj3_s, mo_1, mo_0, l_0, l_1, l_2, l_3, l_4, l_5, l_6, l_7, l_8, l_9, l_10, l_11, l_12, l_13, l_14, l_15, l_16, l_17, l_18, l_19, l_20, l_21, l_24, l_30, l_31, l_32, l_36, l_40, l_41, l_42, l_43, l_44, l_45, l_46, l_47, l_48, l_49, l_50, l_51, l_52, l_57, l_58, l_60, l_61, l_64, l_72, l_80, l_92, l_98, l_99, l_100, l_102, l_105, l_111, l_112, l_114, l_115, l_116, l_117, l_120, l_144, l_200, l_201, l_240, l_300, l_320, l_400, l_500, l_512, l_550, l_560, l_649, l_650, l_1000, l_1032, l_1400, l_2000, l_4000, l_10000, l_268435455, iN_add, iN_sub, iN_mul, iN_le_t, iN_le_f, iN_lt_t, iN_lt_f, iN_eq_f, inb_iN, ix_iN, isZ_0, isZ_1, ↓reduceIte, eq_self, e]
theorem dep_0 {i n mm : Nat} {D : Nat → Int32} {G : G_} (h : DS n mm D G) (hi : i < n) : f_X7_depth (iN i) (iN 0) G = some (iN 1, sI G 0 16 (D (52 + i))) := depth_c (w := 0) h.1 h.2.1 h.2.2 hi (by omega)
theorem dep_1 {i n mm : Nat} {D : Nat → Int32} {G : G_} (h : DS n mm D G) (hi : i < n) : f_X7_depth (iN i) (iN 1) G = some (iN 1, sI G 0 16 (D (72 + i))) := depth_c (w := 1) h.1 h.2.1 h.2.2 hi (by omega)
theorem dep_2 {i n mm : Nat} {D : Nat → Int32} {G : G_} (h : DS n mm D G) (hi : i < n) : f_X7_depth (iN i) (iN 2) G = some (iN 1, sI G 0 16 (D (92 + i))) := depth_c (w := 2) h.1 h.2.1 h.2.2 hi (by omega)
theorem DS_as {n mm : Nat} {D : Nat → Int32} {G : G_} {x : Int32} (h : DS n mm D G) : DS n mm D (sI G 0 16 x) := DS_fr h (fun q h1 h2 => sI_p (by omega))
theorem ski {s w n mm : Nat} {D : Nat → Int32} {G : G_} (h : DS n mm D G) (hs : s < 2) (hw : w ≤ 3) : f_X7_skin (iN s) (iN w) G = some (iN 1, sI G 0 16 (skinS s w D)) := skin_c h.1 h.2.1 h.2.2 hs hw
theorem swsI {G : G_} {q j : Nat} {v : Int32} (h : q ≠ 124) : (swG (sI (swG G) 0 j v)).1 q = G.1 q := by
  by_cases c : q < 124
  · rw [sw_lo c, sI_p (by omega), sw_mid (by omega) (by omega), show q + 124 - 124 = q by omega]
  · by_cases c2 : q < 248
    · rw [sw_mid (by omega) c2, sI_p (by omega), sw_lo (by omega), show q - 124 + 124 = q by omega]
    · rw [sw_hi (by omega), sI_p (by omega), sw_hi (by omega)]
theorem l272_c {u6 u7 : Int32} {n : Nat} {G : G_} (h0 : G.1 248 0 = iN n) (hn : n ≤ 20) : ∃ A, f_L_law_l272_3 u6 u7 FU (iN 0) G = some A ∧ (∀ i, i < n → A.1 252 i = iN 100) ∧ (∀ q, q ≠ 252 → A.1 q = G.1 q) := by
  obtain ⟨A, hA, i1, i2⟩ := loop_h (fun n v s => f_L_law_l272_3 u6 u7 n v s) (fun j H => (∀ i, i < j → H.1 252 i = iN 100) ∧ (∀ q, q ≠ 252 → H.1 q = G.1 q)) (fun H => (∀ i, i < n → H.1 252 i = iN 100) ∧ (∀ q, q ≠ 252 → H.1 q = G.1 q)) 0 n (by
    intro f j H h3 h4 ⟨g1, g2⟩
    have e : H.1 248 0 = iN n := by rw [g2 248 (by omega)]; exact h0
    refine ⟨sI H 252 j (iN 100), ⟨fun i hi => ?_, fun q hq => ?_⟩, ?_⟩
    · rw [sI_v]
      by_cases c : i = j
      · rw [if_pos c]
      · rw [if_neg c]
        exact g1 i (by omega)
    · rw [sI_p hq]
      exact g2 q hq
    · show f_L_law_l272_3 u6 u7 (f + 1) (iN j) H = _
      conv => lhs; unfold f_L_law_l272_3
      simp (disch := omega) only [chk_t, beq_self_eq_true, nm_s, bj1_s, bj2_s, bj3_s, mo_1, mo_0, l_0, l_1, l_2, l_3, l_4, l_5, l_6, l_7, l_8, l_9, l_10, l_11, l_12, l_13, l_14, l_15, l_16, l_17, l_18, l_19, l_20, l_21, l_24, l_30, l_31, l_32, l_36, l_40, l_41, l_42, l_43, l_44, l_45, l_46, l_47, l_48, l_49, l_50, l_51, l_52, l_57, l_58, l_60, l_61, l_64, l_72, l_80, l_92, l_98, l_99, l_100, l_102, l_105, l_111, l_112, l_114, l_115, l_116, l_117, l_120, l_144, l_200, l_201, l_240, l_300, l_320, l_400, l_500, l_512, l_550, l_560, l_649, l_650, l_1000, l_1032, l_1400, l_2000, l_4000, l_10000, l_268435455, iN_add, iN_sub, iN_mul, iN_le_t, iN_le_f, iN_lt_t, iN_lt_f, iN_eq_f, inb_iN, ix_iN, isZ_0, isZ_1, ↓reduceIte, eq_self, e]) (by
    intro f H ⟨g1, g2⟩
    have e : H.1 248 0 = iN n := by rw [g2 248 (by omega)]; exact h0
    refine ⟨H, ?_, g1, g2⟩
    show f_L_law_l272_3 u6 u7 (f + 1) (iN n) H = _
    unfold f_L_law_l272_3
    simp (disch := omega) only [chk_t, beq_self_eq_true, nm_s, bj1_s, bj2_s, bj3_s, mo_1, mo_0, l_0, l_1, l_2, l_3, l_4, l_5, l_6, l_7, l_8, l_9, l_10, l_11, l_12, l_13, l_14, l_15, l_16, l_17, l_18, l_19, l_20, l_21, l_24, l_30, l_31, l_32, l_36, l_40, l_41, l_42, l_43, l_44, l_45, l_46, l_47, l_48, l_49, l_50, l_51, l_52, l_57, l_58, l_60, l_61, l_64, l_72, l_80, l_92, l_98, l_99, l_100, l_102, l_105, l_111, l_112, l_114, l_115, l_116, l_117, l_120, l_144, l_200, l_201, l_240, l_300, l_320, l_400, l_500, l_512, l_550, l_560, l_649, l_650, l_1000, l_1032, l_1400, l_2000, l_4000, l_10000, l_268435455, iN_add, iN_sub, iN_mul, iN_le_t, iN_le_f, iN_lt_t, iN_lt_f, iN_eq_f, inb_iN, ix_iN, isZ_0, isZ_1, ↓reduceIte, eq_self, e]) (by omega) (n := FU) (fu_lt (by omega)) (s := G) ⟨fun i hi => by omega, fun _ _ => rfl⟩
  exact ⟨A, hA, i1, i2⟩
/-- what the law's rows hold of what was warmest and of juice -/
def MJ (D : Nat → Int32) (n : Nat) (G : G_) : Prop := ∀ i, i < n → (G.1 251 i).toInt ≤ (D (72 + i)).toInt ∧ (D (92 + i)).toInt ≤ (G.1 252 i).toInt
theorem l335_c {u6 v8 v9 : Int32} {h c n mm m' : Nat} {D E : Nat → Int32} {G : G_} (h0 : G.1 248 0 = iN n) (hD : DS n mm D G) (hE : DS n m' E (swG G)) (hM : MR n D E) (hL : LF h c D n) (hh : h ≤ 3000) (hJ : MJ D n G) : ∃ A, f_L_law_l335_21 u6 (iN h) v8 v9 FU (iN 0) G = some A ∧ (∀ i, i < n → A.1 251 i = D (72 + i) ∧ A.1 252 i = D (92 + i)) ∧ (∀ q, q ≠ 0 → q ≠ 124 → q ≠ 251 → q ≠ 252 → A.1 q = G.1 q) := by
  have hb := hD.2.1.1.1.2
  have hn := hD.2.1.1.1
  obtain ⟨A, hA, i1, i2⟩ := loop_h (fun n v s => f_L_law_l335_21 u6 (iN h) v8 v9 n v s) (fun j H => (∀ i, i < j → H.1 251 i = D (72 + i) ∧ H.1 252 i = D (92 + i)) ∧ (∀ i, j ≤ i → H.1 251 i = G.1 251 i ∧ H.1 252 i = G.1 252 i) ∧ (∀ q, q ≠ 0 → q ≠ 124 → q ≠ 251 → q ≠ 252 → H.1 q = G.1 q)) (fun H => (∀ i, i < n → H.1 251 i = D (72 + i) ∧ H.1 252 i = D (92 + i)) ∧ (∀ q, q ≠ 0 → q ≠ 124 → q ≠ 251 → q ≠ 252 → H.1 q = G.1 q)) 0 n (by
    intro f k H h3 h4 ⟨g1, g2, g3⟩
    have e : H.1 248 0 = iN n := by rw [g3 248 (by omega) (by omega) (by omega) (by omega)]; exact h0
    have dH : DS n mm D H := DS_fr hD (fun q q1 q2 => g3 q (by omega) (by omega) (by omega) (by omega))
    have eH : DS n m' E (swG H) := DS_fr hE (fun q q1 q2 => by
      rw [sw_lo (by omega), sw_lo (by omega)]
      exact g3 _ (by omega) (by omega) (by omega) (by omega))
    have d0 := fun G (hG : DS n mm D G) => dep_0 hG h4
    have d1 := fun G (hG : DS n mm D G) => dep_1 hG h4
    have d2 := fun G (hG : DS n mm D G) => dep_2 hG h4
    have a1 := d0 H dH
    have a2 := d1 _ (DS_as (x := D (52 + k)) dH)
    have a3 := d2 _ (DS_as (x := D (72 + k)) (DS_as (x := D (52 + k)) dH))
    rw [sI_sI] at a2
    rw [sI_sI, sI_sI] at a3
    obtain ⟨H3, eH3⟩ : ∃ H3, H3 = sI H 0 16 (D (92 + k)) := ⟨_, rfl⟩
    have q3 : DS n m' E (swG H3) := DS_lw eH (by
      rw [eH3]
      exact (call_o (fun q hq => sI_p (by omega))).1)
    have hk : n - 1 - k < n := by omega
    have b1 := dep_0 q3 hk
    have b2 := dep_1 (DS_as (x := E (52 + (n - 1 - k))) q3) hk
    have b3 := dep_2 (DS_as (x := E (72 + (n - 1 - k))) (DS_as (x := E (52 + (n - 1 - k))) q3)) hk
    rw [sI_sI] at b2
    rw [sI_sI, sI_sI] at b3
    obtain ⟨m1, m2, m3⟩ := hM.2.2.2.2.2.2.2 (n - 1 - k) hk
    rw [show n - 1 - (n - 1 - k) = k by omega] at m1 m2 m3
    rw [m1] at b1 b2
    rw [m2] at b2 b3
    rw [m3] at b3
    have l248 : H3.1 248 0 = iN n := by rw [eH3, sI_p (by omega)]; exact e
    have o251 : H3.1 251 k = G.1 251 k := by rw [eH3, sI_p (by omega)]; exact (g2 k (by omega)).1
    have o252 : H3.1 252 k = G.1 252 k := by rw [eH3, sI_p (by omega)]; exact (g2 k (by omega)).2
    have s248 : ∀ v, (swG (sI (swG H3) 0 16 v)).1 248 = H3.1 248 := fun v => swsI (by omega)
    have s251 : ∀ v, (swG (sI (swG H3) 0 16 v)).1 251 = H3.1 251 := fun v => swsI (by omega)
    have s252 : ∀ v, (swG (sI (swG H3) 0 16 v)).1 252 = H3.1 252 := fun v => swsI (by omega)
    have w0 := hL.2.1 k h4
    have w1 := hL.2.2.1 k h4
    have w2 := hJ k h4
    have w3 := hD.2.1.1.2.2.2 k (by rw [okN_n hn]; exact h4)
    have c1 : ¬ iN h < D (52 + k) := fun x => by have := t_lt.mp x; rw [li (by omega)] at this; omega
    have c2 : ¬ D (52 + k) < iN 0 := fun x => by have := t_lt.mp x; rw [li (by omega)] at this; omega
    have c3 : ¬ D (72 + k) < D (52 + k) := fun x => by have := t_lt.mp x; omega
    have c4 : ¬ D (72 + k) < G.1 251 k := fun x => by have := t_lt.mp x; omega
    have c5 : ¬ G.1 252 k < D (92 + k) := fun x => by have := t_lt.mp x; omega
    have c6 : iN 0 ≤ D (92 + k) := t_le.mpr (by rw [li (by omega)]; omega)
    refine ⟨sI (sI (swG (sI (swG H3) 0 16 (D (92 + k)))) 251 k (D (72 + k))) 252 k (D (92 + k)), ⟨fun i hi => ?_, fun i hi => ?_, fun q q1 q2 q3 q4 => ?_⟩, ?_⟩
    · by_cases c : i = k
      · subst c
        exact ⟨by rw [sI_p (by omega), sI_v, if_pos rfl], by rw [sI_v, if_pos rfl]⟩
      · refine ⟨?_, ?_⟩
        · rw [sI_p (by omega), sI_v, if_neg c, s251, eH3, sI_p (by omega)]
          exact (g1 i (by omega)).1
        · rw [sI_v, if_neg c, sI_p (by omega), s252, eH3, sI_p (by omega)]
          exact (g1 i (by omega)).2
    · refine ⟨?_, ?_⟩
      · rw [sI_p (by omega), sI_v, if_neg (by omega), s251, eH3, sI_p (by omega)]
        exact (g2 i (by omega)).1
      · rw [sI_v, if_neg (by omega), sI_p (by omega), s252, eH3, sI_p (by omega)]
        exact (g2 i (by omega)).2
    · rw [sI_p q4, sI_p q3, swsI q2, eH3, sI_p q1]
      exact g3 q q1 q2 q3 q4
    · show f_L_law_l335_21 u6 (iN h) v8 v9 (f + 1) (iN k) H = _
      conv => lhs; unfold f_L_law_l335_21
      simp (maxSteps := 4000000) (disch := omega) only [chk_t, beq_self_eq_true, nm_s, bj1_s, bj2_s, bj3_s, mo_1, mo_0, l_0, l_1, l_2, l_3, l_4, l_5, l_6, l_7, l_8, l_9, l_10, l_11, l_12, l_13, l_14, l_15, l_16, l_17, l_18, l_19, l_20, l_21, l_24, l_30, l_31, l_32, l_36, l_40, l_41, l_42, l_43, l_44, l_45, l_46, l_47, l_48, l_49, l_50, l_51, l_52, l_57, l_58, l_60, l_61, l_64, l_72, l_80, l_92, l_98, l_99, l_100, l_102, l_105, l_111, l_112, l_114, l_115, l_116, l_117, l_120, l_144, l_200, l_201, l_240, l_300, l_320, l_400, l_500, l_512, l_550, l_560, l_649, l_650, l_1000, l_1032, l_1400, l_2000, l_4000, l_10000, l_268435455, iN_add, iN_sub, iN_mul, iN_le_t, iN_le_f, iN_lt_t, iN_lt_f, iN_eq_f, inb_iN, ix_iN, isZ_0, isZ_1, ↓reduceIte, eq_self, e, a1, tells_c, a2, a3, ← eH3, l248, b1, swG_swG, b2, b3, s248, s251, s252, o251, o252, if_neg c1, if_neg c2, if_neg c3, if_neg c4, if_neg c5, if_pos c6, sI_p]
      rw [show f_L_tells (iN 1) H3 = some (D (92 + k)) by rw [eH3]; exact tells_c]
      simp (maxSteps := 4000000) (disch := omega) only [chk_t, beq_self_eq_true, nm_s, bj1_s, bj2_s, bj3_s, mo_1, mo_0, l_0, l_1, l_2, l_3, l_4, l_5, l_6, l_7, l_8, l_9, l_10, l_11, l_12, l_13, l_14, l_15, l_16, l_17, l_18, l_19, l_20, l_21, l_24, l_30, l_31, l_32, l_36, l_40, l_41, l_42, l_43, l_44, l_45, l_46, l_47, l_48, l_49, l_50, l_51, l_52, l_57, l_58, l_60, l_61, l_64, l_72, l_80, l_92, l_98, l_99, l_100, l_102, l_105, l_111, l_112, l_114, l_115, l_116, l_117, l_120, l_144, l_200, l_201, l_240, l_300, l_320, l_400, l_500, l_512, l_550, l_560, l_649, l_650, l_1000, l_1032, l_1400, l_2000, l_4000, l_10000, l_268435455, iN_add, iN_sub, iN_mul, iN_le_t, iN_le_f, iN_lt_t, iN_lt_f, iN_eq_f, inb_iN, ix_iN, isZ_0, isZ_1, ↓reduceIte, eq_self, e, a1, tells_c, a2, a3, ← eH3, l248, b1, swG_swG, b2, b3, s248, s251, s252, o251, o252, if_neg c1, if_neg c2, if_neg c3, if_neg c4, if_neg c5, if_pos c6, sI_p]) (by
    intro f H ⟨g1, g2, g3⟩
    have e : H.1 248 0 = iN n := by rw [g3 248 (by omega) (by omega) (by omega) (by omega)]; exact h0
    refine ⟨H, ?_, g1, g3⟩
    show f_L_law_l335_21 u6 (iN h) v8 v9 (f + 1) (iN n) H = _
    unfold f_L_law_l335_21
    simp (disch := omega) only [chk_t, beq_self_eq_true, nm_s, bj1_s, bj2_s, bj3_s, mo_1, mo_0, l_0, l_1, l_2, l_3, l_4, l_5, l_6, l_7, l_8, l_9, l_10, l_11, l_12, l_13, l_14, l_15, l_16, l_17, l_18, l_19, l_20, l_21, l_24, l_30, l_31, l_32, l_36, l_40, l_41, l_42, l_43, l_44, l_45, l_46, l_47, l_48, l_49, l_50, l_51, l_52, l_57, l_58, l_60, l_61, l_64, l_72, l_80, l_92, l_98, l_99, l_100, l_102, l_105, l_111, l_112, l_114, l_115, l_116, l_117, l_120, l_144, l_200, l_201, l_240, l_300, l_320, l_400, l_500, l_512, l_550, l_560, l_649, l_650, l_1000, l_1032, l_1400, l_2000, l_4000, l_10000, l_268435455, iN_add, iN_sub, iN_mul, iN_le_t, iN_le_f, iN_lt_t, iN_lt_f, iN_eq_f, inb_iN, ix_iN, isZ_0, isZ_1, ↓reduceIte, eq_self, e]) (by omega) (n := FU) (fu_lt (by omega)) (s := G) ⟨fun i hi => by omega, fun _ _ => ⟨rfl, rfl⟩, fun _ _ _ _ _ => rfl⟩
  exact ⟨A, hA, i1, i2⟩

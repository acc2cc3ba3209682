/-! the calls that try: what the class answers, and that it changes scratch alone -/
theorem in_1 {a b k : Nat} (h : a ≤ k ∧ k ≤ b) (hb : b < 2147483648) : f_X7_within (iN k) (iN a) (iN b) = some (iN 1) := by rw [in7, inS_t h hb]
theorem isWay_1 {q t : Nat} (hq : 10 ≤ q ∧ q ≤ 30) (ht : 1 ≤ t ∧ t ≤ 60) : f_X7_isWay (iN q) (iN t) = some (iN 1) := by
  unfold f_X7_isWay
  simp (disch := omega) only [chk_t, beq_self_eq_true, nm_s, bj1_s, bj2_s, bj3_s, mo_1, mo_0, l_0, l_1, l_2, l_3, l_4, l_5, l_6, l_7, l_8, l_9, l_10, l_11, l_12, l_13, l_14, l_15, l_16, l_17, l_18, l_19, l_20, l_21, l_24, l_30, l_31, l_32, l_36, l_40, l_41, l_42, l_43, l_44, l_45, l_46, l_47, l_48, l_49, l_50, l_51, l_52, l_57, l_58, l_60, l_61, l_64, l_72, l_80, l_92, l_98, l_99, l_100, l_102, l_105, l_111, l_112, l_114, l_115, l_116, l_117, l_120, l_144, l_200, l_201, l_240, l_300, l_320, l_400, l_500, l_512, l_550, l_560, l_649, l_650, l_1000, l_1032, l_1400, l_2000, l_4000, l_10000, l_268435455, iN_add, iN_sub, iN_mul, iN_le_t, iN_le_f, iN_lt_t, iN_lt_f, iN_eq_f, inb_iN, ix_iN, isZ_0, isZ_1, ↓reduceIte, eq_self, in_1 hq, in_1 ht]
theorem isHeat_1 {q : Nat} (hq : 2 ≤ q ∧ q ≤ 30) : f_X7_isHeat (iN q) = some (iN 1) := by
  unfold f_X7_isHeat
  simp (disch := omega) only [chk_t, beq_self_eq_true, nm_s, bj1_s, bj2_s, bj3_s, mo_1, mo_0, l_0, l_1, l_2, l_3, l_4, l_5, l_6, l_7, l_8, l_9, l_10, l_11, l_12, l_13, l_14, l_15, l_16, l_17, l_18, l_19, l_20, l_21, l_24, l_30, l_31, l_32, l_36, l_40, l_41, l_42, l_43, l_44, l_45, l_46, l_47, l_48, l_49, l_50, l_51, l_52, l_57, l_58, l_60, l_61, l_64, l_72, l_80, l_92, l_98, l_99, l_100, l_102, l_105, l_111, l_112, l_114, l_115, l_116, l_117, l_120, l_144, l_200, l_201, l_240, l_300, l_320, l_400, l_500, l_512, l_550, l_560, l_649, l_650, l_1000, l_1032, l_1400, l_2000, l_4000, l_10000, l_268435455, iN_add, iN_sub, iN_mul, iN_le_t, iN_le_f, iN_lt_t, iN_lt_f, iN_eq_f, inb_iN, ix_iN, isZ_0, isZ_1, ↓reduceIte, eq_self, in_1 hq]
theorem isSpan_1 {a b : Nat} (h : a ≤ b) (hb : b ≤ 4000) : f_X7_isSpan (iN a) (iN b) = some (iN 1) := by
  unfold f_X7_isSpan
  simp (disch := omega) only [chk_t, beq_self_eq_true, nm_s, bj1_s, bj2_s, bj3_s, mo_1, mo_0, l_0, l_1, l_2, l_3, l_4, l_5, l_6, l_7, l_8, l_9, l_10, l_11, l_12, l_13, l_14, l_15, l_16, l_17, l_18, l_19, l_20, l_21, l_24, l_30, l_31, l_32, l_36, l_40, l_41, l_42, l_43, l_44, l_45, l_46, l_47, l_48, l_49, l_50, l_51, l_52, l_57, l_58, l_60, l_61, l_64, l_72, l_80, l_92, l_98, l_99, l_100, l_102, l_105, l_111, l_112, l_114, l_115, l_116, l_117, l_120, l_144, l_200, l_201, l_240, l_300, l_320, l_400, l_500, l_512, l_550, l_560, l_649, l_650, l_1000, l_1032, l_1400, l_2000, l_4000, l_10000, l_268435455, iN_add, iN_sub, iN_mul, iN_le_t, iN_le_f, iN_lt_t, iN_lt_f, iN_eq_f, inb_iN, ix_iN, isZ_0, isZ_1, ↓reduceIte, eq_self, in7, inS_t]
theorem mD_0 {X : Nat → Int32} (h4 : X 4 = iN 0) : mD X ≤ 12 := by
  unfold mD
  rw [h4]
  decide
theorem way_c {k n q c t : Nat} {X : Nat → Int32} {G : G_} (hk : k < 4) (r1 : G.1 (71 + k) 0 = iN 1) (hc : cSl (71 + k) X G) (hX : slR X n) (hX4 : X 4 = iN 0) (hq : 10 ≤ q ∧ q ≤ 30) (hcc : 1 ≤ c ∧ c ≤ 120) (ht : 1 ≤ t ∧ t ≤ 60) : ∃ A, f_X7_way (iN k) (iN q) (iN c) (iN t) G = some (crustS (wayS (iN q) (iN t) (bgS X) c), sI A 0 16 (pinkS (wayS (iN q) (iN t) (bgS X) c))) ∧ cc G A := by
  obtain ⟨c1, ho⟩ := slabAt_t hk G
  have w7 := isWay_1 hq ht
  have v7 := in_1 hcc (by omega)
  have wf0 := wf_bg hX (mD_0 hX4)
  obtain ⟨A, hA, cA, fA⟩ := mkWay_ok (o := 17) (c := c) rfl ho (by omega) hX hX4 hc (qR_N hq.2) (t1N ht.1 (by omega)) (by omega)
  have wA := wf_way (k := c) (q := iN q) (t := iN t) wf0 (qR_N hq.2)
  refine ⟨A, ?_, cc_fr fA (by omega) (by omega)⟩
  unfold f_X7_way f_X7_told
  simp (disch := omega) only [chk_t, beq_self_eq_true, nm_s, bj1_s, bj2_s, bj3_s, mo_1, mo_0, l_0, l_1, l_2, l_3, l_4, l_5, l_6, l_7, l_8, l_9, l_10, l_11, l_12, l_13, l_14, l_15, l_16, l_17, l_18, l_19, l_20, l_21, l_24, l_30, l_31, l_32, l_36, l_40, l_41, l_42, l_43, l_44, l_45, l_46, l_47, l_48, l_49, l_50, l_51, l_52, l_57, l_58, l_60, l_61, l_64, l_72, l_80, l_92, l_98, l_99, l_100, l_102, l_105, l_111, l_112, l_114, l_115, l_116, l_117, l_120, l_144, l_200, l_201, l_240, l_300, l_320, l_400, l_500, l_512, l_550, l_560, l_649, l_650, l_1000, l_1032, l_1400, l_2000, l_4000, l_10000, l_268435455, iN_add, iN_sub, iN_mul, iN_le_t, iN_le_f, iN_lt_t, iN_lt_f, iN_eq_f, inb_iN, ix_iN, isZ_0, isZ_1, ↓reduceIte, eq_self, c1, kd_b ho, w7, v7, r1, hA, ccrust_ok (o := 17) rfl cA, cpink_ok (o := 17) rfl wA.1 cA]
theorem often_c {k n q c t : Nat} {X : Nat → Int32} {G : G_} (hk : k < 4) (r1 : G.1 (71 + k) 0 = iN 1) (hc : cSl (71 + k) X G) (hX : slR X n) (hX4 : X 4 = iN 0) (hq : 10 ≤ q ∧ q ≤ 30) (hcc : 1 ≤ c ∧ c ≤ 120) (ht : 1 ≤ t ∧ t ≤ 60) : ∃ A, f_X7_often (iN k) (iN q) (iN c) (iN t) G = some (iN 100 + pinkS (wayS (iN q) (iN t) (bgS X) c) - pinkS (wayS (iN q) (iN ((c + 1) / 2)) (bgS X) c), sI A 0 16 (midM (wayS (iN q) (iN t) (bgS X) c) - midM (wayS (iN q) (iN ((c + 1) / 2)) (bgS X) c))) ∧ cc G A := by
  obtain ⟨c1, ho⟩ := slabAt_t hk G
  have w7 := isWay_1 hq ht
  have v7 := in_1 hcc (by omega)
  have wf0 := wf_bg hX (mD_0 hX4)
  have hdv : (iN c + iN 1) / iN 2 = iN ((c + 1) / 2) := by rw [iN_add, iN_div (by omega) (by omega) (by omega)]
  have hd1 : 1 ≤ (c + 1) / 2 := by omega
  have hd2 : (c + 1) / 2 ≤ 100 := by omega
  generalize (c + 1) / 2 = u at *
  obtain ⟨A, hA, cA, fA⟩ := mkWay_ok (o := 17) (c := c) rfl ho (by omega) hX hX4 hc (qR_N hq.2) (t1N ht.1 (by omega)) (by omega)
  obtain ⟨B, hB, cB, fB⟩ := mkWay_ok (o := 28) (c := c) (G := A) rfl ho (by omega) hX hX4 (cSl_cc hc (fA.1.1 _ (by omega))) (qR_N hq.2) (t1N hd1 (by omega)) (by omega)
  have wA := wf_way (k := c) (q := iN q) (t := iN t) wf0 (qR_N hq.2)
  have wB := wf_way (k := c) (q := iN q) (t := iN u) wf0 (qR_N hq.2)
  have cA' := cD_fr cA (fun q h1 h2 => fB.1.1 q (by omega))
  have pA := cpink_ok (o := 17) rfl wA.1 cA'
  have pB := cpink_ok (o := 28) rfl wB.1 cB
  have mA := midM_ok (o := 17) rfl wA.1 cA'
  have mB := midM_ok (o := 28) rfl wB.1 cB
  refine ⟨B, ?_, cc_tr (cc_fr fA (by omega) (by omega)) (cc_fr fB (by omega) (by omega))⟩
  unfold f_X7_often f_X7_told
  simp (disch := omega) only [chk_t, beq_self_eq_true, nm_s, bj1_s, bj2_s, bj3_s, mo_1, mo_0, l_0, l_1, l_2, l_3, l_4, l_5, l_6, l_7, l_8, l_9, l_10, l_11, l_12, l_13, l_14, l_15, l_16, l_17, l_18, l_19, l_20, l_21, l_24, l_30, l_31, l_32, l_36, l_40, l_41, l_42, l_43, l_44, l_45, l_46, l_47, l_48, l_49, l_50, l_51, l_52, l_57, l_58, l_60, l_61, l_64, l_72, l_80, l_92, l_98, l_99, l_100, l_102, l_105, l_111, l_112, l_114, l_115, l_116, l_117, l_120, l_144, l_200, l_201, l_240, l_300, l_320, l_400, l_500, l_512, l_550, l_560, l_649, l_650, l_1000, l_1032, l_1400, l_2000, l_4000, l_10000, l_268435455, iN_add, iN_sub, iN_mul, iN_le_t, iN_le_f, iN_lt_t, iN_lt_f, iN_eq_f, inb_iN, ix_iN, isZ_0, isZ_1, ↓reduceIte, eq_self, c1, kd_b ho, w7, v7, r1, hA, hdv, hB, pA, pB, mA, mB]
  rw [← iN_add, hdv]
  simp (disch := omega) only [chk_t, beq_self_eq_true, nm_s, bj1_s, bj2_s, bj3_s, mo_1, mo_0, l_0, l_1, l_2, l_3, l_4, l_5, l_6, l_7, l_8, l_9, l_10, l_11, l_12, l_13, l_14, l_15, l_16, l_17, l_18, l_19, l_20, l_21, l_24, l_30, l_31, l_32, l_36, l_40, l_41, l_42, l_43, l_44, l_45, l_46, l_47, l_48, l_49, l_50, l_51, l_52, l_57, l_58, l_60, l_61, l_64, l_72, l_80, l_92, l_98, l_99, l_100, l_102, l_105, l_111, l_112, l_114, l_115, l_116, l_117, l_120, l_144, l_200, l_201, l_240, l_300, l_320, l_400, l_500, l_512, l_550, l_560, l_649, l_650, l_1000, l_1032, l_1400, l_2000, l_4000, l_10000, l_268435455, iN_add, iN_sub, iN_mul, iN_le_t, iN_le_f, iN_lt_t, iN_lt_f, iN_eq_f, inb_iN, ix_iN, isZ_0, isZ_1, ↓reduceIte, eq_self, hB, pA, pB, mA, mB]
theorem turns_c {k n q c : Nat} {X : Nat → Int32} {G : G_} (hk : k < 4) (r1 : G.1 (71 + k) 0 = iN 1) (hc : cSl (71 + k) X G) (hX : slR X n) (hX4 : X 4 = iN 0) (hq : 10 ≤ q ∧ q ≤ 30) (hcc : 1 ≤ c ∧ c ≤ 120) : ∃ A, f_X7_turns (iN k) (iN q) (iN c) G = some ((mxA (fun t => pinkS (wayS (iN q) (iN t) (bgS X) c)) 1 (iN 0, -iN 1) 61).1, sI A 0 16 (mxA (fun t => pinkS (wayS (iN q) (iN t) (bgS X) c)) 1 (iN 0, -iN 1) 61).2) ∧ cc G A := by
  obtain ⟨c1, ho⟩ := slabAt_t hk G
  have w7 := isWay_1 (t := 1) hq (by omega)
  have v7 := in_1 hcc (by omega)
  have wf0 := wf_bg hX (mD_0 hX4)
  have wA := fun t => wf_way (k := c) (q := iN q) (t := iN t) wf0 (qR_N hq.2)
  obtain ⟨F, hF⟩ : ∃ F : Nat → Int32, F = fun t => pinkS (wayS (iN q) (iN t) (bgS (X)) c) := ⟨_, rfl⟩
  have hFt : ∀ t, pinkS (wayS (iN q) (iN t) (bgS (X)) c) = F t := fun t => by rw [hF]
  obtain ⟨A, hA, ccA⟩ := loop_p (fun f v s H => f_X7_turns_l55_13 (iN q) (iN c) (71 + k) f s.1 s.2 v H) (fun _ H => cc G H) (mxA F 1 (iN 1, -iN 1)) 1 61 (by
    intro f j H h3 h4 hI
    obtain ⟨A, hA, cA, fA⟩ := mkWay_ok (o := 17) (c := c) (G := H) rfl ho (by omega) hX hX4 (cSl_cc hc (cc_at hI (by omega))) (qR_N hq.2) (t1N (l := j) (by omega) (by omega)) (by omega)
    have pA := cpink_ok (o := 17) rfl (wA j).1 cA
    rw [hFt] at pA
    refine ⟨A, cc_tr hI (cc_fr fA (by omega) (by omega)), ?_⟩
    rw [mxA_s h3]
    generalize mxA F 1 (iN 1, -iN 1) j = s
    obtain ⟨x, y⟩ := s
    show f_X7_turns_l55_13 (iN q) (iN c) (71 + k) (f + 1) x y (iN j) H = _
    conv => lhs; unfold f_X7_turns_l55_13
    by_cases cq : F j ≤ y
    · simp (disch := omega) only [chk_t, beq_self_eq_true, nm_s, bj1_s, bj2_s, bj3_s, mo_1, mo_0, l_0, l_1, l_2, l_3, l_4, l_5, l_6, l_7, l_8, l_9, l_10, l_11, l_12, l_13, l_14, l_15, l_16, l_17, l_18, l_19, l_20, l_21, l_24, l_30, l_31, l_32, l_36, l_40, l_41, l_42, l_43, l_44, l_45, l_46, l_47, l_48, l_49, l_50, l_51, l_52, l_57, l_58, l_60, l_61, l_64, l_72, l_80, l_92, l_98, l_99, l_100, l_102, l_105, l_111, l_112, l_114, l_115, l_116, l_117, l_120, l_144, l_200, l_201, l_240, l_300, l_320, l_400, l_500, l_512, l_550, l_560, l_649, l_650, l_1000, l_1032, l_1400, l_2000, l_4000, l_10000, l_268435455, iN_add, iN_sub, iN_mul, iN_le_t, iN_le_f, iN_lt_t, iN_lt_f, iN_eq_f, inb_iN, ix_iN, isZ_0, isZ_1, ↓reduceIte, eq_self, hA, pA, if_pos cq]
    · simp (disch := omega) only [chk_t, beq_self_eq_true, nm_s, bj1_s, bj2_s, bj3_s, mo_1, mo_0, l_0, l_1, l_2, l_3, l_4, l_5, l_6, l_7, l_8, l_9, l_10, l_11, l_12, l_13, l_14, l_15, l_16, l_17, l_18, l_19, l_20, l_21, l_24, l_30, l_31, l_32, l_36, l_40, l_41, l_42, l_43, l_44, l_45, l_46, l_47, l_48, l_49, l_50, l_51, l_52, l_57, l_58, l_60, l_61, l_64, l_72, l_80, l_92, l_98, l_99, l_100, l_102, l_105, l_111, l_112, l_114, l_115, l_116, l_117, l_120, l_144, l_200, l_201, l_240, l_300, l_320, l_400, l_500, l_512, l_550, l_560, l_649, l_650, l_1000, l_1032, l_1400, l_2000, l_4000, l_10000, l_268435455, iN_add, iN_sub, iN_mul, iN_le_t, iN_le_f, iN_lt_t, iN_lt_f, iN_eq_f, inb_iN, ix_iN, isZ_0, isZ_1, ↓reduceIte, eq_self, hA, pA, if_neg cq]) (by
    intro f x y H
    show f_X7_turns_l55_13 (iN q) (iN c) (71 + k) (f + 1) x y (iN 61) H = _
    unfold f_X7_turns_l55_13
    simp (disch := omega) only [chk_t, beq_self_eq_true, nm_s, bj1_s, bj2_s, bj3_s, mo_1, mo_0, l_0, l_1, l_2, l_3, l_4, l_5, l_6, l_7, l_8, l_9, l_10, l_11, l_12, l_13, l_14, l_15, l_16, l_17, l_18, l_19, l_20, l_21, l_24, l_30, l_31, l_32, l_36, l_40, l_41, l_42, l_43, l_44, l_45, l_46, l_47, l_48, l_49, l_50, l_51, l_52, l_57, l_58, l_60, l_61, l_64, l_72, l_80, l_92, l_98, l_99, l_100, l_102, l_105, l_111, l_112, l_114, l_115, l_116, l_117, l_120, l_144, l_200, l_201, l_240, l_300, l_320, l_400, l_500, l_512, l_550, l_560, l_649, l_650, l_1000, l_1032, l_1400, l_2000, l_4000, l_10000, l_268435455, iN_add, iN_sub, iN_mul, iN_le_t, iN_le_f, iN_lt_t, iN_lt_f, iN_eq_f, inb_iN, ix_iN, isZ_0, isZ_1, ↓reduceIte, eq_self]) (by omega) (n := FU) (fu_lt (by omega)) (G := G) cc_refl
  have hp0 : ¬ F 1 ≤ -iN 1 := by
    obtain ⟨z, hz, ez⟩ := just_N (iN 500) (iN 649) (wA 1).1
    rw [← hFt]
    unfold pinkS
    rw [ez]
    exact N_m1 (by omega)
  have eS : mxA F 1 (iN 1, -iN 1) 61 = mxA F 1 (iN 0, -iN 1) 61 := mxA_1 hp0 hp0 (by omega)
  rw [eS, mxA_0] at hA
  have hA : f_X7_turns_l55_13 (iN q) (iN c) (71 + k) FU (iN 1) (-iN 1) (iN 1) G = some ((mxA F 1 (iN 0, -iN 1) 61).1, (mxA F 1 (iN 0, -iN 1) 61).2, A) := hA
  refine ⟨A, ?_, ccA⟩
  rw [← hF]
  unfold f_X7_turns f_X7_told
  simp (disch := omega) only [chk_t, beq_self_eq_true, nm_s, bj1_s, bj2_s, bj3_s, mo_1, mo_0, l_0, l_1, l_2, l_3, l_4, l_5, l_6, l_7, l_8, l_9, l_10, l_11, l_12, l_13, l_14, l_15, l_16, l_17, l_18, l_19, l_20, l_21, l_24, l_30, l_31, l_32, l_36, l_40, l_41, l_42, l_43, l_44, l_45, l_46, l_47, l_48, l_49, l_50, l_51, l_52, l_57, l_58, l_60, l_61, l_64, l_72, l_80, l_92, l_98, l_99, l_100, l_102, l_105, l_111, l_112, l_114, l_115, l_116, l_117, l_120, l_144, l_200, l_201, l_240, l_300, l_320, l_400, l_500, l_512, l_550, l_560, l_649, l_650, l_1000, l_1032, l_1400, l_2000, l_4000, l_10000, l_268435455, iN_add, iN_sub, iN_mul, iN_le_t, iN_le_f, iN_lt_t, iN_lt_f, iN_eq_f, inb_iN, ix_iN, isZ_0, isZ_1, ↓reduceIte, eq_self, c1, kd_b ho, w7, v7, r1, hA]
theorem off_c {k n q t w : Nat} {X : Nat → Int32} {G : G_} (hk : k < 4) (r1 : G.1 (71 + k) 0 = iN 1) (hc : cSl (71 + k) X G) (hX : slR X n) (hX4 : X 4 = iN 0) (hq : 10 ≤ q ∧ q ≤ 30) (ht : 1 ≤ t ∧ t ≤ 60) (hw : w ≤ 2000) (hz17 : isZ (G.1 17 7) = true) : ∃ A, f_X7_off (iN k) (iN q) (iN t) (iN w) G = some ((fiA (offS (iN q) (iN t) (iN w) X) (-iN 9, iN 0) 121).1, sI A 0 16 (fiA (offS (iN q) (iN t) (iN w) X) (-iN 9, iN 0) 121).2) ∧ cc G A := by
  obtain ⟨c1, ho⟩ := slabAt_t hk G
  have w7 := isWay_1 hq ht
  have v7 := in_1 (a := 0) (k := w) (b := 2000) (by omega) (by omega)
  have wf0 := wf_bg hX (mD_0 hX4)
  have wj := fun j => wf_way (k := j) (q := iN q) (t := iN t) wf0 (qR_N hq.2)
  have m4j : ∀ j, wayS (iN q) (iN t) (bgS (X)) j 4 = iN 0 := fun j => (way_X hX.1 (by omega)).trans hX4
  obtain ⟨B0, hB0, cB0, fB0⟩ := begin_ok (o := 17) rfl ho (by omega) hX.1 hc.2.1 hc.2.2.2 hX4
  have hs1 : G.1 (71 + k) 1 = iN n := hc.1.trans hX.1.1
  have hs3 : G.1 (71 + k) 3 = X 2 := hc.2.2.1
  obtain ⟨F, hF⟩ : ∃ F : Nat → Int32, F = offS (iN q) (iN t) (iN w) X := ⟨_, rfl⟩
  have hgr := fun j => grS_R (wj j) 30
  have hFt : ∀ j, (if grS (wayS (iN q) (iN t) (bgS X) j) 30 < iN w then iN w - grS (wayS (iN q) (iN t) (bgS X) j) 30 else grS (wayS (iN q) (iN t) (bgS X) j) 30 - iN w) = F j := fun j => by rw [hF]; rfl
  obtain ⟨A, hA, -, ccA⟩ := loop_p (fun f v s H => f_X7_off_l76_15 (iN q) (iN t) (iN w) f s.1 s.2 v H) (fun j H => cD 17 (wayS (iN q) (iN t) (bgS X) (j - 1)) H ∧ cc G H) (fiA F (iN 0, iN 0)) 1 121 (by
    intro f j H h3 h4 ⟨i1, i2⟩
    obtain ⟨i, rfl⟩ : ∃ i, j = i + 1 := ⟨j - 1, by omega⟩
    rw [show i + 1 - 1 = i by omega] at i1
    obtain ⟨A, hA, cA, fA⟩ := goByWay_ok (o := 17) (k := i) (q := iN q) (t := iN t) rfl (wj i) (qR_N hq.2) (t1N ht.1 (by omega)) (way_43 wf0 (qR_N hq.2) (bg_41 (by omega) (by omega))) i1
    have cA : cD 17 (wayS (iN q) (iN t) (bgS X) (i + 1)) A := cA
    have wi := wj (i + 1)
    have hz : isZ (A.1 17 7) = true := by
      rw [fA.2]
      exact i2.2.2 hz17
    obtain ⟨B, hB, cB, fB, -⟩ := become_ok (o := 28) (a := 17) (G := A) rfl rfl (by omega) wi.1 (m4j (i + 1)) (by omega) hz cA
    obtain ⟨C, hC, cC, fC⟩ := great_ok (o := 28) (c := 30) rfl wi (by omega) cB
    have hab : ab (grS (wayS (iN q) (iN t) (bgS X) (i + 1)) 30 - iN w) = F (i + 1) := by
      rw [← hFt]
      exact ab_far (by have := hgr (i + 1); omega) (by rw [li (by omega)]; omega)
    refine ⟨C, ⟨cD_fr cA (fun q h1 h2 => by rw [fC.1.1 q (by omega), fB.1 q (by omega)]), cc_tr i2 (cc_tr (cc_fr fA (by omega) (by omega)) (cc_tr (cc_fr0 fB (by omega) (by omega)) (cc_fr fC (by omega) (by omega))))⟩, ?_⟩
    by_cases c0 : i = 0
    · subst c0
      rw [fiA_1, fiA_2]
      show f_X7_off_l76_15 (iN q) (iN t) (iN w) (f + 1) (iN 0) (iN 0) (iN 1) H = _
      conv => lhs; unfold f_X7_off_l76_15
      simp (disch := omega) only [chk_t, beq_self_eq_true, nm_s, bj1_s, bj2_s, bj3_s, mo_1, mo_0, l_0, l_1, l_2, l_3, l_4, l_5, l_6, l_7, l_8, l_9, l_10, l_11, l_12, l_13, l_14, l_15, l_16, l_17, l_18, l_19, l_20, l_21, l_24, l_30, l_31, l_32, l_36, l_40, l_41, l_42, l_43, l_44, l_45, l_46, l_47, l_48, l_49, l_50, l_51, l_52, l_57, l_58, l_60, l_61, l_64, l_72, l_80, l_92, l_98, l_99, l_100, l_102, l_105, l_111, l_112, l_114, l_115, l_116, l_117, l_120, l_144, l_200, l_201, l_240, l_300, l_320, l_400, l_500, l_512, l_550, l_560, l_649, l_650, l_1000, l_1032, l_1400, l_2000, l_4000, l_10000, l_268435455, iN_add, iN_sub, iN_mul, iN_le_t, iN_le_f, iN_lt_t, iN_lt_f, iN_eq_f, inb_iN, ix_iN, isZ_0, isZ_1, ↓reduceIte, eq_self, hA, hB, hC, hab]
    · rw [fiA_s (j := i + 1) (by omega)]
      obtain ⟨b, hb1, hb2, hb3⟩ := fiA_b (f := F) (j := i + 1) (s0 := (iN 0, iN 0)) (by omega)
      generalize fiA F (iN 0, iN 0) (i + 1) = s at *
      obtain ⟨x, y⟩ := s
      have hb3 : x = iN b := hb3
      subst hb3
      show f_X7_off_l76_15 (iN q) (iN t) (iN w) (f + 1) (iN b) y (iN (i + 1)) H = _
      conv => lhs; unfold f_X7_off_l76_15
      by_cases cq : y ≤ F (i + 1)
      · simp (disch := omega) only [chk_t, beq_self_eq_true, nm_s, bj1_s, bj2_s, bj3_s, mo_1, mo_0, l_0, l_1, l_2, l_3, l_4, l_5, l_6, l_7, l_8, l_9, l_10, l_11, l_12, l_13, l_14, l_15, l_16, l_17, l_18, l_19, l_20, l_21, l_24, l_30, l_31, l_32, l_36, l_40, l_41, l_42, l_43, l_44, l_45, l_46, l_47, l_48, l_49, l_50, l_51, l_52, l_57, l_58, l_60, l_61, l_64, l_72, l_80, l_92, l_98, l_99, l_100, l_102, l_105, l_111, l_112, l_114, l_115, l_116, l_117, l_120, l_144, l_200, l_201, l_240, l_300, l_320, l_400, l_500, l_512, l_550, l_560, l_649, l_650, l_1000, l_1032, l_1400, l_2000, l_4000, l_10000, l_268435455, iN_add, iN_sub, iN_mul, iN_le_t, iN_le_f, iN_lt_t, iN_lt_f, iN_eq_f, inb_iN, ix_iN, isZ_0, isZ_1, ↓reduceIte, eq_self, hA, hB, hC, hab, if_pos cq]
      · simp (disch := omega) only [chk_t, beq_self_eq_true, nm_s, bj1_s, bj2_s, bj3_s, mo_1, mo_0, l_0, l_1, l_2, l_3, l_4, l_5, l_6, l_7, l_8, l_9, l_10, l_11, l_12, l_13, l_14, l_15, l_16, l_17, l_18, l_19, l_20, l_21, l_24, l_30, l_31, l_32, l_36, l_40, l_41, l_42, l_43, l_44, l_45, l_46, l_47, l_48, l_49, l_50, l_51, l_52, l_57, l_58, l_60, l_61, l_64, l_72, l_80, l_92, l_98, l_99, l_100, l_102, l_105, l_111, l_112, l_114, l_115, l_116, l_117, l_120, l_144, l_200, l_201, l_240, l_300, l_320, l_400, l_500, l_512, l_550, l_560, l_649, l_650, l_1000, l_1032, l_1400, l_2000, l_4000, l_10000, l_268435455, iN_add, iN_sub, iN_mul, iN_le_t, iN_le_f, iN_lt_t, iN_lt_f, iN_eq_f, inb_iN, ix_iN, isZ_0, isZ_1, ↓reduceIte, eq_self, hA, hB, hC, hab, if_neg cq]) (by
    intro f x y H
    show f_X7_off_l76_15 (iN q) (iN t) (iN w) (f + 1) x y (iN 121) H = _
    unfold f_X7_off_l76_15
    simp (disch := omega) only [chk_t, beq_self_eq_true, nm_s, bj1_s, bj2_s, bj3_s, mo_1, mo_0, l_0, l_1, l_2, l_3, l_4, l_5, l_6, l_7, l_8, l_9, l_10, l_11, l_12, l_13, l_14, l_15, l_16, l_17, l_18, l_19, l_20, l_21, l_24, l_30, l_31, l_32, l_36, l_40, l_41, l_42, l_43, l_44, l_45, l_46, l_47, l_48, l_49, l_50, l_51, l_52, l_57, l_58, l_60, l_61, l_64, l_72, l_80, l_92, l_98, l_99, l_100, l_102, l_105, l_111, l_112, l_114, l_115, l_116, l_117, l_120, l_144, l_200, l_201, l_240, l_300, l_320, l_400, l_500, l_512, l_550, l_560, l_649, l_650, l_1000, l_1032, l_1400, l_2000, l_4000, l_10000, l_268435455, iN_add, iN_sub, iN_mul, iN_le_t, iN_le_f, iN_lt_t, iN_lt_f, iN_eq_f, inb_iN, ix_iN, isZ_0, isZ_1, ↓reduceIte, eq_self]) (by omega) (n := FU) (fu_lt (by omega)) (G := B0) ⟨cB0, cc_fr fB0 (by omega) (by omega)⟩
  rw [fiA_e (j := 121) (s0 := (iN 0, iN 0)) (s1 := (-iN 9, iN 0)) (by omega), fiA_1] at hA
  have hA : f_X7_off_l76_15 (iN q) (iN t) (iN w) FU (iN 0) (iN 0) (iN 1) B0 = some ((fiA F (-iN 9, iN 0) 121).1, (fiA F (-iN 9, iN 0) 121).2, A) := hA
  refine ⟨A, ?_, ccA⟩
  rw [← hF]
  unfold f_X7_off f_X7_told
  simp (disch := omega) only [chk_t, beq_self_eq_true, nm_s, bj1_s, bj2_s, bj3_s, mo_1, mo_0, l_0, l_1, l_2, l_3, l_4, l_5, l_6, l_7, l_8, l_9, l_10, l_11, l_12, l_13, l_14, l_15, l_16, l_17, l_18, l_19, l_20, l_21, l_24, l_30, l_31, l_32, l_36, l_40, l_41, l_42, l_43, l_44, l_45, l_46, l_47, l_48, l_49, l_50, l_51, l_52, l_57, l_58, l_60, l_61, l_64, l_72, l_80, l_92, l_98, l_99, l_100, l_102, l_105, l_111, l_112, l_114, l_115, l_116, l_117, l_120, l_144, l_200, l_201, l_240, l_300, l_320, l_400, l_500, l_512, l_550, l_560, l_649, l_650, l_1000, l_1032, l_1400, l_2000, l_4000, l_10000, l_268435455, iN_add, iN_sub, iN_mul, iN_le_t, iN_le_f, iN_lt_t, iN_lt_f, iN_eq_f, inb_iN, ix_iN, isZ_0, isZ_1, ↓reduceIte, eq_self, c1, kd_b ho, w7, v7, r1, hs1, hs3, hB0, hA]
theorem rest_c {k p n mm : Nat} {X : Nat → Int32} {G : G_} (hk : k < 4) (r1 : G.1 (71 + k) 0 = iN 1) (hc : cSl (71 + k) X G) (hX : slR X n) (hp : p < 4) (t1 : G.1 (75 + 4 * p) 3 = iN 1) (hcp : cPl (75 + 4 * p) X G) (hP : plR X mm) : ∃ A, f_X7_rest (iN k) (iN p) G = some ((mnA (fun j => lossS (restS (mkS X) j)) 1 (iN 0, lossS (mkS X)) 31).1, sI A 0 16 (mnA (fun j => lossS (restS (mkS X) j)) 1 (iN 0, lossS (mkS X)) 31).2) ∧ cc G A := by
  obtain ⟨c1, ho⟩ := slabAt_t hk G
  obtain ⟨c2, ho2⟩ := planAt_t hp G
  obtain ⟨A, hA, cA, fA⟩ := mkPl_ok (o := 17) (G := G) rfl ho (by omega) ho2 (by omega) hX hc.2.1 hc.2.2.2 hP hcp
  have wm := wf_mk hX hP
  have hs1 : G.1 (71 + k) 1 = iN n := hc.1.trans hX.1.1
  have hs3 : G.1 (71 + k) 3 = X 2 := hc.2.2.1
  have l0 := closs_ok (o := 17) rfl wm.1 wm.2.2.1 wm.2.2.2 cA
  obtain ⟨F, hF⟩ : ∃ F : Nat → Int32, F = fun j => lossS (restS (mkS X) j) := ⟨_, rfl⟩
  have hFt : ∀ j, lossS (restS (mkS X) j) = F j := fun j => by rw [hF]
  have hF0 : lossS (mkS X) = F 0 := hFt 0
  obtain ⟨B, hB, -, ccB⟩ := loop_p (fun f v s H => f_X7_rest_l78_20 f s.1 s.2 v H) (fun j H => cD 17 (restS (mkS X) (j - 1)) H ∧ cc G H) (mnA F 1 (iN 0, F 0)) 1 31 (by
    intro f j H h3 h4 ⟨i1, i2⟩
    obtain ⟨i, rfl⟩ : ∃ i, j = i + 1 := ⟨j - 1, by omega⟩
    rw [show i + 1 - 1 = i by omega] at i1
    obtain ⟨C, hC, cC, fC⟩ := heat_ok (k := iN 4) (o := 17) rfl (wf_rest (k := i) wm) qR_0 i1
    have wi := wf_rest (k := i + 1) wm
    have cC : cD 17 (restS (mkS X) (i + 1)) C := cC
    have lC := closs_ok (o := 17) rfl wi.1 wi.2.2.1 wi.2.2.2 cC
    rw [hFt] at lC
    refine ⟨C, ⟨cC, cc_tr i2 (cc_fr fC (by omega) (by omega))⟩, ?_⟩
    rw [mnA_s (j := i + 1) (by omega)]
    generalize mnA F 1 (iN 0, F 0) (i + 1) = s
    obtain ⟨x, y⟩ := s
    show f_X7_rest_l78_20 (f + 1) x y (iN (i + 1)) H = _
    conv => lhs; unfold f_X7_rest_l78_20
    by_cases cq : y ≤ F (i + 1)
    · simp (disch := omega) only [chk_t, beq_self_eq_true, nm_s, bj1_s, bj2_s, bj3_s, mo_1, mo_0, l_0, l_1, l_2, l_3, l_4, l_5, l_6, l_7, l_8, l_9, l_10, l_11, l_12, l_13, l_14, l_15, l_16, l_17, l_18, l_19, l_20, l_21, l_24, l_30, l_31, l_32, l_36, l_40, l_41, l_42, l_43, l_44, l_45, l_46, l_47, l_48, l_49, l_50, l_51, l_52, l_57, l_58, l_60, l_61, l_64, l_72, l_80, l_92, l_98, l_99, l_100, l_102, l_105, l_111, l_112, l_114, l_115, l_116, l_117, l_120, l_144, l_200, l_201, l_240, l_300, l_320, l_400, l_500, l_512, l_550, l_560, l_649, l_650, l_1000, l_1032, l_1400, l_2000, l_4000, l_10000, l_268435455, iN_add, iN_sub, iN_mul, iN_le_t, iN_le_f, iN_lt_t, iN_lt_f, iN_eq_f, inb_iN, ix_iN, isZ_0, isZ_1, ↓reduceIte, eq_self, hC, lC, if_pos cq]
    · simp (disch := omega) only [chk_t, beq_self_eq_true, nm_s, bj1_s, bj2_s, bj3_s, mo_1, mo_0, l_0, l_1, l_2, l_3, l_4, l_5, l_6, l_7, l_8, l_9, l_10, l_11, l_12, l_13, l_14, l_15, l_16, l_17, l_18, l_19, l_20, l_21, l_24, l_30, l_31, l_32, l_36, l_40, l_41, l_42, l_43, l_44, l_45, l_46, l_47, l_48, l_49, l_50, l_51, l_52, l_57, l_58, l_60, l_61, l_64, l_72, l_80, l_92, l_98, l_99, l_100, l_102, l_105, l_111, l_112, l_114, l_115, l_116, l_117, l_120, l_144, l_200, l_201, l_240, l_300, l_320, l_400, l_500, l_512, l_550, l_560, l_649, l_650, l_1000, l_1032, l_1400, l_2000, l_4000, l_10000, l_268435455, iN_add, iN_sub, iN_mul, iN_le_t, iN_le_f, iN_lt_t, iN_lt_f, iN_eq_f, inb_iN, ix_iN, isZ_0, isZ_1, ↓reduceIte, eq_self, hC, lC, if_neg cq]) (by
    intro f x y H
    show f_X7_rest_l78_20 (f + 1) x y (iN 31) H = _
    unfold f_X7_rest_l78_20
    simp (disch := omega) only [chk_t, beq_self_eq_true, nm_s, bj1_s, bj2_s, bj3_s, mo_1, mo_0, l_0, l_1, l_2, l_3, l_4, l_5, l_6, l_7, l_8, l_9, l_10, l_11, l_12, l_13, l_14, l_15, l_16, l_17, l_18, l_19, l_20, l_21, l_24, l_30, l_31, l_32, l_36, l_40, l_41, l_42, l_43, l_44, l_45, l_46, l_47, l_48, l_49, l_50, l_51, l_52, l_57, l_58, l_60, l_61, l_64, l_72, l_80, l_92, l_98, l_99, l_100, l_102, l_105, l_111, l_112, l_114, l_115, l_116, l_117, l_120, l_144, l_200, l_201, l_240, l_300, l_320, l_400, l_500, l_512, l_550, l_560, l_649, l_650, l_1000, l_1032, l_1400, l_2000, l_4000, l_10000, l_268435455, iN_add, iN_sub, iN_mul, iN_le_t, iN_le_f, iN_lt_t, iN_lt_f, iN_eq_f, inb_iN, ix_iN, isZ_0, isZ_1, ↓reduceIte, eq_self]) (by omega) (n := FU) (fu_lt (by omega)) (G := A) ⟨cA, cc_fr fA (by omega) (by omega)⟩
  rw [mnA_0] at hB
  have hB : f_X7_rest_l78_20 FU (iN 0) (F 0) (iN 1) A = some ((mnA F 1 (iN 0, F 0) 31).1, (mnA F 1 (iN 0, F 0) 31).2, B) := hB
  refine ⟨B, ?_, ccB⟩
  rw [← hF, hF0]
  unfold f_X7_rest f_X7_told
  simp (disch := omega) only [chk_t, beq_self_eq_true, nm_s, bj1_s, bj2_s, bj3_s, mo_1, mo_0, l_0, l_1, l_2, l_3, l_4, l_5, l_6, l_7, l_8, l_9, l_10, l_11, l_12, l_13, l_14, l_15, l_16, l_17, l_18, l_19, l_20, l_21, l_24, l_30, l_31, l_32, l_36, l_40, l_41, l_42, l_43, l_44, l_45, l_46, l_47, l_48, l_49, l_50, l_51, l_52, l_57, l_58, l_60, l_61, l_64, l_72, l_80, l_92, l_98, l_99, l_100, l_102, l_105, l_111, l_112, l_114, l_115, l_116, l_117, l_120, l_144, l_200, l_201, l_240, l_300, l_320, l_400, l_500, l_512, l_550, l_560, l_649, l_650, l_1000, l_1032, l_1400, l_2000, l_4000, l_10000, l_268435455, iN_add, iN_sub, iN_mul, iN_le_t, iN_le_f, iN_lt_t, iN_lt_f, iN_eq_f, inb_iN, ix_iN, isZ_0, isZ_1, ↓reduceIte, eq_self, c1, c2, kd_b ho, kd_b ho2, r1, t1, hs1, hs3, hA, l0, hF0, hB]
theorem salt_c {k p n mm : Nat} {X : Nat → Int32} {G : G_} (hk : k < 4) (r1 : G.1 (71 + k) 0 = iN 1) (hc : cSl (71 + k) X G) (hX : slR X n) (hp : p < 4) (t1 : G.1 (75 + 4 * p) 3 = iN 1) (hcp : cPl (75 + 4 * p) X G) (hP : plR X mm) : ∃ A, f_X7_salt (iN k) (iN p) G = some ((mxA (fun j => crustS (mkS (up X 2 (iN j)))) 0 (iN 0, -iN 1) 61).1, sI A 0 16 (mxA (fun j => crustS (mkS (up X 2 (iN j)))) 0 (iN 0, -iN 1) 61).2) ∧ cc G A := by
  obtain ⟨c1, ho⟩ := slabAt_t hk G
  obtain ⟨c2, ho2⟩ := planAt_t hp G
  have hs1 : G.1 (71 + k) 1 = iN n := hc.1.trans hX.1.1
  have hXs : ∀ s, slR (up X 2 (iN s)) n := fun s => ⟨okN_keep hX.1 (up_ne (by omega)), by rw [up_ne (by omega)]; exact hX.2⟩
  have hPs : ∀ s, plR (up X 2 (iN s)) mm := fun s => pl_keep hP (fun p h1 h2 => up_ne (by omega))
  have wm := fun s => wf_mk (hXs s) (hPs s)
  obtain ⟨F, hF⟩ : ∃ F : Nat → Int32, F = fun j => crustS (mkS (up X 2 (iN j))) := ⟨_, rfl⟩
  have hFt : ∀ j, crustS (mkS (up X 2 (iN j))) = F j := fun j => by rw [hF]
  obtain ⟨B, hB, ccB⟩ := loop_p (fun f v s H => f_X7_salt_l54_16 (71 + k) (75 + 4 * p) f s.1 s.2 v H) (fun _ H => cc G H) (mxA F 0 (iN 0, -iN 1)) 0 61 (by
    intro f j H h3 h4 hI
    have q1 : H.1 (71 + k) = G.1 (71 + k) := cc_at hI (by omega)
    obtain ⟨A, hA, cA, fA⟩ := mkPl_ok (o := 17) (X := up X 2 (iN j)) (G := H) rfl ho (by omega) ho2 (by omega) (hXs j) (by rw [up_ne (by omega), q1]; exact hc.2.1) (by rw [up_ne (by omega), q1]; exact hc.2.2.2) (hPs j) (cPl_keep hP (fun p h1 h2 => up_ne (by omega)) (cPl_cc hcp (fun q h1 h2 => cc_at hI (by omega))))
    rw [up_eq] at hA
    have lA := ccrust_ok (o := 17) rfl cA
    rw [hFt] at lA
    have s1 : H.1 (71 + k) 1 = iN n := by rw [q1]; exact hs1
    refine ⟨A, cc_tr hI (cc_fr fA (by omega) (by omega)), ?_⟩
    rw [mxA_s (by omega)]
    generalize mxA F 0 (iN 0, -iN 1) j = s
    obtain ⟨x, y⟩ := s
    show f_X7_salt_l54_16 (71 + k) (75 + 4 * p) (f + 1) x y (iN j) H = _
    conv => lhs; unfold f_X7_salt_l54_16
    by_cases cq : F j ≤ y
    · simp (disch := omega) only [chk_t, beq_self_eq_true, nm_s, bj1_s, bj2_s, bj3_s, mo_1, mo_0, l_0, l_1, l_2, l_3, l_4, l_5, l_6, l_7, l_8, l_9, l_10, l_11, l_12, l_13, l_14, l_15, l_16, l_17, l_18, l_19, l_20, l_21, l_24, l_30, l_31, l_32, l_36, l_40, l_41, l_42, l_43, l_44, l_45, l_46, l_47, l_48, l_49, l_50, l_51, l_52, l_57, l_58, l_60, l_61, l_64, l_72, l_80, l_92, l_98, l_99, l_100, l_102, l_105, l_111, l_112, l_114, l_115, l_116, l_117, l_120, l_144, l_200, l_201, l_240, l_300, l_320, l_400, l_500, l_512, l_550, l_560, l_649, l_650, l_1000, l_1032, l_1400, l_2000, l_4000, l_10000, l_268435455, iN_add, iN_sub, iN_mul, iN_le_t, iN_le_f, iN_lt_t, iN_lt_f, iN_eq_f, inb_iN, ix_iN, isZ_0, isZ_1, ↓reduceIte, eq_self, s1, hA, lA, if_pos cq]
    · simp (disch := omega) only [chk_t, beq_self_eq_true, nm_s, bj1_s, bj2_s, bj3_s, mo_1, mo_0, l_0, l_1, l_2, l_3, l_4, l_5, l_6, l_7, l_8, l_9, l_10, l_11, l_12, l_13, l_14, l_15, l_16, l_17, l_18, l_19, l_20, l_21, l_24, l_30, l_31, l_32, l_36, l_40, l_41, l_42, l_43, l_44, l_45, l_46, l_47, l_48, l_49, l_50, l_51, l_52, l_57, l_58, l_60, l_61, l_64, l_72, l_80, l_92, l_98, l_99, l_100, l_102, l_105, l_111, l_112, l_114, l_115, l_116, l_117, l_120, l_144, l_200, l_201, l_240, l_300, l_320, l_400, l_500, l_512, l_550, l_560, l_649, l_650, l_1000, l_1032, l_1400, l_2000, l_4000, l_10000, l_268435455, iN_add, iN_sub, iN_mul, iN_le_t, iN_le_f, iN_lt_t, iN_lt_f, iN_eq_f, inb_iN, ix_iN, isZ_0, isZ_1, ↓reduceIte, eq_self, s1, hA, lA, if_neg cq]) (by
    intro f x y H
    show f_X7_salt_l54_16 (71 + k) (75 + 4 * p) (f + 1) x y (iN 61) H = _
    unfold f_X7_salt_l54_16
    simp (disch := omega) only [chk_t, beq_self_eq_true, nm_s, bj1_s, bj2_s, bj3_s, mo_1, mo_0, l_0, l_1, l_2, l_3, l_4, l_5, l_6, l_7, l_8, l_9, l_10, l_11, l_12, l_13, l_14, l_15, l_16, l_17, l_18, l_19, l_20, l_21, l_24, l_30, l_31, l_32, l_36, l_40, l_41, l_42, l_43, l_44, l_45, l_46, l_47, l_48, l_49, l_50, l_51, l_52, l_57, l_58, l_60, l_61, l_64, l_72, l_80, l_92, l_98, l_99, l_100, l_102, l_105, l_111, l_112, l_114, l_115, l_116, l_117, l_120, l_144, l_200, l_201, l_240, l_300, l_320, l_400, l_500, l_512, l_550, l_560, l_649, l_650, l_1000, l_1032, l_1400, l_2000, l_4000, l_10000, l_268435455, iN_add, iN_sub, iN_mul, iN_le_t, iN_le_f, iN_lt_t, iN_lt_f, iN_eq_f, inb_iN, ix_iN, isZ_0, isZ_1, ↓reduceIte, eq_self]) (by omega) (n := FU) (fu_lt (by omega)) (G := G) cc_refl
  rw [mxA_0] at hB
  have hB : f_X7_salt_l54_16 (71 + k) (75 + 4 * p) FU (iN 0) (-iN 1) (iN 0) G = some ((mxA F 0 (iN 0, -iN 1) 61).1, (mxA F 0 (iN 0, -iN 1) 61).2, B) := hB
  refine ⟨B, ?_, ccB⟩
  rw [← hF]
  unfold f_X7_salt f_X7_told
  simp (disch := omega) only [chk_t, beq_self_eq_true, nm_s, bj1_s, bj2_s, bj3_s, mo_1, mo_0, l_0, l_1, l_2, l_3, l_4, l_5, l_6, l_7, l_8, l_9, l_10, l_11, l_12, l_13, l_14, l_15, l_16, l_17, l_18, l_19, l_20, l_21, l_24, l_30, l_31, l_32, l_36, l_40, l_41, l_42, l_43, l_44, l_45, l_46, l_47, l_48, l_49, l_50, l_51, l_52, l_57, l_58, l_60, l_61, l_64, l_72, l_80, l_92, l_98, l_99, l_100, l_102, l_105, l_111, l_112, l_114, l_115, l_116, l_117, l_120, l_144, l_200, l_201, l_240, l_300, l_320, l_400, l_500, l_512, l_550, l_560, l_649, l_650, l_1000, l_1032, l_1400, l_2000, l_4000, l_10000, l_268435455, iN_add, iN_sub, iN_mul, iN_le_t, iN_le_f, iN_lt_t, iN_lt_f, iN_eq_f, inb_iN, ix_iN, isZ_0, isZ_1, ↓reduceIte, eq_self, c1, c2, kd_b ho, kd_b ho2, r1, t1, hB]
theorem thick_c {k p n mm a b : Nat} {X : Nat → Int32} {G : G_} (hk : k < 4) (r1 : G.1 (71 + k) 0 = iN 1) (hc : cSl (71 + k) X G) (hX : slR X n) (hp : p < 4) (t1 : G.1 (75 + 4 * p) 3 = iN 1) (hcp : cPl (75 + 4 * p) X G) (hP : plR X mm) (hab : a ≤ b) (hb : b ≤ 4000) : ∃ A, f_X7_thick (iN k) (iN p) (iN a) (iN b) G = some ((thA (fun j => inS (iN a) (iN b) (midM (mkS (up X 0 (iN j))))) 21).1, sI A 0 16 (thA (fun j => inS (iN a) (iN b) (midM (mkS (up X 0 (iN j))))) 21).2) ∧ cc G A := by
  obtain ⟨c1, ho⟩ := slabAt_t hk G
  obtain ⟨c2, ho2⟩ := planAt_t hp G
  have w7 := isSpan_1 hab hb
  have hs3 : G.1 (71 + k) 3 = X 2 := hc.2.2.1
  have hXs : ∀ s, 3 ≤ s → s ≤ 20 → slR (up X 0 (iN s)) s := fun s h1 h2 => ⟨⟨up_eq, h1, h2⟩, by rw [up_ne (by omega)]; exact hX.2⟩
  have hPs : ∀ s, plR (up X 0 (iN s)) mm := fun s => pl_keep hP (fun p h1 h2 => up_ne (by omega))
  have wm := fun s h1 h2 => wf_mk (hXs s h1 h2) (hPs s)
  obtain ⟨F, hF⟩ : ∃ F : Nat → Int32, F = fun j => inS (iN a) (iN b) (midM (mkS (up X 0 (iN j)))) := ⟨_, rfl⟩
  have hFt : ∀ j, inS (iN a) (iN b) (midM (mkS (up X 0 (iN j)))) = F j := fun j => by rw [hF]
  obtain ⟨B, hB, ccB⟩ := loop_p (fun f v s H => f_X7_thick_l67_18 (iN a) (iN b) (71 + k) (75 + 4 * p) f s.1 s.2 v H) (fun _ H => cc G H) (thA F) 3 21 (by
    intro f j H h3 h4 hI
    have q1 : H.1 (71 + k) = G.1 (71 + k) := cc_at hI (by omega)
    obtain ⟨A, hA, cA, fA⟩ := mkPl_ok (o := 17) (X := up X 0 (iN j)) (G := H) rfl ho (by omega) ho2 (by omega) (hXs j (by omega) (by omega)) (by rw [up_ne (by omega), q1]; exact hc.2.1) (by rw [up_ne (by omega), q1]; exact hc.2.2.2) (hPs j) (cPl_keep hP (fun p h1 h2 => up_ne (by omega)) (cPl_cc hcp (fun q h1 h2 => cc_at hI (by omega))))
    rw [up_ne (by omega)] at hA
    have lA := midM_ok (o := 17) rfl (wm j (by omega) (by omega)).1 cA
    have s3 : H.1 (71 + k) 3 = X 2 := by rw [q1]; exact hs3
    have iA : f_X7_within (midM (mkS (up X 0 (iN j)))) (iN a) (iN b) = some (F j) := by rw [in7, hFt]
    refine ⟨A, cc_tr hI (cc_fr fA (by omega) (by omega)), ?_⟩
    rw [thA_s (by omega)]
    generalize thA F j = s
    obtain ⟨x, y⟩ := s
    show f_X7_thick_l67_18 (iN a) (iN b) (71 + k) (75 + 4 * p) (f + 1) x y (iN j) H = _
    conv => lhs; unfold f_X7_thick_l67_18
    by_cases cq : F j = iN 0
    · rw [if_pos cq]
      rw [cq] at iA
      simp (disch := omega) only [chk_t, beq_self_eq_true, nm_s, bj1_s, bj2_s, bj3_s, mo_1, mo_0, l_0, l_1, l_2, l_3, l_4, l_5, l_6, l_7, l_8, l_9, l_10, l_11, l_12, l_13, l_14, l_15, l_16, l_17, l_18, l_19, l_20, l_21, l_24, l_30, l_31, l_32, l_36, l_40, l_41, l_42, l_43, l_44, l_45, l_46, l_47, l_48, l_49, l_50, l_51, l_52, l_57, l_58, l_60, l_61, l_64, l_72, l_80, l_92, l_98, l_99, l_100, l_102, l_105, l_111, l_112, l_114, l_115, l_116, l_117, l_120, l_144, l_200, l_201, l_240, l_300, l_320, l_400, l_500, l_512, l_550, l_560, l_649, l_650, l_1000, l_1032, l_1400, l_2000, l_4000, l_10000, l_268435455, iN_add, iN_sub, iN_mul, iN_le_t, iN_le_f, iN_lt_t, iN_lt_f, iN_eq_f, inb_iN, ix_iN, isZ_0, isZ_1, ↓reduceIte, eq_self, s3, hA, lA, iA]
    · rw [if_neg cq]
      have cq := eq_false cq
      simp (disch := omega) only [chk_t, beq_self_eq_true, nm_s, bj1_s, bj2_s, bj3_s, mo_1, mo_0, l_0, l_1, l_2, l_3, l_4, l_5, l_6, l_7, l_8, l_9, l_10, l_11, l_12, l_13, l_14, l_15, l_16, l_17, l_18, l_19, l_20, l_21, l_24, l_30, l_31, l_32, l_36, l_40, l_41, l_42, l_43, l_44, l_45, l_46, l_47, l_48, l_49, l_50, l_51, l_52, l_57, l_58, l_60, l_61, l_64, l_72, l_80, l_92, l_98, l_99, l_100, l_102, l_105, l_111, l_112, l_114, l_115, l_116, l_117, l_120, l_144, l_200, l_201, l_240, l_300, l_320, l_400, l_500, l_512, l_550, l_560, l_649, l_650, l_1000, l_1032, l_1400, l_2000, l_4000, l_10000, l_268435455, iN_add, iN_sub, iN_mul, iN_le_t, iN_le_f, iN_lt_t, iN_lt_f, iN_eq_f, inb_iN, ix_iN, isZ_0, isZ_1, ↓reduceIte, eq_self, s3, hA, lA, iA, cq, ite_so]) (by
    intro f x y H
    show f_X7_thick_l67_18 (iN a) (iN b) (71 + k) (75 + 4 * p) (f + 1) x y (iN 21) H = _
    unfold f_X7_thick_l67_18
    simp (disch := omega) only [chk_t, beq_self_eq_true, nm_s, bj1_s, bj2_s, bj3_s, mo_1, mo_0, l_0, l_1, l_2, l_3, l_4, l_5, l_6, l_7, l_8, l_9, l_10, l_11, l_12, l_13, l_14, l_15, l_16, l_17, l_18, l_19, l_20, l_21, l_24, l_30, l_31, l_32, l_36, l_40, l_41, l_42, l_43, l_44, l_45, l_46, l_47, l_48, l_49, l_50, l_51, l_52, l_57, l_58, l_60, l_61, l_64, l_72, l_80, l_92, l_98, l_99, l_100, l_102, l_105, l_111, l_112, l_114, l_115, l_116, l_117, l_120, l_144, l_200, l_201, l_240, l_300, l_320, l_400, l_500, l_512, l_550, l_560, l_649, l_650, l_1000, l_1032, l_1400, l_2000, l_4000, l_10000, l_268435455, iN_add, iN_sub, iN_mul, iN_le_t, iN_le_f, iN_lt_t, iN_lt_f, iN_eq_f, inb_iN, ix_iN, isZ_0, isZ_1, ↓reduceIte, eq_self]) (by omega) (n := FU) (fu_lt (by omega)) (G := G) cc_refl
  have e0 : thA F 3 = (iN 0, -iN 9) := rfl
  rw [e0] at hB
  have hB : f_X7_thick_l67_18 (iN a) (iN b) (71 + k) (75 + 4 * p) FU (iN 0) (-iN 9) (iN 3) G = some ((thA F 21).1, (thA F 21).2, B) := hB
  refine ⟨B, ?_, ccB⟩
  rw [← hF]
  unfold f_X7_thick f_X7_told
  simp (disch := omega) only [chk_t, beq_self_eq_true, nm_s, bj1_s, bj2_s, bj3_s, mo_1, mo_0, l_0, l_1, l_2, l_3, l_4, l_5, l_6, l_7, l_8, l_9, l_10, l_11, l_12, l_13, l_14, l_15, l_16, l_17, l_18, l_19, l_20, l_21, l_24, l_30, l_31, l_32, l_36, l_40, l_41, l_42, l_43, l_44, l_45, l_46, l_47, l_48, l_49, l_50, l_51, l_52, l_57, l_58, l_60, l_61, l_64, l_72, l_80, l_92, l_98, l_99, l_100, l_102, l_105, l_111, l_112, l_114, l_115, l_116, l_117, l_120, l_144, l_200, l_201, l_240, l_300, l_320, l_400, l_500, l_512, l_550, l_560, l_649, l_650, l_1000, l_1032, l_1400, l_2000, l_4000, l_10000, l_268435455, iN_add, iN_sub, iN_mul, iN_le_t, iN_le_f, iN_lt_t, iN_lt_f, iN_eq_f, inb_iN, ix_iN, isZ_0, isZ_1, ↓reduceIte, eq_self, c1, c2, kd_b ho, kd_b ho2, w7, r1, t1, hB]
def saW (q : Nat) (X : Nat → Int32) (j : Nat) : Int32 := midW (ovS (iN 3) (iN q) (bgS X) j)
def saZ (q : Nat) (X : Nat → Int32) : Int32 := tillF (fun j => !decide (safT (fun j => safG (saW q X j)) j < iN 300)) 200 0
theorem safe_c {k n q : Nat} {X : Nat → Int32} {G : G_} (hk : k < 4) (r1 : G.1 (71 + k) 0 = iN 1) (hc : cSl (71 + k) X G) (hX : slR X n) (hX4 : X 4 = iN 0) (hq : 2 ≤ q ∧ q ≤ 30) : ∃ A, (f_X7_safe (iN k) (iN q) G = some (saZ q X, A) ∧ cc G A ∧ saZ q X = -iN 9) ∨ ∃ y, f_X7_safe (iN k) (iN q) G = some (saZ q X, sI A 0 16 y) ∧ cc G A ∧ ∃ j, 1 ≤ j ∧ j ≤ 200 ∧ saZ q X = iN j := by
  obtain ⟨c1, ho⟩ := slabAt_t hk G
  have w7 := isHeat_1 hq
  have hqR := qR_N hq.2
  have wX0 := wf_bg hX (mD_0 hX4)
  have wX := fun j => wf_ov (k := j) (kd_ := iN 3) wX0 hqR
  obtain ⟨W, hW⟩ : ∃ W : Nat → Int32, W = fun j => midW (ovS (iN 3) (iN q) (bgS X) j) := ⟨_, rfl⟩
  have hWt : ∀ j, midW (ovS (iN 3) (iN q) (bgS X) j) = W j := fun j => by rw [hW]
  have hWr : ∀ j, 0 ≤ (W j).toInt ∧ (W j).toInt ≤ 3000 := fun j => by
    have w := wX j
    have hn := w.1.2
    rw [← hWt]
    unfold midW
    exact w.2.2.1 _ (by rw [okN_n w.1]; omega)
  obtain ⟨S, hS⟩ : ∃ S : Nat → Int32, S = safT (fun j => safG (W j)) := ⟨_, rfl⟩
  have hS0 : S 0 = iN 0 := by rw [hS]; rfl
  have hSs : ∀ j, S (j + 1) = S j + safG (W (j + 1)) := fun j => by rw [hS]; rfl
  obtain ⟨z, hz⟩ : ∃ z : Int32, z = tillF (fun j => !decide (S j < iN 300)) 200 0 := ⟨_, rfl⟩
  obtain ⟨A, hA, cA, fA⟩ := begin_ok (o := 17) (X := X) (G := G) rfl ho (by omega) hX.1 hc.2.1 hc.2.2.2 hX4
  have s1 : G.1 (71 + k) 1 = iN n := hc.1.trans hX.1.1
  have s2 : G.1 (71 + k) 3 = X 2 := hc.2.2.1
  have kC := loop_iv (fun f v (s : Int32 × G_) => f_X7_safe_l54_12 (iN q) f s.1 v s.2) (fun j s => 1 ≤ j ∧ tillF (fun j => !decide (S j < iN 300)) (201 - j) (j - 1) = z ∧ s.1 = S (j - 1) ∧ cD 17 (ovS (iN 3) (iN q) (bgS X) (j - 1)) s.2 ∧ cc G s.2)
    (fun r => ∃ C, cc G C ∧ ((z = -iN 9 ∧ r = some (-iN 9, C)) ∨ (∃ j, 1 ≤ j ∧ j ≤ 200 ∧ z = iN j ∧ r = some (iN j, sI C 0 16 (W j))))) 1 201 (by
    intro f j ⟨x, H⟩ h3 h5 ⟨_, i0, ix_, i1, i2⟩
    have ix_ : x = _ := ix_
    obtain ⟨i, rfl⟩ : ∃ i, j = i + 1 := ⟨j - 1, by omega⟩
    rw [show i + 1 - 1 = i by omega] at i0 i1 ix_
    subst ix_
    obtain ⟨C, hC, cC, fC⟩ := heat_ok (o := 17) (k := iN 3) (q := iN q) rfl (wX i) hqR i1
    have cC : cD 17 (ovS (iN 3) (iN q) (bgS X) (i + 1)) C := cC
    have ccC := cc_tr i2 (cc_fr fC (by omega) (by omega))
    have m1 := midW_ok (o := 17) rfl (wX (i + 1)).1 cC
    rw [hWt] at m1
    have hg := safG_c (hWr (i + 1)).1 (hWr (i + 1)).2
    rw [show 201 - (i + 1) = (200 - (i + 1)) + 1 by omega] at i0
    unfold tillF at i0
    by_cases c : S (i + 1) < iN 300
    · left
      rw [if_neg (by rw [decide_eq_true c]; decide)] at i0
      refine ⟨(S (i + 1), C), ⟨by omega, by rw [show 201 - (i + 1 + 1) = 200 - (i + 1) by omega]; exact i0, rfl, cC, ccC⟩, ?_⟩
      show f_X7_safe_l54_12 (iN q) (f + 1) (S i) (iN (i + 1)) H = f_X7_safe_l54_12 (iN q) f (S (i + 1)) (iN (i + 1 + 1)) C
      conv => lhs; unfold f_X7_safe_l54_12
      rw [hSs] at c ⊢
      simp (disch := omega) only [chk_t, beq_self_eq_true, nm_s, bj1_s, bj2_s, bj3_s, mo_1, mo_0, l_0, l_1, l_2, l_3, l_4, l_5, l_6, l_7, l_8, l_9, l_10, l_11, l_12, l_13, l_14, l_15, l_16, l_17, l_18, l_19, l_20, l_21, l_24, l_30, l_31, l_32, l_36, l_40, l_41, l_42, l_43, l_44, l_45, l_46, l_47, l_48, l_49, l_50, l_51, l_52, l_57, l_58, l_60, l_61, l_64, l_72, l_80, l_92, l_98, l_99, l_100, l_102, l_105, l_111, l_112, l_114, l_115, l_116, l_117, l_120, l_144, l_200, l_201, l_240, l_300, l_320, l_400, l_500, l_512, l_550, l_560, l_649, l_650, l_1000, l_1032, l_1400, l_2000, l_4000, l_10000, l_268435455, iN_add, iN_sub, iN_mul, iN_le_t, iN_le_f, iN_lt_t, iN_lt_f, iN_eq_f, inb_iN, ix_iN, isZ_0, isZ_1, ↓reduceIte, eq_self, hC, m1, hg, if_pos c]
    · right
      rw [if_pos (by rw [decide_eq_false c]; decide)] at i0
      refine ⟨C, ccC, Or.inr ⟨i + 1, by omega, by omega, i0.symm, ?_⟩⟩
      show f_X7_safe_l54_12 (iN q) (f + 1) (S i) (iN (i + 1)) H = _
      rw [hSs] at c
      unfold f_X7_safe_l54_12 f_X7_told
      simp (disch := omega) only [chk_t, beq_self_eq_true, nm_s, bj1_s, bj2_s, bj3_s, mo_1, mo_0, l_0, l_1, l_2, l_3, l_4, l_5, l_6, l_7, l_8, l_9, l_10, l_11, l_12, l_13, l_14, l_15, l_16, l_17, l_18, l_19, l_20, l_21, l_24, l_30, l_31, l_32, l_36, l_40, l_41, l_42, l_43, l_44, l_45, l_46, l_47, l_48, l_49, l_50, l_51, l_52, l_57, l_58, l_60, l_61, l_64, l_72, l_80, l_92, l_98, l_99, l_100, l_102, l_105, l_111, l_112, l_114, l_115, l_116, l_117, l_120, l_144, l_200, l_201, l_240, l_300, l_320, l_400, l_500, l_512, l_550, l_560, l_649, l_650, l_1000, l_1032, l_1400, l_2000, l_4000, l_10000, l_268435455, iN_add, iN_sub, iN_mul, iN_le_t, iN_le_f, iN_lt_t, iN_lt_f, iN_eq_f, inb_iN, ix_iN, isZ_0, isZ_1, ↓reduceIte, eq_self, hC, m1, hg, if_neg c]) (by
    intro f ⟨x, H⟩ ⟨_, i0, _, i1, i2⟩
    refine ⟨H, i2, Or.inl ⟨i0.symm, ?_⟩⟩
    show f_X7_safe_l54_12 (iN q) (f + 1) x (iN 201) H = _
    unfold f_X7_safe_l54_12
    simp (disch := omega) only [chk_t, beq_self_eq_true, nm_s, bj1_s, bj2_s, bj3_s, mo_1, mo_0, l_0, l_1, l_2, l_3, l_4, l_5, l_6, l_7, l_8, l_9, l_10, l_11, l_12, l_13, l_14, l_15, l_16, l_17, l_18, l_19, l_20, l_21, l_24, l_30, l_31, l_32, l_36, l_40, l_41, l_42, l_43, l_44, l_45, l_46, l_47, l_48, l_49, l_50, l_51, l_52, l_57, l_58, l_60, l_61, l_64, l_72, l_80, l_92, l_98, l_99, l_100, l_102, l_105, l_111, l_112, l_114, l_115, l_116, l_117, l_120, l_144, l_200, l_201, l_240, l_300, l_320, l_400, l_500, l_512, l_550, l_560, l_649, l_650, l_1000, l_1032, l_1400, l_2000, l_4000, l_10000, l_268435455, iN_add, iN_sub, iN_mul, iN_le_t, iN_le_f, iN_lt_t, iN_lt_f, iN_eq_f, inb_iN, ix_iN, isZ_0, isZ_1, ↓reduceIte, eq_self]) (by omega) (n := FU) (fu_lt (by omega)) (s := (iN 0, A)) ⟨by omega, hz.symm, hS0.symm, cA, cc_fr fA (by omega) (by omega)⟩
  have ez : saZ q X = z := by rw [hz, hS, hW]; rfl
  have eC : f_X7_safe (iN k) (iN q) G = f_X7_safe_l54_12 (iN q) FU (iN 0) (iN 1) A := by
    unfold f_X7_safe
    simp (disch := omega) only [chk_t, beq_self_eq_true, nm_s, bj1_s, bj2_s, bj3_s, mo_1, mo_0, l_0, l_1, l_2, l_3, l_4, l_5, l_6, l_7, l_8, l_9, l_10, l_11, l_12, l_13, l_14, l_15, l_16, l_17, l_18, l_19, l_20, l_21, l_24, l_30, l_31, l_32, l_36, l_40, l_41, l_42, l_43, l_44, l_45, l_46, l_47, l_48, l_49, l_50, l_51, l_52, l_57, l_58, l_60, l_61, l_64, l_72, l_80, l_92, l_98, l_99, l_100, l_102, l_105, l_111, l_112, l_114, l_115, l_116, l_117, l_120, l_144, l_200, l_201, l_240, l_300, l_320, l_400, l_500, l_512, l_550, l_560, l_649, l_650, l_1000, l_1032, l_1400, l_2000, l_4000, l_10000, l_268435455, iN_add, iN_sub, iN_mul, iN_le_t, iN_le_f, iN_lt_t, iN_lt_f, iN_eq_f, inb_iN, ix_iN, isZ_0, isZ_1, ↓reduceIte, eq_self, c1, kd_b ho, w7, r1, s1, s2, hA]
  have kC : ∃ C, cc G C ∧ ((z = -iN 9 ∧ f_X7_safe_l54_12 (iN q) FU (iN 0) (iN 1) A = some (-iN 9, C)) ∨ (∃ j, 1 ≤ j ∧ j ≤ 200 ∧ z = iN j ∧ f_X7_safe_l54_12 (iN q) FU (iN 0) (iN 1) A = some (iN j, sI C 0 16 (W j)))) := kC
  rw [ez, eC]
  obtain ⟨C, ccC, ⟨z1, k1⟩ | ⟨j, j1, j2, z1, k1⟩⟩ := kC
  · exact ⟨C, Or.inl ⟨by rw [k1, z1], ccC, z1⟩⟩
  · exact ⟨C, Or.inr ⟨_, by rw [k1, z1], ccC, j, j1, j2, z1⟩⟩
def ruF (q t v : Nat) (X : Nat → Int32) (x : Nat) : Int32 := sumS (fun i => if iN x * iN (3 + i) < trS (iN q) (iN t) (iN v) X (3 + i) then trS (iN q) (iN t) (iN v) X (3 + i) - iN x * iN (3 + i) else iN x * iN (3 + i) - trS (iN q) (iN t) (iN v) X (3 + i)) 18
theorem rule_c {k n q t v : Nat} {X : Nat → Int32} {G : G_} (hk : k < 4) (r1 : G.1 (71 + k) 0 = iN 1) (hc : cSl (71 + k) X G) (hX : slR X n) (hX4 : X 4 = iN 0) (hq : 10 ≤ q ∧ q ≤ 30) (ht : 1 ≤ t ∧ t ≤ 60) (hv : v ≤ 2000) : ∃ A, f_X7_rule (iN k) (iN q) (iN t) (iN v) G = some ((fiA (ruF q t v X) (-iN 9, iN 0) 21).1, sI A 0 16 (fiA (ruF q t v X) (-iN 9, iN 0) 21).2) ∧ cc G A := by
  obtain ⟨c1, ho⟩ := slabAt_t hk G
  have w7 := isWay_1 hq ht
  have v7 := in_1 (a := 0) (k := v) (b := 2000) (by omega) (by omega)
  have hXs : ∀ s, 3 ≤ s → s ≤ 20 → slR (up X 0 (iN s)) s := fun s h1 h2 => ⟨⟨up_eq, h1, h2⟩, by rw [up_ne (by omega)]; exact hX.2⟩
  obtain ⟨T, hT⟩ : ∃ T : Nat → Int32, T = trS (iN q) (iN t) (iN v) X := ⟨_, rfl⟩
  have hTt : ∀ j, (if tillS (iN q) (iN t) (iN v) (bgS (up X 0 (iN j))) = -iN 9 then iN 200 else tillS (iN q) (iN t) (iN v) (bgS (up X 0 (iN j)))) = T j := fun j => by rw [hT]; rfl
  have hTn : ∀ j, ∃ i, 1 ≤ i ∧ i ≤ 200 ∧ T j = iN i := fun j => by rw [hT]; exact tr_N _ _ _ _ _
  have hL : ∃ C, f_X7_rule_l51_11 (iN q) (iN t) (iN v) (71 + k) FU (iN 3) G = some C ∧ cc G C ∧ ∀ i, 3 ≤ i → i < 21 → C.1 49 i = T i := by
    refine loop_h (fun f z s => f_X7_rule_l51_11 (iN q) (iN t) (iN v) (71 + k) f z s) (fun j C => cc G C ∧ ∀ i, 3 ≤ i → i < j → C.1 49 i = T i) _ 3 21 ?_ ?_ (by omega) (n := FU) (fu_lt (by omega)) ⟨cc_refl, fun i h1 h2 => by omega⟩
    · intro f j H h3 h4 ⟨i1, i2⟩
      have q1 : H.1 (71 + k) = G.1 (71 + k) := cc_at i1 (by omega)
      obtain ⟨A, hA, fA⟩ := till_ok (o := 17) (X := up X 0 (iN j)) (v := iN v) (G := H) rfl ho (by omega) (hXs j (by omega) (by omega)) (by rw [up_ne (by omega)]; exact hX4) (by rw [q1, up_ne (by omega)]; exact hc.2.1) (by rw [q1, up_ne (by omega)]; exact hc.2.2.1) (by rw [q1, up_ne (by omega)]; exact hc.2.2.2) (qR_N hq.2) (t1N ht.1 (by omega))
      refine ⟨sI A 49 j (T j), ⟨cc_sI (cc_tr i1 (cc_fr fA (by omega) (by omega))) (by omega) (by omega), fun i h1 h2 => ?_⟩, ?_⟩
      · by_cases c : i = j
        · subst c; exact sI_eq
        · rw [sI_j c, fA.1.1 49 (by omega)]; exact i2 i h1 (by omega)
      · show f_X7_rule_l51_11 (iN q) (iN t) (iN v) (71 + k) (f + 1) (iN j) H = _
        conv => lhs; unfold f_X7_rule_l51_11
        simp (disch := omega) only [chk_t, beq_self_eq_true, nm_s, bj1_s, bj2_s, bj3_s, mo_1, mo_0, l_0, l_1, l_2, l_3, l_4, l_5, l_6, l_7, l_8, l_9, l_10, l_11, l_12, l_13, l_14, l_15, l_16, l_17, l_18, l_19, l_20, l_21, l_24, l_30, l_31, l_32, l_36, l_40, l_41, l_42, l_43, l_44, l_45, l_46, l_47, l_48, l_49, l_50, l_51, l_52, l_57, l_58, l_60, l_61, l_64, l_72, l_80, l_92, l_98, l_99, l_100, l_102, l_105, l_111, l_112, l_114, l_115, l_116, l_117, l_120, l_144, l_200, l_201, l_240, l_300, l_320, l_400, l_500, l_512, l_550, l_560, l_649, l_650, l_1000, l_1032, l_1400, l_2000, l_4000, l_10000, l_268435455, iN_add, iN_sub, iN_mul, iN_le_t, iN_le_f, iN_lt_t, iN_lt_f, iN_eq_f, inb_iN, ix_iN, isZ_0, isZ_1, ↓reduceIte, eq_self, hA, ite_so, hTt]
    · intro f H hI
      refine ⟨H, ?_, hI⟩
      show f_X7_rule_l51_11 (iN q) (iN t) (iN v) (71 + k) (f + 1) (iN 21) H = _
      unfold f_X7_rule_l51_11
      simp (disch := omega) only [chk_t, beq_self_eq_true, nm_s, bj1_s, bj2_s, bj3_s, mo_1, mo_0, l_0, l_1, l_2, l_3, l_4, l_5, l_6, l_7, l_8, l_9, l_10, l_11, l_12, l_13, l_14, l_15, l_16, l_17, l_18, l_19, l_20, l_21, l_24, l_30, l_31, l_32, l_36, l_40, l_41, l_42, l_43, l_44, l_45, l_46, l_47, l_48, l_49, l_50, l_51, l_52, l_57, l_58, l_60, l_61, l_64, l_72, l_80, l_92, l_98, l_99, l_100, l_102, l_105, l_111, l_112, l_114, l_115, l_116, l_117, l_120, l_144, l_200, l_201, l_240, l_300, l_320, l_400, l_500, l_512, l_550, l_560, l_649, l_650, l_1000, l_1032, l_1400, l_2000, l_4000, l_10000, l_268435455, iN_add, iN_sub, iN_mul, iN_le_t, iN_le_f, iN_lt_t, iN_lt_f, iN_eq_f, inb_iN, ix_iN, isZ_0, isZ_1, ↓reduceIte, eq_self]
  obtain ⟨C, hC, ccC, hCT⟩ := hL
  obtain ⟨F, hF⟩ : ∃ F : Nat → Int32, F = fun x => sumS (fun i => if iN x * iN (3 + i) < T (3 + i) then T (3 + i) - iN x * iN (3 + i) else iN x * iN (3 + i) - T (3 + i)) 18 := ⟨_, rfl⟩
  have hFt : ∀ x, sumS (fun i => if iN x * iN (3 + i) < T (3 + i) then T (3 + i) - iN x * iN (3 + i) else iN x * iN (3 + i) - T (3 + i)) 18 = F x := fun x => by rw [hF]
  have cIn : ∀ (u w : Int32) (x : Nat), 1 ≤ x → x ≤ 20 → f_X7_rule_l128_26 u w (iN x) C FU (iN 0) (iN 3) = some (F x) := by
    intro u w x hx1 hx2
    have key := loop_cl (fun f z s => f_X7_rule_l128_26 u w (iN x) C f s z) (fun j => sumS (fun i => if iN x * iN (3 + i) < T (3 + i) then T (3 + i) - iN x * iN (3 + i) else iN x * iN (3 + i) - T (3 + i)) (j - 3)) 3 21 (some (F x)) ?_ ?_ (by omega) (n := FU) (fu_lt (by omega))
    · exact key
    · intro f j h3 h4
      obtain ⟨i, rfl⟩ : ∃ i, j = 3 + i := ⟨j - 3, by omega⟩
      obtain ⟨τ, hτ1, hτ2, hτ⟩ := hTn (3 + i)
      have eab : ab (iN (x * (3 + i)) - iN τ) = if iN (x * (3 + i)) < iN τ then iN τ - iN (x * (3 + i)) else iN (x * (3 + i)) - iN τ := ab_far (by
        have : x * (3 + i) ≤ 20 * 20 := Nat.mul_le_mul (by omega) (by omega)
        rw [li (by omega)]; omega) (by rw [li (by omega)]; omega)
      have hmul : x * (3 + i) ≤ 20 * 20 := Nat.mul_le_mul (by omega) (by omega)
      rw [show 3 + i - 3 = i by omega, show 3 + i + 1 - 3 = i + 1 by omega]
      show f_X7_rule_l128_26 u w (iN x) C (f + 1) _ (iN (3 + i)) = f_X7_rule_l128_26 u w (iN x) C f (sumS _ i + (if iN x * iN (3 + i) < T (3 + i) then T (3 + i) - iN x * iN (3 + i) else iN x * iN (3 + i) - T (3 + i))) (iN (3 + i + 1))
      generalize sumS (fun i => if iN x * iN (3 + i) < T (3 + i) then T (3 + i) - iN x * iN (3 + i) else iN x * iN (3 + i) - T (3 + i)) i = sm
      conv => lhs; unfold f_X7_rule_l128_26
      rw [hτ, iN_mul, ← eab]
      simp (disch := omega) only [chk_t, beq_self_eq_true, nm_s, bj1_s, bj2_s, bj3_s, mo_1, mo_0, l_0, l_1, l_2, l_3, l_4, l_5, l_6, l_7, l_8, l_9, l_10, l_11, l_12, l_13, l_14, l_15, l_16, l_17, l_18, l_19, l_20, l_21, l_24, l_30, l_31, l_32, l_36, l_40, l_41, l_42, l_43, l_44, l_45, l_46, l_47, l_48, l_49, l_50, l_51, l_52, l_57, l_58, l_60, l_61, l_64, l_72, l_80, l_92, l_98, l_99, l_100, l_102, l_105, l_111, l_112, l_114, l_115, l_116, l_117, l_120, l_144, l_200, l_201, l_240, l_300, l_320, l_400, l_500, l_512, l_550, l_560, l_649, l_650, l_1000, l_1032, l_1400, l_2000, l_4000, l_10000, l_268435455, iN_add, iN_sub, iN_mul, iN_le_t, iN_le_f, iN_lt_t, iN_lt_f, iN_eq_f, inb_iN, ix_iN, isZ_0, isZ_1, ↓reduceIte, eq_self, hCT, hτ]
    · intro f
      show f_X7_rule_l128_26 u w (iN x) C (f + 1) _ (iN 21) = _
      rw [← hFt]
      unfold f_X7_rule_l128_26
      simp (disch := omega) only [chk_t, beq_self_eq_true, nm_s, bj1_s, bj2_s, bj3_s, mo_1, mo_0, l_0, l_1, l_2, l_3, l_4, l_5, l_6, l_7, l_8, l_9, l_10, l_11, l_12, l_13, l_14, l_15, l_16, l_17, l_18, l_19, l_20, l_21, l_24, l_30, l_31, l_32, l_36, l_40, l_41, l_42, l_43, l_44, l_45, l_46, l_47, l_48, l_49, l_50, l_51, l_52, l_57, l_58, l_60, l_61, l_64, l_72, l_80, l_92, l_98, l_99, l_100, l_102, l_105, l_111, l_112, l_114, l_115, l_116, l_117, l_120, l_144, l_200, l_201, l_240, l_300, l_320, l_400, l_500, l_512, l_550, l_560, l_649, l_650, l_1000, l_1032, l_1400, l_2000, l_4000, l_10000, l_268435455, iN_add, iN_sub, iN_mul, iN_le_t, iN_le_f, iN_lt_t, iN_lt_f, iN_eq_f, inb_iN, ix_iN, isZ_0, isZ_1, ↓reduceIte, eq_self]
  have cOut : ∃ r, f_X7_rule_l115_23 C FU (iN 0) (iN 0) (iN 1) = some r ∧ r = fiA F (iN 0, iN 0) 21 := by
    refine loop_h (fun f z (s : Int32 × Int32) => f_X7_rule_l115_23 C f s.1 s.2 z) (fun j s => s = fiA F (iN 0, iN 0) j) _ 1 21 ?_ ?_ (by omega) (n := FU) (fu_lt (by omega)) (s := (iN 0, iN 0)) fiA_1.symm
    · intro f j s h3 h4 hs
      subst hs
      refine ⟨_, rfl, ?_⟩
      by_cases c0 : j = 1
      · subst c0
        rw [fiA_1, fiA_2]
        show f_X7_rule_l115_23 C (f + 1) (iN 0) (iN 0) (iN 1) = _
        conv => lhs; unfold f_X7_rule_l115_23
        simp (disch := omega) only [chk_t, beq_self_eq_true, nm_s, bj1_s, bj2_s, bj3_s, mo_1, mo_0, l_0, l_1, l_2, l_3, l_4, l_5, l_6, l_7, l_8, l_9, l_10, l_11, l_12, l_13, l_14, l_15, l_16, l_17, l_18, l_19, l_20, l_21, l_24, l_30, l_31, l_32, l_36, l_40, l_41, l_42, l_43, l_44, l_45, l_46, l_47, l_48, l_49, l_50, l_51, l_52, l_57, l_58, l_60, l_61, l_64, l_72, l_80, l_92, l_98, l_99, l_100, l_102, l_105, l_111, l_112, l_114, l_115, l_116, l_117, l_120, l_144, l_200, l_201, l_240, l_300, l_320, l_400, l_500, l_512, l_550, l_560, l_649, l_650, l_1000, l_1032, l_1400, l_2000, l_4000, l_10000, l_268435455, iN_add, iN_sub, iN_mul, iN_le_t, iN_le_f, iN_lt_t, iN_lt_f, iN_eq_f, inb_iN, ix_iN, isZ_0, isZ_1, ↓reduceIte, eq_self, cIn]
      · rw [fiA_s (j := j) (by omega)]
        obtain ⟨b, hb1, hb2, hb3⟩ := fiA_b (f := F) (j := j) (s0 := (iN 0, iN 0)) (by omega)
        generalize fiA F (iN 0, iN 0) j = s at *
        obtain ⟨x, y⟩ := s
        have hb3 : x = iN b := hb3
        subst hb3
        show f_X7_rule_l115_23 C (f + 1) (iN b) y (iN j) = _
        conv => lhs; unfold f_X7_rule_l115_23
        by_cases cq : y ≤ F j
        · simp (disch := omega) only [chk_t, beq_self_eq_true, nm_s, bj1_s, bj2_s, bj3_s, mo_1, mo_0, l_0, l_1, l_2, l_3, l_4, l_5, l_6, l_7, l_8, l_9, l_10, l_11, l_12, l_13, l_14, l_15, l_16, l_17, l_18, l_19, l_20, l_21, l_24, l_30, l_31, l_32, l_36, l_40, l_41, l_42, l_43, l_44, l_45, l_46, l_47, l_48, l_49, l_50, l_51, l_52, l_57, l_58, l_60, l_61, l_64, l_72, l_80, l_92, l_98, l_99, l_100, l_102, l_105, l_111, l_112, l_114, l_115, l_116, l_117, l_120, l_144, l_200, l_201, l_240, l_300, l_320, l_400, l_500, l_512, l_550, l_560, l_649, l_650, l_1000, l_1032, l_1400, l_2000, l_4000, l_10000, l_268435455, iN_add, iN_sub, iN_mul, iN_le_t, iN_le_f, iN_lt_t, iN_lt_f, iN_eq_f, inb_iN, ix_iN, isZ_0, isZ_1, ↓reduceIte, eq_self, cIn, if_pos cq]
        · simp (disch := omega) only [chk_t, beq_self_eq_true, nm_s, bj1_s, bj2_s, bj3_s, mo_1, mo_0, l_0, l_1, l_2, l_3, l_4, l_5, l_6, l_7, l_8, l_9, l_10, l_11, l_12, l_13, l_14, l_15, l_16, l_17, l_18, l_19, l_20, l_21, l_24, l_30, l_31, l_32, l_36, l_40, l_41, l_42, l_43, l_44, l_45, l_46, l_47, l_48, l_49, l_50, l_51, l_52, l_57, l_58, l_60, l_61, l_64, l_72, l_80, l_92, l_98, l_99, l_100, l_102, l_105, l_111, l_112, l_114, l_115, l_116, l_117, l_120, l_144, l_200, l_201, l_240, l_300, l_320, l_400, l_500, l_512, l_550, l_560, l_649, l_650, l_1000, l_1032, l_1400, l_2000, l_4000, l_10000, l_268435455, iN_add, iN_sub, iN_mul, iN_le_t, iN_le_f, iN_lt_t, iN_lt_f, iN_eq_f, inb_iN, ix_iN, isZ_0, isZ_1, ↓reduceIte, eq_self, cIn, if_neg cq]
    · intro f s hs
      refine ⟨s, ?_, hs⟩
      show f_X7_rule_l115_23 C (f + 1) s.1 s.2 (iN 21) = _
      unfold f_X7_rule_l115_23
      simp (disch := omega) only [chk_t, beq_self_eq_true, nm_s, bj1_s, bj2_s, bj3_s, mo_1, mo_0, l_0, l_1, l_2, l_3, l_4, l_5, l_6, l_7, l_8, l_9, l_10, l_11, l_12, l_13, l_14, l_15, l_16, l_17, l_18, l_19, l_20, l_21, l_24, l_30, l_31, l_32, l_36, l_40, l_41, l_42, l_43, l_44, l_45, l_46, l_47, l_48, l_49, l_50, l_51, l_52, l_57, l_58, l_60, l_61, l_64, l_72, l_80, l_92, l_98, l_99, l_100, l_102, l_105, l_111, l_112, l_114, l_115, l_116, l_117, l_120, l_144, l_200, l_201, l_240, l_300, l_320, l_400, l_500, l_512, l_550, l_560, l_649, l_650, l_1000, l_1032, l_1400, l_2000, l_4000, l_10000, l_268435455, iN_add, iN_sub, iN_mul, iN_le_t, iN_le_f, iN_lt_t, iN_lt_f, iN_eq_f, inb_iN, ix_iN, isZ_0, isZ_1, ↓reduceIte, eq_self]
  obtain ⟨rc, hrc, erc⟩ := cOut
  rw [fiA_e (j := 21) (s0 := (iN 0, iN 0)) (s1 := (-iN 9, iN 0)) (by omega)] at erc
  have eF : ruF q t v X = F := by rw [hF, hT]; rfl
  obtain ⟨rc1, rc2⟩ := rc
  rw [eF, ← erc]
  refine ⟨C, ?_, ccC⟩
  unfold f_X7_rule f_X7_told
  simp (disch := omega) only [chk_t, beq_self_eq_true, nm_s, bj1_s, bj2_s, bj3_s, mo_1, mo_0, l_0, l_1, l_2, l_3, l_4, l_5, l_6, l_7, l_8, l_9, l_10, l_11, l_12, l_13, l_14, l_15, l_16, l_17, l_18, l_19, l_20, l_21, l_24, l_30, l_31, l_32, l_36, l_40, l_41, l_42, l_43, l_44, l_45, l_46, l_47, l_48, l_49, l_50, l_51, l_52, l_57, l_58, l_60, l_61, l_64, l_72, l_80, l_92, l_98, l_99, l_100, l_102, l_105, l_111, l_112, l_114, l_115, l_116, l_117, l_120, l_144, l_200, l_201, l_240, l_300, l_320, l_400, l_500, l_512, l_550, l_560, l_649, l_650, l_1000, l_1032, l_1400, l_2000, l_4000, l_10000, l_268435455, iN_add, iN_sub, iN_mul, iN_le_t, iN_le_f, iN_lt_t, iN_lt_f, iN_eq_f, inb_iN, ix_iN, isZ_0, isZ_1, ↓reduceIte, eq_self, c1, kd_b ho, w7, v7, r1, hC, hrc]
theorem most_c {k n0 : Nat} {X : Nat → Int32} {G : G_} (a2 a3 a4 : Int32) (w7 : f_X7_isSpan a2 a3 = some (iN 1)) (v7 : f_X7_within a4 (iN 0) (iN 99) = some (iN 1)) (hk : k < 4) (r1 : G.1 (71 + k) 0 = iN 1) (hc : cSl (71 + k) X G) (hX : slR X n0) (hX4 : X 4 = iN 0) : ∃ x y C, f_X7_most (iN k) a2 a3 a4 G = (if x = -iN 9 then some (-iN 9, C) else some (x, sI C 0 16 y)) ∧ Best (okS X a4) (soS X a2 a3) Ful (x, y) ∧ cc G C := by
  obtain ⟨c1, ho⟩ := slabAt_t hk G
  have wf0 := wf_bg hX (mD_0 hX4)
  have hs1 : G.1 (71 + k) 1 = iN n0 := hc.1.trans hX.1.1
  have hs3 : G.1 (71 + k) 3 = X 2 := hc.2.2.1
  have wD : ∀ q i n, q ≤ 30 → wfD (dishS X q i n) n0 := fun q i n hq => wf_way wf0 (qR_N hq)
  have hso := soS_N hX.1 a2 a3
  have ht : ∀ i, 1 ≤ (iN (tuN i)).toInt := fun i => by have := tuN_r i; rw [li (by omega)]; omega
  -- the class
  have lIn : ∀ (kq i : Nat), kq < 9 → i < 5 → ∀ (x y : Int32) (H : G_), Best (okS X a4) (soS X a2 a3) (PC kq i 0) (x, y) → cD 17 (dishS X (14 + 2 * kq) i 0) H → cc G H → ∃ r, f_X7_most_l107_26 a2 a3 a4 (71 + k) (iN (14 + 2 * kq)) (iN i) FU x y (iN 1) H = some r ∧ Best (okS X a4) (soS X a2 a3) (PC kq i 80) (r.1, r.2.1) ∧ cc G r.2.2 := by
    intro kq i hkq hi x y H hB hcD hcc
    have tu := sTU_N hi
    have tr := tuN_r i
    refine loop_h (fun f v (s : Int32 × Int32 × G_) => f_X7_most_l107_26 a2 a3 a4 (71 + k) (iN (14 + 2 * kq)) (iN i) f s.1 s.2.1 v s.2.2) (fun j s => Best (okS X a4) (soS X a2 a3) (PC kq i (j - 1)) (s.1, s.2.1) ∧ cD 17 (dishS X (14 + 2 * kq) i (j - 1)) s.2.2 ∧ cc G s.2.2) _ 1 81 ?_ ?_ (by omega) (n := FU) (fu_lt (by omega)) (s := (x, y, H)) ⟨hB, hcD, hcc⟩
    · intro f j ⟨x, y, H⟩ h3 h4 ⟨i0, i1, i2⟩
      obtain ⟨n, rfl⟩ : ∃ n, j = n + 1 := ⟨j - 1, by omega⟩
      rw [show n + 1 - 1 = n by omega] at i0 i1
      have i0 : Best (okS X a4) (soS X a2 a3) (PC kq i n) (x, y) := i0
      obtain ⟨A, hA, cA, fA⟩ := goByWay_ok (o := 17) (k := n) (q := iN (14 + 2 * kq)) (t := iN (tuN i)) rfl (wD _ i n (by omega)) (qR_N (by omega)) (ht i) (way_43 wf0 (qR_N (by omega)) (bg_41 (by omega) (by omega))) i1
      have cA : cD 17 (dishS X (14 + 2 * kq) i (n + 1)) A := cA
      have ccA := cc_tr i2 (cc_fr fA (by omega) (by omega))
      have pc := ccrust_ok (o := 17) rfl cA
      have pj := cjust_ok (o := 17) (a := a2) (b := a3) rfl (wD (14 + 2 * kq) i (n + 1) (by omega)).1 cA
      rw [(hso _ _ _).1] at pj
      have hs20 := (hso (14 + 2 * kq) i (n + 1)).2
      have etold : 10000 * (14 + 2 * kq) + 100 * (n + 1) + tuN i = toldN (14 + 2 * kq) i (n + 1) := rfl
      have ediv : iN (n + 1) / iN 4 = iN ((n + 1) / 4) := iN_div (by omega) (by omega) (by omega)
      have e4 : (n + 1) / 4 * 4 ≤ n + 1 := by omega
      -- nothing told at this tick
      have none_ : (okS X a4 (14 + 2 * kq) i (n + 1) → (n + 1) % 4 ≠ 0) → Best (okS X a4) (soS X a2 a3) (PC kq i (n + 1)) (x, y) := by
        intro hno
        by_cases c4 : (n + 1) % 4 = 0
        · exact Best_no i0 (q0 := 14 + 2 * kq) (i0 := i) (n0 := n + 1) (fun q i' n' => by unfold PC Ful; omega) (fun ho => hno ho c4)
        · exact Best_iff i0 (fun q i' n' => by unfold PC Ful; omega)
      have ym1 : (y < -iN 1) = False := by
        rcases i0 with ⟨g1, -⟩ | ⟨p1, p2, p3, _, _, _, _, g5, _⟩
        · injection g1 with _ gy
          rw [gy]
          exact eq_false (by decide)
        · injection g5 with _ gy
          rw [gy]
          have := (hso p1 p2 p3).2
          exact eq_false (fun e => by have := t_lt.mp e; rw [li (by omega), show (-iN 1).toInt = -1 from by decide] at this; omega)
      have m1lt : (-iN 1 < iN 0) = True := lt_m1
      by_cases c4 : (n + 1) % 4 = 0
      · have e0 : n + 1 - (n + 1) / 4 * 4 = 0 := by omega
        by_cases cv : crustS (dishS X (14 + 2 * kq) i (n + 1)) < a4
        · refine ⟨(x, y, A), ⟨none_ (fun ho => absurd cv ho), cA, ccA⟩, ?_⟩
          show f_X7_most_l107_26 a2 a3 a4 (71 + k) (iN (14 + 2 * kq)) (iN i) (f + 1) x y (iN (n + 1)) H = f_X7_most_l107_26 a2 a3 a4 (71 + k) (iN (14 + 2 * kq)) (iN i) f x y (iN (n + 1 + 1)) A
          conv => lhs; unfold f_X7_most_l107_26
          simp (disch := omega) only [chk_t, beq_self_eq_true, nm_s, bj1_s, bj2_s, bj3_s, mo_1, mo_0, l_0, l_1, l_2, l_3, l_4, l_5, l_6, l_7, l_8, l_9, l_10, l_11, l_12, l_13, l_14, l_15, l_16, l_17, l_18, l_19, l_20, l_21, l_24, l_30, l_31, l_32, l_36, l_40, l_41, l_42, l_43, l_44, l_45, l_46, l_47, l_48, l_49, l_50, l_51, l_52, l_57, l_58, l_60, l_61, l_64, l_72, l_80, l_92, l_98, l_99, l_100, l_102, l_105, l_111, l_112, l_114, l_115, l_116, l_117, l_120, l_144, l_200, l_201, l_240, l_300, l_320, l_400, l_500, l_512, l_550, l_560, l_649, l_650, l_1000, l_1032, l_1400, l_2000, l_4000, l_10000, l_268435455, iN_add, iN_sub, iN_mul, iN_le_t, iN_le_f, iN_lt_t, iN_lt_f, iN_eq_f, inb_iN, ix_iN, isZ_0, isZ_1, ↓reduceIte, eq_self, tu, hA, ediv, e0, pc, if_pos cv, ym1, m1lt]
        · have hB2 := Best_c i0 (q0 := 14 + 2 * kq) (i0 := i) (n0 := n + 1) (P' := PC kq i (n + 1)) (fun q i' n' => by unfold PC Ful; omega) cv (by omega) (by omega) (fun q i n => (hso q i n).2)
          generalize hE : (if y < iN (soS X a2 a3 (14 + 2 * kq) i (n + 1)) then (iN (toldN (14 + 2 * kq) i (n + 1)), iN (soS X a2 a3 (14 + 2 * kq) i (n + 1))) else if iN (soS X a2 a3 (14 + 2 * kq) i (n + 1)) = y then (if x ≤ iN (toldN (14 + 2 * kq) i (n + 1)) then (x, y) else (iN (toldN (14 + 2 * kq) i (n + 1)), iN (soS X a2 a3 (14 + 2 * kq) i (n + 1)))) else (x, y)) = E at hB2
          refine ⟨(E.1, E.2, A), ⟨hB2, cA, ccA⟩, ?_⟩
          show f_X7_most_l107_26 a2 a3 a4 (71 + k) (iN (14 + 2 * kq)) (iN i) (f + 1) x y (iN (n + 1)) H = f_X7_most_l107_26 a2 a3 a4 (71 + k) (iN (14 + 2 * kq)) (iN i) f E.1 E.2 (iN (n + 1 + 1)) A
          conv => lhs; unfold f_X7_most_l107_26
          rw [← hE]
          generalize soS X a2 a3 (14 + 2 * kq) i (n + 1) = so at *
          have cv := eq_false cv
          by_cases d1 : y < iN so
          · simp (disch := omega) only [chk_t, beq_self_eq_true, nm_s, bj1_s, bj2_s, bj3_s, mo_1, mo_0, l_0, l_1, l_2, l_3, l_4, l_5, l_6, l_7, l_8, l_9, l_10, l_11, l_12, l_13, l_14, l_15, l_16, l_17, l_18, l_19, l_20, l_21, l_24, l_30, l_31, l_32, l_36, l_40, l_41, l_42, l_43, l_44, l_45, l_46, l_47, l_48, l_49, l_50, l_51, l_52, l_57, l_58, l_60, l_61, l_64, l_72, l_80, l_92, l_98, l_99, l_100, l_102, l_105, l_111, l_112, l_114, l_115, l_116, l_117, l_120, l_144, l_200, l_201, l_240, l_300, l_320, l_400, l_500, l_512, l_550, l_560, l_649, l_650, l_1000, l_1032, l_1400, l_2000, l_4000, l_10000, l_268435455, iN_add, iN_sub, iN_mul, iN_le_t, iN_le_f, iN_lt_t, iN_lt_f, iN_eq_f, inb_iN, ix_iN, isZ_0, isZ_1, ↓reduceIte, eq_self, tu, hA, ediv, e0, pc, cv, pj, if_pos d1, etold]
          · by_cases d2 : iN so = y
            · by_cases d3 : x ≤ iN (toldN (14 + 2 * kq) i (n + 1))
              · simp (disch := omega) only [chk_t, beq_self_eq_true, nm_s, bj1_s, bj2_s, bj3_s, mo_1, mo_0, l_0, l_1, l_2, l_3, l_4, l_5, l_6, l_7, l_8, l_9, l_10, l_11, l_12, l_13, l_14, l_15, l_16, l_17, l_18, l_19, l_20, l_21, l_24, l_30, l_31, l_32, l_36, l_40, l_41, l_42, l_43, l_44, l_45, l_46, l_47, l_48, l_49, l_50, l_51, l_52, l_57, l_58, l_60, l_61, l_64, l_72, l_80, l_92, l_98, l_99, l_100, l_102, l_105, l_111, l_112, l_114, l_115, l_116, l_117, l_120, l_144, l_200, l_201, l_240, l_300, l_320, l_400, l_500, l_512, l_550, l_560, l_649, l_650, l_1000, l_1032, l_1400, l_2000, l_4000, l_10000, l_268435455, iN_add, iN_sub, iN_mul, iN_le_t, iN_le_f, iN_lt_t, iN_lt_f, iN_eq_f, inb_iN, ix_iN, isZ_0, isZ_1, ↓reduceIte, eq_self, tu, hA, ediv, e0, pc, cv, pj, if_neg d1, if_pos d2, if_pos d3, etold]
              · simp (disch := omega) only [chk_t, beq_self_eq_true, nm_s, bj1_s, bj2_s, bj3_s, mo_1, mo_0, l_0, l_1, l_2, l_3, l_4, l_5, l_6, l_7, l_8, l_9, l_10, l_11, l_12, l_13, l_14, l_15, l_16, l_17, l_18, l_19, l_20, l_21, l_24, l_30, l_31, l_32, l_36, l_40, l_41, l_42, l_43, l_44, l_45, l_46, l_47, l_48, l_49, l_50, l_51, l_52, l_57, l_58, l_60, l_61, l_64, l_72, l_80, l_92, l_98, l_99, l_100, l_102, l_105, l_111, l_112, l_114, l_115, l_116, l_117, l_120, l_144, l_200, l_201, l_240, l_300, l_320, l_400, l_500, l_512, l_550, l_560, l_649, l_650, l_1000, l_1032, l_1400, l_2000, l_4000, l_10000, l_268435455, iN_add, iN_sub, iN_mul, iN_le_t, iN_le_f, iN_lt_t, iN_lt_f, iN_eq_f, inb_iN, ix_iN, isZ_0, isZ_1, ↓reduceIte, eq_self, tu, hA, ediv, e0, pc, cv, pj, if_neg d1, if_pos d2, if_neg d3, etold]
            · simp (disch := omega) only [chk_t, beq_self_eq_true, nm_s, bj1_s, bj2_s, bj3_s, mo_1, mo_0, l_0, l_1, l_2, l_3, l_4, l_5, l_6, l_7, l_8, l_9, l_10, l_11, l_12, l_13, l_14, l_15, l_16, l_17, l_18, l_19, l_20, l_21, l_24, l_30, l_31, l_32, l_36, l_40, l_41, l_42, l_43, l_44, l_45, l_46, l_47, l_48, l_49, l_50, l_51, l_52, l_57, l_58, l_60, l_61, l_64, l_72, l_80, l_92, l_98, l_99, l_100, l_102, l_105, l_111, l_112, l_114, l_115, l_116, l_117, l_120, l_144, l_200, l_201, l_240, l_300, l_320, l_400, l_500, l_512, l_550, l_560, l_649, l_650, l_1000, l_1032, l_1400, l_2000, l_4000, l_10000, l_268435455, iN_add, iN_sub, iN_mul, iN_le_t, iN_le_f, iN_lt_t, iN_lt_f, iN_eq_f, inb_iN, ix_iN, isZ_0, isZ_1, ↓reduceIte, eq_self, tu, hA, ediv, e0, pc, cv, pj, if_neg d1, if_neg d2, etold]
      · have e0 : (iN (n + 1 - (n + 1) / 4 * 4) = iN 0) = False := iN_eq_f (by omega) (by omega) (by omega)
        refine ⟨(x, y, A), ⟨none_ (fun _ => c4), cA, ccA⟩, ?_⟩
        show f_X7_most_l107_26 a2 a3 a4 (71 + k) (iN (14 + 2 * kq)) (iN i) (f + 1) x y (iN (n + 1)) H = f_X7_most_l107_26 a2 a3 a4 (71 + k) (iN (14 + 2 * kq)) (iN i) f x y (iN (n + 1 + 1)) A
        conv => lhs; unfold f_X7_most_l107_26
        simp (disch := omega) only [chk_t, beq_self_eq_true, nm_s, bj1_s, bj2_s, bj3_s, mo_1, mo_0, l_0, l_1, l_2, l_3, l_4, l_5, l_6, l_7, l_8, l_9, l_10, l_11, l_12, l_13, l_14, l_15, l_16, l_17, l_18, l_19, l_20, l_21, l_24, l_30, l_31, l_32, l_36, l_40, l_41, l_42, l_43, l_44, l_45, l_46, l_47, l_48, l_49, l_50, l_51, l_52, l_57, l_58, l_60, l_61, l_64, l_72, l_80, l_92, l_98, l_99, l_100, l_102, l_105, l_111, l_112, l_114, l_115, l_116, l_117, l_120, l_144, l_200, l_201, l_240, l_300, l_320, l_400, l_500, l_512, l_550, l_560, l_649, l_650, l_1000, l_1032, l_1400, l_2000, l_4000, l_10000, l_268435455, iN_add, iN_sub, iN_mul, iN_le_t, iN_le_f, iN_lt_t, iN_lt_f, iN_eq_f, inb_iN, ix_iN, isZ_0, isZ_1, ↓reduceIte, eq_self, tu, hA, ediv, e0, ym1, m1lt]
    · intro f ⟨x, y, H⟩ ⟨i0, i1, i2⟩
      refine ⟨(x, y, H), ?_, i0, i2⟩
      show f_X7_most_l107_26 a2 a3 a4 (71 + k) (iN (14 + 2 * kq)) (iN i) (f + 1) x y (iN 81) H = _
      unfold f_X7_most_l107_26
      simp (disch := omega) only [chk_t, beq_self_eq_true, nm_s, bj1_s, bj2_s, bj3_s, mo_1, mo_0, l_0, l_1, l_2, l_3, l_4, l_5, l_6, l_7, l_8, l_9, l_10, l_11, l_12, l_13, l_14, l_15, l_16, l_17, l_18, l_19, l_20, l_21, l_24, l_30, l_31, l_32, l_36, l_40, l_41, l_42, l_43, l_44, l_45, l_46, l_47, l_48, l_49, l_50, l_51, l_52, l_57, l_58, l_60, l_61, l_64, l_72, l_80, l_92, l_98, l_99, l_100, l_102, l_105, l_111, l_112, l_114, l_115, l_116, l_117, l_120, l_144, l_200, l_201, l_240, l_300, l_320, l_400, l_500, l_512, l_550, l_560, l_649, l_650, l_1000, l_1032, l_1400, l_2000, l_4000, l_10000, l_268435455, iN_add, iN_sub, iN_mul, iN_le_t, iN_le_f, iN_lt_t, iN_lt_f, iN_eq_f, inb_iN, ix_iN, isZ_0, isZ_1, ↓reduceIte, eq_self]
  have lMid : ∀ (kq : Nat), kq < 9 → ∀ (x y : Int32) (H : G_), Best (okS X a4) (soS X a2 a3) (PC kq 0 0) (x, y) → cc G H → ∃ r, f_X7_most_l68_18 a2 a3 a4 (71 + k) (iN (14 + 2 * kq)) FU x y (iN 0) H = some r ∧ Best (okS X a4) (soS X a2 a3) (PC (kq + 1) 0 0) (r.1, r.2.1) ∧ cc G r.2.2 := by
    intro kq hkq x y H hB hcc
    refine loop_h (fun f v (s : Int32 × Int32 × G_) => f_X7_most_l68_18 a2 a3 a4 (71 + k) (iN (14 + 2 * kq)) f s.1 s.2.1 v s.2.2) (fun j s => Best (okS X a4) (soS X a2 a3) (PC kq j 0) (s.1, s.2.1) ∧ cc G s.2.2) _ 0 5 ?_ ?_ (by omega) (n := FU) (fu_lt (by omega)) (s := (x, y, H)) ⟨hB, hcc⟩
    · intro f i ⟨x, y, H⟩ h3 h4 ⟨i0, i2⟩
      have q1 : H.1 (71 + k) = G.1 (71 + k) := cc_at i2 (by omega)
      obtain ⟨A, hA, cA, fA⟩ := begin_ok (o := 17) (X := X) (G := H) rfl ho (by omega) hX.1 (by rw [q1]; exact hc.2.1) (by rw [q1]; exact hc.2.2.2) hX4
      have s1 : H.1 (71 + k) 1 = iN n0 := by rw [q1]; exact hs1
      have s3 : H.1 (71 + k) 3 = X 2 := by rw [q1]; exact hs3
      obtain ⟨⟨x', y', C⟩, hC, hB2, ccC⟩ := lIn kq i hkq h4 x y A i0 cA (cc_tr i2 (cc_fr fA (by omega) (by omega)))
      have hB2 : Best (okS X a4) (soS X a2 a3) (PC kq i 80) (x', y') := hB2
      refine ⟨(x', y', C), ⟨Best_iff hB2 (fun q i' n' => by unfold PC Ful; omega), ccC⟩, ?_⟩
      show f_X7_most_l68_18 a2 a3 a4 (71 + k) (iN (14 + 2 * kq)) (f + 1) x y (iN i) H = _
      conv => lhs; unfold f_X7_most_l68_18
      simp (disch := omega) only [chk_t, beq_self_eq_true, nm_s, bj1_s, bj2_s, bj3_s, mo_1, mo_0, l_0, l_1, l_2, l_3, l_4, l_5, l_6, l_7, l_8, l_9, l_10, l_11, l_12, l_13, l_14, l_15, l_16, l_17, l_18, l_19, l_20, l_21, l_24, l_30, l_31, l_32, l_36, l_40, l_41, l_42, l_43, l_44, l_45, l_46, l_47, l_48, l_49, l_50, l_51, l_52, l_57, l_58, l_60, l_61, l_64, l_72, l_80, l_92, l_98, l_99, l_100, l_102, l_105, l_111, l_112, l_114, l_115, l_116, l_117, l_120, l_144, l_200, l_201, l_240, l_300, l_320, l_400, l_500, l_512, l_550, l_560, l_649, l_650, l_1000, l_1032, l_1400, l_2000, l_4000, l_10000, l_268435455, iN_add, iN_sub, iN_mul, iN_le_t, iN_le_f, iN_lt_t, iN_lt_f, iN_eq_f, inb_iN, ix_iN, isZ_0, isZ_1, ↓reduceIte, eq_self, s1, s3, hA, hC]
    · intro f ⟨x, y, H⟩ ⟨i0, i2⟩
      refine ⟨(x, y, H), ?_, Best_iff i0 (fun q i' n' => by unfold PC Ful; omega), i2⟩
      show f_X7_most_l68_18 a2 a3 a4 (71 + k) (iN (14 + 2 * kq)) (f + 1) x y (iN 5) H = _
      unfold f_X7_most_l68_18
      simp (disch := omega) only [chk_t, beq_self_eq_true, nm_s, bj1_s, bj2_s, bj3_s, mo_1, mo_0, l_0, l_1, l_2, l_3, l_4, l_5, l_6, l_7, l_8, l_9, l_10, l_11, l_12, l_13, l_14, l_15, l_16, l_17, l_18, l_19, l_20, l_21, l_24, l_30, l_31, l_32, l_36, l_40, l_41, l_42, l_43, l_44, l_45, l_46, l_47, l_48, l_49, l_50, l_51, l_52, l_57, l_58, l_60, l_61, l_64, l_72, l_80, l_92, l_98, l_99, l_100, l_102, l_105, l_111, l_112, l_114, l_115, l_116, l_117, l_120, l_144, l_200, l_201, l_240, l_300, l_320, l_400, l_500, l_512, l_550, l_560, l_649, l_650, l_1000, l_1032, l_1400, l_2000, l_4000, l_10000, l_268435455, iN_add, iN_sub, iN_mul, iN_le_t, iN_le_f, iN_lt_t, iN_lt_f, iN_eq_f, inb_iN, ix_iN, isZ_0, isZ_1, ↓reduceIte, eq_self]
  have lOut : ∃ r, f_X7_most_l58_13 a2 a3 a4 (71 + k) FU (-iN 9) (-iN 1) (iN 14) G = some r ∧ Best (okS X a4) (soS X a2 a3) Ful (r.1, r.2.1) ∧ cc G r.2.2 := by
    refine loop_st (fun f v (s : Int32 × Int32 × G_) => f_X7_most_l58_13 a2 a3 a4 (71 + k) f s.1 s.2.1 v s.2.2) (fun j s => Best (okS X a4) (soS X a2 a3) (PC j 0 0) (s.1, s.2.1) ∧ cc G s.2.2) _ 14 2 9 ?_ ?_ (n := FU) (fu_lt (by omega)) (s := (-iN 9, -iN 1, G)) ⟨Or.inl ⟨rfl, fun q i n hp => by unfold PC Ful at hp; omega⟩, cc_refl⟩
    · intro f kq ⟨x, y, H⟩ h4 ⟨i0, i2⟩
      obtain ⟨⟨x', y', C⟩, hC, hB2, ccC⟩ := lMid kq h4 x y H i0 i2
      refine ⟨(x', y', C), ⟨hB2, ccC⟩, ?_⟩
      show f_X7_most_l58_13 a2 a3 a4 (71 + k) (f + 1) x y (iN (14 + 2 * kq)) H = f_X7_most_l58_13 a2 a3 a4 (71 + k) f x' y' (iN (14 + 2 * (kq + 1))) C
      conv => lhs; unfold f_X7_most_l58_13
      rw [show 14 + 2 * (kq + 1) = 14 + 2 * kq + 2 by omega]
      simp (disch := omega) only [chk_t, beq_self_eq_true, nm_s, bj1_s, bj2_s, bj3_s, mo_1, mo_0, l_0, l_1, l_2, l_3, l_4, l_5, l_6, l_7, l_8, l_9, l_10, l_11, l_12, l_13, l_14, l_15, l_16, l_17, l_18, l_19, l_20, l_21, l_24, l_30, l_31, l_32, l_36, l_40, l_41, l_42, l_43, l_44, l_45, l_46, l_47, l_48, l_49, l_50, l_51, l_52, l_57, l_58, l_60, l_61, l_64, l_72, l_80, l_92, l_98, l_99, l_100, l_102, l_105, l_111, l_112, l_114, l_115, l_116, l_117, l_120, l_144, l_200, l_201, l_240, l_300, l_320, l_400, l_500, l_512, l_550, l_560, l_649, l_650, l_1000, l_1032, l_1400, l_2000, l_4000, l_10000, l_268435455, iN_add, iN_sub, iN_mul, iN_le_t, iN_le_f, iN_lt_t, iN_lt_f, iN_eq_f, inb_iN, ix_iN, isZ_0, isZ_1, ↓reduceIte, eq_self, hC]
    · intro f ⟨x, y, H⟩ ⟨i0, i2⟩
      refine ⟨(x, y, H), ?_, Best_iff i0 (fun q i' n' => by unfold PC Ful; omega), i2⟩
      show f_X7_most_l58_13 a2 a3 a4 (71 + k) (f + 1) x y (iN 32) H = _
      unfold f_X7_most_l58_13
      simp (disch := omega) only [chk_t, beq_self_eq_true, nm_s, bj1_s, bj2_s, bj3_s, mo_1, mo_0, l_0, l_1, l_2, l_3, l_4, l_5, l_6, l_7, l_8, l_9, l_10, l_11, l_12, l_13, l_14, l_15, l_16, l_17, l_18, l_19, l_20, l_21, l_24, l_30, l_31, l_32, l_36, l_40, l_41, l_42, l_43, l_44, l_45, l_46, l_47, l_48, l_49, l_50, l_51, l_52, l_57, l_58, l_60, l_61, l_64, l_72, l_80, l_92, l_98, l_99, l_100, l_102, l_105, l_111, l_112, l_114, l_115, l_116, l_117, l_120, l_144, l_200, l_201, l_240, l_300, l_320, l_400, l_500, l_512, l_550, l_560, l_649, l_650, l_1000, l_1032, l_1400, l_2000, l_4000, l_10000, l_268435455, iN_add, iN_sub, iN_mul, iN_le_t, iN_le_f, iN_lt_t, iN_lt_f, iN_eq_f, inb_iN, ix_iN, isZ_0, isZ_1, ↓reduceIte, eq_self]
  obtain ⟨⟨x, y, C⟩, hC, hBC, ccC⟩ := lOut
  refine ⟨x, y, C, ?_, hBC, ccC⟩
  unfold f_X7_most f_X7_told
  simp (disch := omega) only [chk_t, beq_self_eq_true, nm_s, bj1_s, bj2_s, bj3_s, mo_1, mo_0, l_0, l_1, l_2, l_3, l_4, l_5, l_6, l_7, l_8, l_9, l_10, l_11, l_12, l_13, l_14, l_15, l_16, l_17, l_18, l_19, l_20, l_21, l_24, l_30, l_31, l_32, l_36, l_40, l_41, l_42, l_43, l_44, l_45, l_46, l_47, l_48, l_49, l_50, l_51, l_52, l_57, l_58, l_60, l_61, l_64, l_72, l_80, l_92, l_98, l_99, l_100, l_102, l_105, l_111, l_112, l_114, l_115, l_116, l_117, l_120, l_144, l_200, l_201, l_240, l_300, l_320, l_400, l_500, l_512, l_550, l_560, l_649, l_650, l_1000, l_1032, l_1400, l_2000, l_4000, l_10000, l_268435455, iN_add, iN_sub, iN_mul, iN_le_t, iN_le_f, iN_lt_t, iN_lt_f, iN_eq_f, inb_iN, ix_iN, isZ_0, isZ_1, ↓reduceIte, eq_self, c1, kd_b ho, w7, v7, r1, hC]
theorem same_c {k n q t v u : Nat} {X : Nat → Int32} {G : G_} (hk : k < 4) (r1 : G.1 (71 + k) 0 = iN 1) (hc : cSl (71 + k) X G) (hX : slR X n) (hX4 : X 4 = iN 0) (hq : 10 ≤ q ∧ q ≤ 30) (ht : 1 ≤ t ∧ t ≤ 60) (hv : v ≤ 2000) (hu : u ≤ 2000) : ∃ A, (f_X7_same (iN k) (iN k) (iN q) (iN t) (iN v) (iN u) G = some (-iN 9, A) ∧ cc G A) ∨ ∃ i j y, i ≤ 200 ∧ j ≤ 200 ∧ tillS (iN q) (iN t) (iN v) (bgS X) = iN i ∧ tillS (iN q) (iN t) (iN u) (bgS X) = iN j ∧ f_X7_same (iN k) (iN k) (iN q) (iN t) (iN v) (iN u) G = some (ab (iN i - iN j), sI A 0 16 y) ∧ cc G A := by
  obtain ⟨c1, ho⟩ := slabAt_t hk G
  have w7 := isWay_1 hq ht
  have v7 := in_1 (a := 0) (k := v) (b := 2000) (by omega) (by omega)
  have u7 := in_1 (a := 0) (k := u) (b := 2000) (by omega) (by omega)
  obtain ⟨A, hA, fA⟩ := till_ok (o := 17) (v := iN v) rfl ho (by omega) hX hX4 hc.2.1 hc.2.2.1 hc.2.2.2 (qR_N hq.2) (t1N ht.1 (by omega))
  have q1 : A.1 (71 + k) = G.1 (71 + k) := fA.1.1 _ (by omega)
  obtain ⟨B, hB, fB⟩ := till_ok (o := 17) (v := iN u) (G := A) rfl ho (by omega) hX hX4 (by rw [q1]; exact hc.2.1) (by rw [q1]; exact hc.2.2.1) (by rw [q1]; exact hc.2.2.2) (qR_N hq.2) (t1N ht.1 (by omega))
  have s1 : G.1 (71 + k) 1 = iN n := hc.1.trans hX.1.1
  have s2 : A.1 (71 + k) 1 = iN n := by rw [q1]; exact s1
  have ccB := cc_tr (cc_fr fA (by omega) (by omega)) (cc_fr fB (by omega) (by omega))
  refine ⟨B, ?_⟩
  rcases till_r (iN q) (iN t) (iN v) (bgS X) with x1 | ⟨i, i1, i2, x1⟩
  · rw [x1] at hA
    refine Or.inl ⟨?_, ccB⟩
    unfold f_X7_same
    simp (maxSteps := 4000000) (disch := omega) only [chk_t, beq_self_eq_true, nm_s, bj1_s, bj2_s, bj3_s, mo_1, mo_0, l_0, l_1, l_2, l_3, l_4, l_5, l_6, l_7, l_8, l_9, l_10, l_11, l_12, l_13, l_14, l_15, l_16, l_17, l_18, l_19, l_20, l_21, l_24, l_30, l_31, l_32, l_36, l_40, l_41, l_42, l_43, l_44, l_45, l_46, l_47, l_48, l_49, l_50, l_51, l_52, l_57, l_58, l_60, l_61, l_64, l_72, l_80, l_92, l_98, l_99, l_100, l_102, l_105, l_111, l_112, l_114, l_115, l_116, l_117, l_120, l_144, l_200, l_201, l_240, l_300, l_320, l_400, l_500, l_512, l_550, l_560, l_649, l_650, l_1000, l_1032, l_1400, l_2000, l_4000, l_10000, l_268435455, iN_add, iN_sub, iN_mul, iN_le_t, iN_le_f, iN_lt_t, iN_lt_f, iN_eq_f, inb_iN, ix_iN, isZ_0, isZ_1, ↓reduceIte, eq_self, c1, kd_b ho, w7, v7, u7, r1, s1, hA, s2, hB]
  · rcases till_r (iN q) (iN t) (iN u) (bgS X) with x2 | ⟨j, j1, j2, x2⟩
    · rw [x1] at hA
      rw [x2] at hB
      refine Or.inl ⟨?_, ccB⟩
      unfold f_X7_same
      simp (maxSteps := 4000000) (disch := omega) only [chk_t, beq_self_eq_true, nm_s, bj1_s, bj2_s, bj3_s, mo_1, mo_0, l_0, l_1, l_2, l_3, l_4, l_5, l_6, l_7, l_8, l_9, l_10, l_11, l_12, l_13, l_14, l_15, l_16, l_17, l_18, l_19, l_20, l_21, l_24, l_30, l_31, l_32, l_36, l_40, l_41, l_42, l_43, l_44, l_45, l_46, l_47, l_48, l_49, l_50, l_51, l_52, l_57, l_58, l_60, l_61, l_64, l_72, l_80, l_92, l_98, l_99, l_100, l_102, l_105, l_111, l_112, l_114, l_115, l_116, l_117, l_120, l_144, l_200, l_201, l_240, l_300, l_320, l_400, l_500, l_512, l_550, l_560, l_649, l_650, l_1000, l_1032, l_1400, l_2000, l_4000, l_10000, l_268435455, iN_add, iN_sub, iN_mul, iN_le_t, iN_le_f, iN_lt_t, iN_lt_f, iN_eq_f, inb_iN, ix_iN, isZ_0, isZ_1, ↓reduceIte, eq_self, c1, kd_b ho, w7, v7, u7, r1, s1, hA, s2, hB, N_m9]
    · rw [x1] at hA
      rw [x2] at hB
      by_cases cm : iN j ≤ iN i
      · refine Or.inr ⟨i, j, iN 0, i2, j2, x1, x2, ?_, ccB⟩
        unfold f_X7_same f_X7_told
        simp (maxSteps := 4000000) (disch := omega) only [chk_t, beq_self_eq_true, nm_s, bj1_s, bj2_s, bj3_s, mo_1, mo_0, l_0, l_1, l_2, l_3, l_4, l_5, l_6, l_7, l_8, l_9, l_10, l_11, l_12, l_13, l_14, l_15, l_16, l_17, l_18, l_19, l_20, l_21, l_24, l_30, l_31, l_32, l_36, l_40, l_41, l_42, l_43, l_44, l_45, l_46, l_47, l_48, l_49, l_50, l_51, l_52, l_57, l_58, l_60, l_61, l_64, l_72, l_80, l_92, l_98, l_99, l_100, l_102, l_105, l_111, l_112, l_114, l_115, l_116, l_117, l_120, l_144, l_200, l_201, l_240, l_300, l_320, l_400, l_500, l_512, l_550, l_560, l_649, l_650, l_1000, l_1032, l_1400, l_2000, l_4000, l_10000, l_268435455, iN_add, iN_sub, iN_mul, iN_le_t, iN_le_f, iN_lt_t, iN_lt_f, iN_eq_f, inb_iN, ix_iN, isZ_0, isZ_1, ↓reduceIte, eq_self, c1, kd_b ho, w7, v7, u7, r1, s1, hA, s2, hB, N_m9, if_pos cm]
      · refine Or.inr ⟨i, j, iN 1, i2, j2, x1, x2, ?_, ccB⟩
        unfold f_X7_same f_X7_told
        simp (maxSteps := 4000000) (disch := omega) only [chk_t, beq_self_eq_true, nm_s, bj1_s, bj2_s, bj3_s, mo_1, mo_0, l_0, l_1, l_2, l_3, l_4, l_5, l_6, l_7, l_8, l_9, l_10, l_11, l_12, l_13, l_14, l_15, l_16, l_17, l_18, l_19, l_20, l_21, l_24, l_30, l_31, l_32, l_36, l_40, l_41, l_42, l_43, l_44, l_45, l_46, l_47, l_48, l_49, l_50, l_51, l_52, l_57, l_58, l_60, l_61, l_64, l_72, l_80, l_92, l_98, l_99, l_100, l_102, l_105, l_111, l_112, l_114, l_115, l_116, l_117, l_120, l_144, l_200, l_201, l_240, l_300, l_320, l_400, l_500, l_512, l_550, l_560, l_649, l_650, l_1000, l_1032, l_1400, l_2000, l_4000, l_10000, l_268435455, iN_add, iN_sub, iN_mul, iN_le_t, iN_le_f, iN_lt_t, iN_lt_f, iN_eq_f, inb_iN, ix_iN, isZ_0, isZ_1, ↓reduceIte, eq_self, c1, kd_b ho, w7, v7, u7, r1, s1, hA, s2, hB, N_m9, if_neg cm]

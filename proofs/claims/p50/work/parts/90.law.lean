/-- the law holds -/
theorem law_pure (L : Nat) (hL : L ≤ 260) (xs : Nat → Int32) : f_L_law L xs G8 = some 1 := by
  obtain ⟨f, m, s, h, G1, eB, B⟩ := lawB_c (sl := L) (xs := xs) hL
  obtain ⟨w, V, eC, hV, dV⟩ := lawC_c (sl := L) (xs := xs) B
  obtain ⟨W, eW, csW⟩ := ways_c (xs := xs) hL B.hf rfl hV
  have hW := LC_cs hV csW
  obtain ⟨H, eS, dg⟩ := salts_c B hW
  have d1 : dge V H := ⟨fun q hq => by rw [dg.1 q hq, csW.1 q (by unfold scr; omega)], by rw [dg.2, csW.1 59 (by unfold scr; omega)]⟩
  obtain ⟨w', x1, x2⟩ := lk_digest hV.dg_ d1
  have ew : w' = w := by
    rw [dV] at x1
    exact (Option.some.inj x1).symm
  subst ew
  have o1 : ¬ iN 1 = iN 0 := by decide
  rw [eW, bj2_s, if_neg o1] at eC
  have lcw : lg_cmp w' w' = iN 0 := (lgc_0 w' w').mpr rfl
  have eD : f_L_lawD w' (iN 1) H = some (iN 1) := by
    unfold f_L_lawD
    simp only [l_0, l_1, l_2, l_3, l_4, l_5, l_6, l_7, l_8, l_9, l_10, l_11, l_12, l_13, l_14, l_15, l_16, l_17, l_18, l_19, l_20, l_21, l_24, l_30, l_31, l_32, l_36, l_40, l_41, l_42, l_43, l_44, l_45, l_46, l_47, l_48, l_49, l_50, l_51, l_52, l_57, l_58, l_60, l_61, l_64, l_72, l_80, l_92, l_98, l_99, l_100, l_102, l_105, l_111, l_112, l_114, l_115, l_116, l_117, l_120, l_144, l_200, l_201, l_240, l_300, l_320, l_400, l_500, l_512, l_550, l_560, l_649, l_650, l_1000, l_1032, l_1400, l_2000, l_4000, l_10000, l_268435455]
    rw [if_neg o1, x2, bj1_s, if_pos lcw]
  have eB : f_L_lawB L xs (z0 250 (z0 249 (z0 248 G8))) = some (iN (tsN s m), iN h, G1) := eB
  unfold f_L_law
  rw [eB, bj3_s, eC, bj2_s, eS, bj2_s]
  exact eD

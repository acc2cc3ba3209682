/-! a plan read from a text: all steps -/
theorem step_all {t z p c T : Nat} {B W : Nat → Int32} (ht : t < 4) (hz : z ≤ 80) (hp : p < z) (h : pP W c T) : stF t z B p c W T ∨ stT t z B p c W T := by
  have ho := (rtk t ht).2
  have hk : kd 41 = 2 := rfl
  have hcc := h.1
  have hTT := h.2.1
  have ebC : bC z B p = B p := if_pos hp
  have ebT : bT z B p = B p := if_pos hp
  have cv : ∀ G, CPs t z B p c W T G → f_X6_value (63 + 2 * t) (iN p) G = some (B p) := fun G hG => by
    rw [← ebC]
    exact cval ht hz hG.1 (by omega)
  have mv : ∀ H, MPs t z B p c W T H → f_X8_byteAt (iN t) (iN p) H = some (B p) := fun H hH => by
    rw [← ebT]
    exact mval ht hz hH.1 (by omega)
  rcases step_cases (B p) with ⟨a, a1, a6, sk, so⟩ | ⟨sk, so⟩
  · have ea0 : (iN a = iN 0) = False := iN_eq_f (by omega) (by omega) (by omega)
    have ea9 := iN_m9 (k := a) (by omega)
    by_cases c12 : c = 12
    · subst c12
      left
      refine stF_mk (q := p) (by omega) (fun G hG => ⟨p, ?_⟩) (fun H hH => ⟨H, ?_, kM_0 hH.1 hH.2.1⟩)
      · have v := cv G hG
        obtain ⟨k1, k2, k3, k4, k5, k6⟩ := hG
        rw [sI_self k2]
        unfold f_X3_readStep
        simp (disch := omega) only [chk_t, beq_self_eq_true, nm_s, bj1_s, bj2_s, bj3_s, mo_1, mo_0, l_0, l_1, l_2, l_3, l_4, l_5, l_6, l_7, l_8, l_9, l_10, l_11, l_12, l_13, l_14, l_15, l_16, l_17, l_18, l_19, l_20, l_21, l_30, l_31, l_32, l_36, l_40, l_41, l_42, l_43, l_44, l_45, l_46, l_47, l_48, l_49, l_50, l_51, l_52, l_57, l_58, l_60, l_64, l_72, l_80, l_92, l_98, l_99, l_100, l_102, l_105, l_111, l_112, l_114, l_115, l_116, l_117, l_120, l_144, l_200, l_201, l_240, l_300, l_320, l_400, l_500, l_550, l_560, l_649, l_650, l_1000, l_1400, l_2000, l_4000, l_10000, iN_add, iN_sub, iN_mul, iN_le_t, iN_le_f, iN_lt_t, iN_lt_f, iN_eq_f, inb_iN, ix_iN, isZ_0, isZ_1, ↓reduceIte, eq_self, kd_b ho, kd_b hk, k2, v, sk, ea0, k4]
      · have v := mv H hH
        obtain ⟨l1, l2, l3, l4, l5⟩ := hH
        unfold f_X8_readsStep
        simp (disch := omega) only [chk_t, beq_self_eq_true, nm_s, bj1_s, bj2_s, bj3_s, mo_1, mo_0, l_0, l_1, l_2, l_3, l_4, l_5, l_6, l_7, l_8, l_9, l_10, l_11, l_12, l_13, l_14, l_15, l_16, l_17, l_18, l_19, l_20, l_21, l_30, l_31, l_32, l_36, l_40, l_41, l_42, l_43, l_44, l_45, l_46, l_47, l_48, l_49, l_50, l_51, l_52, l_57, l_58, l_60, l_64, l_72, l_80, l_92, l_98, l_99, l_100, l_102, l_105, l_111, l_112, l_114, l_115, l_116, l_117, l_120, l_144, l_200, l_201, l_240, l_300, l_320, l_400, l_500, l_550, l_560, l_649, l_650, l_1000, l_1400, l_2000, l_4000, l_10000, iN_add, iN_sub, iN_mul, iN_le_t, iN_le_f, iN_lt_t, iN_lt_f, iN_eq_f, inb_iN, ix_iN, isZ_0, isZ_1, ↓reduceIte, eq_self, l2, v, so, ea9, l3]
    · have ec12 : (iN c = iN 12) = False := iN_eq_f c12 (by omega) (by omega)
      by_cases a3 : a ≤ 3
      · obtain ⟨p1, v1, q1, q2, q3, q4⟩ := num_ok (B := B) (p := p) 2 30 ht hz (by omega) (by omega) (by omega)
        have pm1 := iN_m9 (k := p1) (by omega)
        have mid : ∀ H, MPs t z B p c W T H → ∀ r, f_X8_number (iN t) (iN 2) (iN 30) (sI H 124 15 (iN (p + 1))) = some (iN r, sI (sI H 124 15 (iN p1)) 124 16 (iN v1)) → kM t z B H (sI (sI H 124 15 (iN p1)) 124 16 (iN v1)) p1 := fun H hH r _ => kM_16 (kM_0 hH.1 hH.2.1)
        rcases q4 with ⟨⟨w1, w2, w3, w4⟩, w5, w6⟩ | ⟨w5, w6⟩
        · have m1 : ∀ H, MPs t z B p c W T H → f_X8_number (iN t) (iN 2) (iN 30) (sI H 124 15 (iN (p + 1))) = some (iN 1, sI (sI H 124 15 (iN p1)) 124 16 (iN v1)) := fun H hH => by
            have := w6 (sI H 124 15 (iN (p + 1))) (mT_sI hH.1 (by omega)) sI_eq
            rw [sI_sI] at this
            exact this
          by_cases col : bC z B p1 = iN 58
          · have cv2 : ∀ G, CPs t z B p c W T G → f_X6_value (63 + 2 * t) (iN p1) (sI G 39 0 (iN p1)) = some (iN 58) := fun G hG => by
              have := cval (p := p1) ht hz (cT_sI (q := 39) (j := 0) (v := iN p1) ht hG.1 (by omega)) (by omega)
              rw [col] at this
              exact this
            have ms : ∀ H, MPs t z B p c W T H → ∃ A', f_X8_sign (iN t) (iN 58) (sI (sI H 124 15 (iN p1)) 124 16 (iN v1)) = some (iN 1, A') ∧ kM t z B H A' (p1 + 1) := fun H hH => by
              rcases sign_ok (q := p1) ht hz (by omega) (mid H hH 1 (m1 H hH)) with ⟨_, h⟩ | ⟨h, _⟩
              · exact h
              · exact absurd col (of_eq_false h)
            obtain ⟨p2, v2, q1', q2', q3', q4'⟩ := num_ok (B := B) (p := p1) 1 60 ht hz (by omega) (by omega) (by omega)
            have pm2 := iN_m9 (k := p2) (by omega)
            rcases q4' with ⟨⟨x1, x2, x3, x4⟩, x5, x6⟩ | ⟨x5, x6⟩
            · have c2 : ∀ G, CPs t z B p c W T G → f_X3_readNumber (63 + 2 * t) (iN 1) (iN 60) (sI G 39 0 (iN p1)) = some (iN v2, sI G 39 0 (iN p2)) := fun G hG => by
                have := x5 (sI G 39 0 (iN p1)) (cT_sI ht hG.1 (by omega)) sI_eq
                rw [sI_sI] at this
                exact this
              by_cases tot : T + v2 ≤ 200
              · right
                refine stT_mk (p' := p2) (a := a) (b := v1) (l := v2) ht h (by omega) (by omega) x3 hz ⟨a1, a6⟩ w2 x2 (fun _ => x1) tot (fun G hG => ?_) (fun H hH => ?_)
                · have v := cv G hG
                  have v' := cv2 G hG
                  have n1 := w5 G hG.1 hG.2.1
                  have n2 := c2 G hG
                  obtain ⟨k1, k2, k3, k4, k5, k6⟩ := hG
                  unfold f_X3_readStep
                  simp (disch := omega) only [chk_t, beq_self_eq_true, nm_s, bj1_s, bj2_s, bj3_s, mo_1, mo_0, l_0, l_1, l_2, l_3, l_4, l_5, l_6, l_7, l_8, l_9, l_10, l_11, l_12, l_13, l_14, l_15, l_16, l_17, l_18, l_19, l_20, l_21, l_30, l_31, l_32, l_36, l_40, l_41, l_42, l_43, l_44, l_45, l_46, l_47, l_48, l_49, l_50, l_51, l_52, l_57, l_58, l_60, l_64, l_72, l_80, l_92, l_98, l_99, l_100, l_102, l_105, l_111, l_112, l_114, l_115, l_116, l_117, l_120, l_144, l_200, l_201, l_240, l_300, l_320, l_400, l_500, l_550, l_560, l_649, l_650, l_1000, l_1400, l_2000, l_4000, l_10000, iN_add, iN_sub, iN_mul, iN_le_t, iN_le_f, iN_lt_t, iN_lt_f, iN_eq_f, inb_iN, ix_iN, isZ_0, isZ_1, ↓reduceIte, eq_self, kd_b ho, kd_b hk, k2, v, sk, ea0, k4, n1, sI_j, k3, sI_eq, v', n2, sI_p, k5]
                · have v := mv H hH
                  have n1 := m1 H hH
                  obtain ⟨A, n2, kA⟩ := ms H hH
                  have n3 := x6 A kA.1 kA.2.2.1
                  have l18 := kA.2.2.2.2.1
                  obtain ⟨l1, l2, l3, l4, l5⟩ := hH
                  rw [l4] at l18
                  refine ⟨sI (sI A 124 15 (iN p2)) 124 16 (iN v2), ?_, kM_16 kA⟩
                  unfold f_X8_readsStep f_X8_readsStep_j80_q6
                  simp (disch := omega) only [chk_t, beq_self_eq_true, nm_s, bj1_s, bj2_s, bj3_s, mo_1, mo_0, l_0, l_1, l_2, l_3, l_4, l_5, l_6, l_7, l_8, l_9, l_10, l_11, l_12, l_13, l_14, l_15, l_16, l_17, l_18, l_19, l_20, l_21, l_30, l_31, l_32, l_36, l_40, l_41, l_42, l_43, l_44, l_45, l_46, l_47, l_48, l_49, l_50, l_51, l_52, l_57, l_58, l_60, l_64, l_72, l_80, l_92, l_98, l_99, l_100, l_102, l_105, l_111, l_112, l_114, l_115, l_116, l_117, l_120, l_144, l_200, l_201, l_240, l_300, l_320, l_400, l_500, l_550, l_560, l_649, l_650, l_1000, l_1400, l_2000, l_4000, l_10000, iN_add, iN_sub, iN_mul, iN_le_t, iN_le_f, iN_lt_t, iN_lt_f, iN_eq_f, inb_iN, ix_iN, isZ_0, isZ_1, ↓reduceIte, eq_self, l2, v, so, ea9, l3, ec12, n1, n2, n3, sI_j, l18, sI_eq]
              · left
                refine stF_mk (q := p2) (by omega) (fun G hG => ⟨p2, ?_⟩) (fun H hH => ?_)
                · have v := cv G hG
                  have v' := cv2 G hG
                  have n1 := w5 G hG.1 hG.2.1
                  have n2 := c2 G hG
                  obtain ⟨k1, k2, k3, k4, k5, k6⟩ := hG
                  unfold f_X3_readStep
                  simp (disch := omega) only [chk_t, beq_self_eq_true, nm_s, bj1_s, bj2_s, bj3_s, mo_1, mo_0, l_0, l_1, l_2, l_3, l_4, l_5, l_6, l_7, l_8, l_9, l_10, l_11, l_12, l_13, l_14, l_15, l_16, l_17, l_18, l_19, l_20, l_21, l_30, l_31, l_32, l_36, l_40, l_41, l_42, l_43, l_44, l_45, l_46, l_47, l_48, l_49, l_50, l_51, l_52, l_57, l_58, l_60, l_64, l_72, l_80, l_92, l_98, l_99, l_100, l_102, l_105, l_111, l_112, l_114, l_115, l_116, l_117, l_120, l_144, l_200, l_201, l_240, l_300, l_320, l_400, l_500, l_550, l_560, l_649, l_650, l_1000, l_1400, l_2000, l_4000, l_10000, iN_add, iN_sub, iN_mul, iN_le_t, iN_le_f, iN_lt_t, iN_lt_f, iN_eq_f, inb_iN, ix_iN, isZ_0, isZ_1, ↓reduceIte, eq_self, kd_b ho, kd_b hk, k2, v, sk, ea0, k4, n1, sI_j, k3, sI_eq, v', n2, sI_p, k5, pm2]
                · have v := mv H hH
                  have n1 := m1 H hH
                  obtain ⟨A, n2, kA⟩ := ms H hH
                  have n3 := x6 A kA.1 kA.2.2.1
                  have l18 := kA.2.2.2.2.1
                  obtain ⟨l1, l2, l3, l4, l5⟩ := hH
                  rw [l4] at l18
                  refine ⟨sI (sI A 124 15 (iN p2)) 124 16 (iN v2), ?_, kM_16 kA⟩
                  unfold f_X8_readsStep f_X8_readsStep_j80_q6
                  simp (disch := omega) only [chk_t, beq_self_eq_true, nm_s, bj1_s, bj2_s, bj3_s, mo_1, mo_0, l_0, l_1, l_2, l_3, l_4, l_5, l_6, l_7, l_8, l_9, l_10, l_11, l_12, l_13, l_14, l_15, l_16, l_17, l_18, l_19, l_20, l_21, l_30, l_31, l_32, l_36, l_40, l_41, l_42, l_43, l_44, l_45, l_46, l_47, l_48, l_49, l_50, l_51, l_52, l_57, l_58, l_60, l_64, l_72, l_80, l_92, l_98, l_99, l_100, l_102, l_105, l_111, l_112, l_114, l_115, l_116, l_117, l_120, l_144, l_200, l_201, l_240, l_300, l_320, l_400, l_500, l_550, l_560, l_649, l_650, l_1000, l_1400, l_2000, l_4000, l_10000, iN_add, iN_sub, iN_mul, iN_le_t, iN_le_f, iN_lt_t, iN_lt_f, iN_eq_f, inb_iN, ix_iN, isZ_0, isZ_1, ↓reduceIte, eq_self, l2, v, so, ea9, l3, ec12, n1, n2, n3, sI_j, l18, sI_eq]
            · left
              refine stF_mk (q := p2) (by omega) (fun G hG => ⟨p2, ?_⟩) (fun H hH => ?_)
              · have v := cv G hG
                have v' := cv2 G hG
                have n1 := w5 G hG.1 hG.2.1
                have n2 := x5 (sI G 39 0 (iN p1)) (cT_sI ht hG.1 (by omega)) sI_eq
                rw [sI_sI] at n2
                obtain ⟨k1, k2, k3, k4, k5, k6⟩ := hG
                unfold f_X3_readStep
                simp (disch := omega) only [chk_t, beq_self_eq_true, nm_s, bj1_s, bj2_s, bj3_s, mo_1, mo_0, l_0, l_1, l_2, l_3, l_4, l_5, l_6, l_7, l_8, l_9, l_10, l_11, l_12, l_13, l_14, l_15, l_16, l_17, l_18, l_19, l_20, l_21, l_30, l_31, l_32, l_36, l_40, l_41, l_42, l_43, l_44, l_45, l_46, l_47, l_48, l_49, l_50, l_51, l_52, l_57, l_58, l_60, l_64, l_72, l_80, l_92, l_98, l_99, l_100, l_102, l_105, l_111, l_112, l_114, l_115, l_116, l_117, l_120, l_144, l_200, l_201, l_240, l_300, l_320, l_400, l_500, l_550, l_560, l_649, l_650, l_1000, l_1400, l_2000, l_4000, l_10000, iN_add, iN_sub, iN_mul, iN_le_t, iN_le_f, iN_lt_t, iN_lt_f, iN_eq_f, inb_iN, ix_iN, isZ_0, isZ_1, ↓reduceIte, eq_self, kd_b ho, kd_b hk, k2, v, sk, ea0, k4, n1, sI_j, k3, sI_eq, v', n2, pm2]
              · have v := mv H hH
                have n1 := m1 H hH
                obtain ⟨A, n2, kA⟩ := ms H hH
                have n3 := x6 A kA.1 kA.2.2.1
                obtain ⟨l1, l2, l3, l4, l5⟩ := hH
                refine ⟨sI (sI A 124 15 (iN p2)) 124 16 (iN v2), ?_, kM_16 kA⟩
                unfold f_X8_readsStep f_X8_readsStep_j80_q6
                simp (disch := omega) only [chk_t, beq_self_eq_true, nm_s, bj1_s, bj2_s, bj3_s, mo_1, mo_0, l_0, l_1, l_2, l_3, l_4, l_5, l_6, l_7, l_8, l_9, l_10, l_11, l_12, l_13, l_14, l_15, l_16, l_17, l_18, l_19, l_20, l_21, l_30, l_31, l_32, l_36, l_40, l_41, l_42, l_43, l_44, l_45, l_46, l_47, l_48, l_49, l_50, l_51, l_52, l_57, l_58, l_60, l_64, l_72, l_80, l_92, l_98, l_99, l_100, l_102, l_105, l_111, l_112, l_114, l_115, l_116, l_117, l_120, l_144, l_200, l_201, l_240, l_300, l_320, l_400, l_500, l_550, l_560, l_649, l_650, l_1000, l_1400, l_2000, l_4000, l_10000, iN_add, iN_sub, iN_mul, iN_le_t, iN_le_f, iN_lt_t, iN_lt_f, iN_eq_f, inb_iN, ix_iN, isZ_0, isZ_1, ↓reduceIte, eq_self, l2, v, so, ea9, l3, ec12, n1, n2, n3]
          · left
            have cv2 : ∀ G, CPs t z B p c W T G → f_X6_value (63 + 2 * t) (iN p1) (sI G 39 0 (iN p1)) = some (bC z B p1) := fun G hG => cval (p := p1) ht hz (cT_sI (q := 39) (j := 0) (v := iN p1) ht hG.1 (by omega)) (by omega)
            have ncol := eq_false col
            refine stF_mk (q := p1) (by omega) (fun G hG => ⟨p1, ?_⟩) (fun H hH => ?_)
            · have v := cv G hG
              have v' := cv2 G hG
              have n1 := w5 G hG.1 hG.2.1
              obtain ⟨k1, k2, k3, k4, k5, k6⟩ := hG
              unfold f_X3_readStep
              simp (disch := omega) only [chk_t, beq_self_eq_true, nm_s, bj1_s, bj2_s, bj3_s, mo_1, mo_0, l_0, l_1, l_2, l_3, l_4, l_5, l_6, l_7, l_8, l_9, l_10, l_11, l_12, l_13, l_14, l_15, l_16, l_17, l_18, l_19, l_20, l_21, l_30, l_31, l_32, l_36, l_40, l_41, l_42, l_43, l_44, l_45, l_46, l_47, l_48, l_49, l_50, l_51, l_52, l_57, l_58, l_60, l_64, l_72, l_80, l_92, l_98, l_99, l_100, l_102, l_105, l_111, l_112, l_114, l_115, l_116, l_117, l_120, l_144, l_200, l_201, l_240, l_300, l_320, l_400, l_500, l_550, l_560, l_649, l_650, l_1000, l_1400, l_2000, l_4000, l_10000, iN_add, iN_sub, iN_mul, iN_le_t, iN_le_f, iN_lt_t, iN_lt_f, iN_eq_f, inb_iN, ix_iN, isZ_0, isZ_1, ↓reduceIte, eq_self, kd_b ho, kd_b hk, k2, v, sk, ea0, k4, n1, sI_j, k3, sI_eq, v', ncol, pm1]
            · rcases sign_ok (q := p1) ht hz (by omega) (mid H hH 1 (m1 H hH)) with ⟨g, _⟩ | ⟨_, A, n2, kA⟩
              · exact absurd g col
              · have v := mv H hH
                have n1 := m1 H hH
                obtain ⟨l1, l2, l3, l4, l5⟩ := hH
                refine ⟨A, ?_, kA⟩
                unfold f_X8_readsStep
                simp (disch := omega) only [chk_t, beq_self_eq_true, nm_s, bj1_s, bj2_s, bj3_s, mo_1, mo_0, l_0, l_1, l_2, l_3, l_4, l_5, l_6, l_7, l_8, l_9, l_10, l_11, l_12, l_13, l_14, l_15, l_16, l_17, l_18, l_19, l_20, l_21, l_30, l_31, l_32, l_36, l_40, l_41, l_42, l_43, l_44, l_45, l_46, l_47, l_48, l_49, l_50, l_51, l_52, l_57, l_58, l_60, l_64, l_72, l_80, l_92, l_98, l_99, l_100, l_102, l_105, l_111, l_112, l_114, l_115, l_116, l_117, l_120, l_144, l_200, l_201, l_240, l_300, l_320, l_400, l_500, l_550, l_560, l_649, l_650, l_1000, l_1400, l_2000, l_4000, l_10000, iN_add, iN_sub, iN_mul, iN_le_t, iN_le_f, iN_lt_t, iN_lt_f, iN_eq_f, inb_iN, ix_iN, isZ_0, isZ_1, ↓reduceIte, eq_self, l2, v, so, ea9, l3, ec12, n1, n2]
        · left
          refine stF_mk (q := p1) (by omega) (fun G hG => ⟨p1, ?_⟩) (fun H hH => ⟨sI (sI H 124 15 (iN p1)) 124 16 (iN v1), ?_, kM_16 (kM_0 hH.1 hH.2.1)⟩)
          · have v := cv G hG
            have n1 := w5 G hG.1 hG.2.1
            obtain ⟨k1, k2, k3, k4, k5, k6⟩ := hG
            unfold f_X3_readStep
            simp (disch := omega) only [chk_t, beq_self_eq_true, nm_s, bj1_s, bj2_s, bj3_s, mo_1, mo_0, l_0, l_1, l_2, l_3, l_4, l_5, l_6, l_7, l_8, l_9, l_10, l_11, l_12, l_13, l_14, l_15, l_16, l_17, l_18, l_19, l_20, l_21, l_30, l_31, l_32, l_36, l_40, l_41, l_42, l_43, l_44, l_45, l_46, l_47, l_48, l_49, l_50, l_51, l_52, l_57, l_58, l_60, l_64, l_72, l_80, l_92, l_98, l_99, l_100, l_102, l_105, l_111, l_112, l_114, l_115, l_116, l_117, l_120, l_144, l_200, l_201, l_240, l_300, l_320, l_400, l_500, l_550, l_560, l_649, l_650, l_1000, l_1400, l_2000, l_4000, l_10000, iN_add, iN_sub, iN_mul, iN_le_t, iN_le_f, iN_lt_t, iN_lt_f, iN_eq_f, inb_iN, ix_iN, isZ_0, isZ_1, ↓reduceIte, eq_self, kd_b ho, kd_b hk, k2, v, sk, ea0, k4, n1, sI_eq, pm1]
          · have v := mv H hH
            have n1 := w6 (sI H 124 15 (iN (p + 1))) (mT_sI hH.1 (by omega)) sI_eq
            rw [sI_sI] at n1
            obtain ⟨l1, l2, l3, l4, l5⟩ := hH
            unfold f_X8_readsStep
            simp (disch := omega) only [chk_t, beq_self_eq_true, nm_s, bj1_s, bj2_s, bj3_s, mo_1, mo_0, l_0, l_1, l_2, l_3, l_4, l_5, l_6, l_7, l_8, l_9, l_10, l_11, l_12, l_13, l_14, l_15, l_16, l_17, l_18, l_19, l_20, l_21, l_30, l_31, l_32, l_36, l_40, l_41, l_42, l_43, l_44, l_45, l_46, l_47, l_48, l_49, l_50, l_51, l_52, l_57, l_58, l_60, l_64, l_72, l_80, l_92, l_98, l_99, l_100, l_102, l_105, l_111, l_112, l_114, l_115, l_116, l_117, l_120, l_144, l_200, l_201, l_240, l_300, l_320, l_400, l_500, l_550, l_560, l_649, l_650, l_1000, l_1400, l_2000, l_4000, l_10000, iN_add, iN_sub, iN_mul, iN_le_t, iN_le_f, iN_lt_t, iN_lt_f, iN_eq_f, inb_iN, ix_iN, isZ_0, isZ_1, ↓reduceIte, eq_self, l2, v, so, ea9, l3, ec12, n1]
      · by_cases a4 : a = 4
        · subst a4
          obtain ⟨p2, v2, q1', q2', q3', q4'⟩ := num_ok (B := B) (p := p) 1 60 ht hz (by omega) (by omega) (by omega)
          have pm2 := iN_m9 (k := p2) (by omega)
          rcases q4' with ⟨⟨x1, x2, x3, x4⟩, x5, x6⟩ | ⟨x5, x6⟩
          · by_cases tot : T + v2 ≤ 200
            · right
              refine stT_mk (p' := p2) (a := 4) (b := 0) (l := v2) ht h (by omega) (by omega) x3 hz ⟨a1, a6⟩ (by omega) x2 (fun _ => x1) tot (fun G hG => ?_) (fun H hH => ?_)
              · have v := cv G hG
                have n2 := x5 G hG.1 hG.2.1
                obtain ⟨k1, k2, k3, k4, k5, k6⟩ := hG
                unfold f_X3_readStep
                simp (disch := omega) only [chk_t, beq_self_eq_true, nm_s, bj1_s, bj2_s, bj3_s, mo_1, mo_0, l_0, l_1, l_2, l_3, l_4, l_5, l_6, l_7, l_8, l_9, l_10, l_11, l_12, l_13, l_14, l_15, l_16, l_17, l_18, l_19, l_20, l_21, l_30, l_31, l_32, l_36, l_40, l_41, l_42, l_43, l_44, l_45, l_46, l_47, l_48, l_49, l_50, l_51, l_52, l_57, l_58, l_60, l_64, l_72, l_80, l_92, l_98, l_99, l_100, l_102, l_105, l_111, l_112, l_114, l_115, l_116, l_117, l_120, l_144, l_200, l_201, l_240, l_300, l_320, l_400, l_500, l_550, l_560, l_649, l_650, l_1000, l_1400, l_2000, l_4000, l_10000, iN_add, iN_sub, iN_mul, iN_le_t, iN_le_f, iN_lt_t, iN_lt_f, iN_eq_f, inb_iN, ix_iN, isZ_0, isZ_1, ↓reduceIte, eq_self, kd_b ho, kd_b hk, k2, v, sk, ea0, k4, sI_j, k3, sI_eq, n2, sI_p, k5]
              · have v := mv H hH
                have n3 := x6 (sI H 124 15 (iN (p + 1))) (mT_sI hH.1 (by omega)) sI_eq
                rw [sI_sI] at n3
                have kA : kM t z B H (sI (sI H 124 15 (iN p2)) 124 16 (iN v2)) p2 := kM_16 (kM_0 hH.1 hH.2.1)
                obtain ⟨l1, l2, l3, l4, l5⟩ := hH
                refine ⟨sI (sI H 124 15 (iN p2)) 124 16 (iN v2), ?_, kA⟩
                unfold f_X8_readsStep f_X8_readsStep_j80_q6
                simp (disch := omega) only [chk_t, beq_self_eq_true, nm_s, bj1_s, bj2_s, bj3_s, mo_1, mo_0, l_0, l_1, l_2, l_3, l_4, l_5, l_6, l_7, l_8, l_9, l_10, l_11, l_12, l_13, l_14, l_15, l_16, l_17, l_18, l_19, l_20, l_21, l_30, l_31, l_32, l_36, l_40, l_41, l_42, l_43, l_44, l_45, l_46, l_47, l_48, l_49, l_50, l_51, l_52, l_57, l_58, l_60, l_64, l_72, l_80, l_92, l_98, l_99, l_100, l_102, l_105, l_111, l_112, l_114, l_115, l_116, l_117, l_120, l_144, l_200, l_201, l_240, l_300, l_320, l_400, l_500, l_550, l_560, l_649, l_650, l_1000, l_1400, l_2000, l_4000, l_10000, iN_add, iN_sub, iN_mul, iN_le_t, iN_le_f, iN_lt_t, iN_lt_f, iN_eq_f, inb_iN, ix_iN, isZ_0, isZ_1, ↓reduceIte, eq_self, l2, v, so, ea9, l3, ec12, n3, sI_j, l4, sI_eq]
            · left
              refine stF_mk (q := p2) (by omega) (fun G hG => ⟨p2, ?_⟩) (fun H hH => ?_)
              · have v := cv G hG
                have n2 := x5 G hG.1 hG.2.1
                obtain ⟨k1, k2, k3, k4, k5, k6⟩ := hG
                unfold f_X3_readStep
                simp (disch := omega) only [chk_t, beq_self_eq_true, nm_s, bj1_s, bj2_s, bj3_s, mo_1, mo_0, l_0, l_1, l_2, l_3, l_4, l_5, l_6, l_7, l_8, l_9, l_10, l_11, l_12, l_13, l_14, l_15, l_16, l_17, l_18, l_19, l_20, l_21, l_30, l_31, l_32, l_36, l_40, l_41, l_42, l_43, l_44, l_45, l_46, l_47, l_48, l_49, l_50, l_51, l_52, l_57, l_58, l_60, l_64, l_72, l_80, l_92, l_98, l_99, l_100, l_102, l_105, l_111, l_112, l_114, l_115, l_116, l_117, l_120, l_144, l_200, l_201, l_240, l_300, l_320, l_400, l_500, l_550, l_560, l_649, l_650, l_1000, l_1400, l_2000, l_4000, l_10000, iN_add, iN_sub, iN_mul, iN_le_t, iN_le_f, iN_lt_t, iN_lt_f, iN_eq_f, inb_iN, ix_iN, isZ_0, isZ_1, ↓reduceIte, eq_self, kd_b ho, kd_b hk, k2, v, sk, ea0, k4, sI_j, k3, sI_eq, n2, sI_p, k5, pm2]
              · have v := mv H hH
                have n3 := x6 (sI H 124 15 (iN (p + 1))) (mT_sI hH.1 (by omega)) sI_eq
                rw [sI_sI] at n3
                have kA : kM t z B H (sI (sI H 124 15 (iN p2)) 124 16 (iN v2)) p2 := kM_16 (kM_0 hH.1 hH.2.1)
                obtain ⟨l1, l2, l3, l4, l5⟩ := hH
                refine ⟨sI (sI H 124 15 (iN p2)) 124 16 (iN v2), ?_, kA⟩
                unfold f_X8_readsStep f_X8_readsStep_j80_q6
                simp (disch := omega) only [chk_t, beq_self_eq_true, nm_s, bj1_s, bj2_s, bj3_s, mo_1, mo_0, l_0, l_1, l_2, l_3, l_4, l_5, l_6, l_7, l_8, l_9, l_10, l_11, l_12, l_13, l_14, l_15, l_16, l_17, l_18, l_19, l_20, l_21, l_30, l_31, l_32, l_36, l_40, l_41, l_42, l_43, l_44, l_45, l_46, l_47, l_48, l_49, l_50, l_51, l_52, l_57, l_58, l_60, l_64, l_72, l_80, l_92, l_98, l_99, l_100, l_102, l_105, l_111, l_112, l_114, l_115, l_116, l_117, l_120, l_144, l_200, l_201, l_240, l_300, l_320, l_400, l_500, l_550, l_560, l_649, l_650, l_1000, l_1400, l_2000, l_4000, l_10000, iN_add, iN_sub, iN_mul, iN_le_t, iN_le_f, iN_lt_t, iN_lt_f, iN_eq_f, inb_iN, ix_iN, isZ_0, isZ_1, ↓reduceIte, eq_self, l2, v, so, ea9, l3, ec12, n3, sI_j, l4, sI_eq]
          · left
            refine stF_mk (q := p2) (by omega) (fun G hG => ⟨p2, ?_⟩) (fun H hH => ?_)
            · have v := cv G hG
              have n2 := x5 G hG.1 hG.2.1
              obtain ⟨k1, k2, k3, k4, k5, k6⟩ := hG
              unfold f_X3_readStep
              simp (disch := omega) only [chk_t, beq_self_eq_true, nm_s, bj1_s, bj2_s, bj3_s, mo_1, mo_0, l_0, l_1, l_2, l_3, l_4, l_5, l_6, l_7, l_8, l_9, l_10, l_11, l_12, l_13, l_14, l_15, l_16, l_17, l_18, l_19, l_20, l_21, l_30, l_31, l_32, l_36, l_40, l_41, l_42, l_43, l_44, l_45, l_46, l_47, l_48, l_49, l_50, l_51, l_52, l_57, l_58, l_60, l_64, l_72, l_80, l_92, l_98, l_99, l_100, l_102, l_105, l_111, l_112, l_114, l_115, l_116, l_117, l_120, l_144, l_200, l_201, l_240, l_300, l_320, l_400, l_500, l_550, l_560, l_649, l_650, l_1000, l_1400, l_2000, l_4000, l_10000, iN_add, iN_sub, iN_mul, iN_le_t, iN_le_f, iN_lt_t, iN_lt_f, iN_eq_f, inb_iN, ix_iN, isZ_0, isZ_1, ↓reduceIte, eq_self, kd_b ho, kd_b hk, k2, v, sk, ea0, k4, k3, sI_eq, n2, pm2]
            · have v := mv H hH
              have n3 := x6 (sI H 124 15 (iN (p + 1))) (mT_sI hH.1 (by omega)) sI_eq
              rw [sI_sI] at n3
              have kA : kM t z B H (sI (sI H 124 15 (iN p2)) 124 16 (iN v2)) p2 := kM_16 (kM_0 hH.1 hH.2.1)
              obtain ⟨l1, l2, l3, l4, l5⟩ := hH
              refine ⟨sI (sI H 124 15 (iN p2)) 124 16 (iN v2), ?_, kA⟩
              unfold f_X8_readsStep f_X8_readsStep_j80_q6
              simp (disch := omega) only [chk_t, beq_self_eq_true, nm_s, bj1_s, bj2_s, bj3_s, mo_1, mo_0, l_0, l_1, l_2, l_3, l_4, l_5, l_6, l_7, l_8, l_9, l_10, l_11, l_12, l_13, l_14, l_15, l_16, l_17, l_18, l_19, l_20, l_21, l_30, l_31, l_32, l_36, l_40, l_41, l_42, l_43, l_44, l_45, l_46, l_47, l_48, l_49, l_50, l_51, l_52, l_57, l_58, l_60, l_64, l_72, l_80, l_92, l_98, l_99, l_100, l_102, l_105, l_111, l_112, l_114, l_115, l_116, l_117, l_120, l_144, l_200, l_201, l_240, l_300, l_320, l_400, l_500, l_550, l_560, l_649, l_650, l_1000, l_1400, l_2000, l_4000, l_10000, iN_add, iN_sub, iN_mul, iN_le_t, iN_le_f, iN_lt_t, iN_lt_f, iN_eq_f, inb_iN, ix_iN, isZ_0, isZ_1, ↓reduceIte, eq_self, l2, v, so, ea9, l3, ec12, n3]
        · right
          have ea4 : (iN a = iN 4) = False := iN_eq_f a4 (by omega) (by omega)
          refine stT_mk (p' := p + 1) (a := a) (b := 0) (l := 0) ht h (by omega) (by omega) (by omega) hz ⟨a1, a6⟩ (by omega) (by omega) (fun h => by omega) (by omega) (fun G hG => ?_) (fun H hH => ⟨sI H 124 15 (iN (p + 1)), ?_, kM_15 (kM_0 hH.1 hH.2.1)⟩)
          · have v := cv G hG
            obtain ⟨k1, k2, k3, k4, k5, k6⟩ := hG
            unfold f_X3_readStep
            simp (disch := omega) only [chk_t, beq_self_eq_true, nm_s, bj1_s, bj2_s, bj3_s, mo_1, mo_0, l_0, l_1, l_2, l_3, l_4, l_5, l_6, l_7, l_8, l_9, l_10, l_11, l_12, l_13, l_14, l_15, l_16, l_17, l_18, l_19, l_20, l_21, l_30, l_31, l_32, l_36, l_40, l_41, l_42, l_43, l_44, l_45, l_46, l_47, l_48, l_49, l_50, l_51, l_52, l_57, l_58, l_60, l_64, l_72, l_80, l_92, l_98, l_99, l_100, l_102, l_105, l_111, l_112, l_114, l_115, l_116, l_117, l_120, l_144, l_200, l_201, l_240, l_300, l_320, l_400, l_500, l_550, l_560, l_649, l_650, l_1000, l_1400, l_2000, l_4000, l_10000, iN_add, iN_sub, iN_mul, iN_le_t, iN_le_f, iN_lt_t, iN_lt_f, iN_eq_f, inb_iN, ix_iN, isZ_0, isZ_1, ↓reduceIte, eq_self, kd_b ho, kd_b hk, k2, v, sk, ea0, k4, ea4, sI_j, k3, sI_p, k5]
          · have v := mv H hH
            obtain ⟨l1, l2, l3, l4, l5⟩ := hH
            unfold f_X8_readsStep f_X8_readsStep_j80_q6
            simp (disch := omega) only [chk_t, beq_self_eq_true, nm_s, bj1_s, bj2_s, bj3_s, mo_1, mo_0, l_0, l_1, l_2, l_3, l_4, l_5, l_6, l_7, l_8, l_9, l_10, l_11, l_12, l_13, l_14, l_15, l_16, l_17, l_18, l_19, l_20, l_21, l_30, l_31, l_32, l_36, l_40, l_41, l_42, l_43, l_44, l_45, l_46, l_47, l_48, l_49, l_50, l_51, l_52, l_57, l_58, l_60, l_64, l_72, l_80, l_92, l_98, l_99, l_100, l_102, l_105, l_111, l_112, l_114, l_115, l_116, l_117, l_120, l_144, l_200, l_201, l_240, l_300, l_320, l_400, l_500, l_550, l_560, l_649, l_650, l_1000, l_1400, l_2000, l_4000, l_10000, iN_add, iN_sub, iN_mul, iN_le_t, iN_le_f, iN_lt_t, iN_lt_f, iN_eq_f, inb_iN, ix_iN, isZ_0, isZ_1, ↓reduceIte, eq_self, l2, v, so, ea9, l3, ec12]
  · left
    refine stF_mk (q := p) (by omega) (fun G hG => ⟨p, ?_⟩) (fun H hH => ⟨H, ?_, kM_0 hH.1 hH.2.1⟩)
    · have v := cv G hG
      obtain ⟨k1, k2, k3, k4, k5, k6⟩ := hG
      rw [sI_self k2]
      unfold f_X3_readStep
      simp (disch := omega) only [chk_t, beq_self_eq_true, nm_s, bj1_s, bj2_s, bj3_s, mo_1, mo_0, l_0, l_1, l_2, l_3, l_4, l_5, l_6, l_7, l_8, l_9, l_10, l_11, l_12, l_13, l_14, l_15, l_16, l_17, l_18, l_19, l_20, l_21, l_30, l_31, l_32, l_36, l_40, l_41, l_42, l_43, l_44, l_45, l_46, l_47, l_48, l_49, l_50, l_51, l_52, l_57, l_58, l_60, l_64, l_72, l_80, l_92, l_98, l_99, l_100, l_102, l_105, l_111, l_112, l_114, l_115, l_116, l_117, l_120, l_144, l_200, l_201, l_240, l_300, l_320, l_400, l_500, l_550, l_560, l_649, l_650, l_1000, l_1400, l_2000, l_4000, l_10000, iN_add, iN_sub, iN_mul, iN_le_t, iN_le_f, iN_lt_t, iN_lt_f, iN_eq_f, inb_iN, ix_iN, isZ_0, isZ_1, ↓reduceIte, eq_self, kd_b ho, kd_b hk, k2, v, sk]
    · have v := mv H hH
      obtain ⟨l1, l2, l3, l4, l5⟩ := hH
      unfold f_X8_readsStep
      simp (disch := omega) only [chk_t, beq_self_eq_true, nm_s, bj1_s, bj2_s, bj3_s, mo_1, mo_0, l_0, l_1, l_2, l_3, l_4, l_5, l_6, l_7, l_8, l_9, l_10, l_11, l_12, l_13, l_14, l_15, l_16, l_17, l_18, l_19, l_20, l_21, l_30, l_31, l_32, l_36, l_40, l_41, l_42, l_43, l_44, l_45, l_46, l_47, l_48, l_49, l_50, l_51, l_52, l_57, l_58, l_60, l_64, l_72, l_80, l_92, l_98, l_99, l_100, l_102, l_105, l_111, l_112, l_114, l_115, l_116, l_117, l_120, l_144, l_200, l_201, l_240, l_300, l_320, l_400, l_500, l_550, l_560, l_649, l_650, l_1000, l_1400, l_2000, l_4000, l_10000, iN_add, iN_sub, iN_mul, iN_le_t, iN_le_f, iN_lt_t, iN_lt_f, iN_eq_f, inb_iN, ix_iN, isZ_0, isZ_1, ↓reduceIte, eq_self, l2, v, so]

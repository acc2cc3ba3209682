/-! a plan read from a text: the whole -/
theorem plan_all {t z : Nat} {B : Nat → Int32} (ht : t < 4) (hz : z ≤ 80) : ∀ (d p c : Nat) (W : Nat → Int32) (T : Nat), z - p ≤ d → p ≤ z → c ≤ p → pP W c T → ∃ (e : Int32) (c' : Nat) (W' : Nat → Int32) (T' : Nat), (e = -iN 9 → pP W' c' T') ∧
    (∀ (n : Nat) (G : G_), z - p < n → CPs t z B p c W T G → ∃ G', f_X3_readPlan_l17_7 (63 + 2 * t) 41 n (iN c) G = some G' ∧ cc G G' ∧ G'.1 39 1 = e ∧ (e = -iN 9 → G'.1 41 4 = iN c' ∧ G'.1 41 5 = iN T' ∧ ∀ i, i < c' → G'.1 42 i = W' (3 * i) ∧ G'.1 43 i = W' (3 * i + 1) ∧ G'.1 44 i = W' (3 * i + 2))) ∧
    (∀ (n : Nat) (H : G_), z - p < n → MPs t z B p c W T H → ∃ H', f_X8_planFault_l15_5 (iN t) n H = some (e, H') ∧ mf H H' ∧ (e = -iN 9 → H'.1 124 17 = iN c' ∧ ∀ j, j < 3 * c' → H'.1 137 j = W' j)) := by
  intro d
  induction d with
  | zero =>
    intro p c W T h1 h2 h3 hW
    have hpz : p = z := by omega
    subst hpz
    refine ⟨-iN 9, c, W, T, fun _ => hW, fun n G hn ⟨g1, g2, g3, g4, g5, g6⟩ => ?_, fun n H hn ⟨g1, g2, g3, g4, g5⟩ => ?_⟩
    · obtain ⟨n, rfl⟩ : ∃ k, n = k + 1 := ⟨n - 1, by omega⟩
      have sk := cskip (m := 0) ht hz g1 g2 (by omega) (fun i hi => by omega) (fun h => by omega)
      rw [show p + 0 = p from rfl, sI_self g2] at sk
      refine ⟨G, ?_, cc_refl, g3, fun _ => ⟨g4, g5, g6⟩⟩
      unfold f_X3_readPlan_l17_7
      simp (disch := omega) only [chk_t, beq_self_eq_true, nm_s, bj1_s, bj2_s, bj3_s, mo_1, mo_0, l_0, l_1, l_2, l_3, l_4, l_5, l_6, l_7, l_8, l_9, l_10, l_11, l_12, l_13, l_14, l_15, l_16, l_17, l_18, l_19, l_20, l_21, l_30, l_31, l_32, l_36, l_40, l_41, l_42, l_43, l_44, l_45, l_46, l_47, l_48, l_49, l_50, l_51, l_52, l_57, l_58, l_60, l_64, l_72, l_80, l_92, l_98, l_99, l_100, l_102, l_105, l_111, l_112, l_114, l_115, l_116, l_117, l_120, l_144, l_200, l_201, l_240, l_300, l_320, l_400, l_500, l_550, l_560, l_649, l_650, l_1000, l_1400, l_2000, l_4000, l_10000, iN_add, iN_sub, iN_mul, iN_le_t, iN_le_f, iN_lt_t, iN_lt_f, iN_eq_f, inb_iN, ix_iN, isZ_0, isZ_1, ↓reduceIte, eq_self, sk, g2, g1.1]
    · obtain ⟨n, rfl⟩ : ∃ k, n = k + 1 := ⟨n - 1, by omega⟩
      refine ⟨H, ?_, mf_refl, fun _ => ⟨g3, g5⟩⟩
      unfold f_X8_planFault_l15_5
      simp (disch := omega) only [chk_t, beq_self_eq_true, nm_s, bj1_s, bj2_s, bj3_s, mo_1, mo_0, l_0, l_1, l_2, l_3, l_4, l_5, l_6, l_7, l_8, l_9, l_10, l_11, l_12, l_13, l_14, l_15, l_16, l_17, l_18, l_19, l_20, l_21, l_30, l_31, l_32, l_36, l_40, l_41, l_42, l_43, l_44, l_45, l_46, l_47, l_48, l_49, l_50, l_51, l_52, l_57, l_58, l_60, l_64, l_72, l_80, l_92, l_98, l_99, l_100, l_102, l_105, l_111, l_112, l_114, l_115, l_116, l_117, l_120, l_144, l_200, l_201, l_240, l_300, l_320, l_400, l_500, l_550, l_560, l_649, l_650, l_1000, l_1400, l_2000, l_4000, l_10000, iN_add, iN_sub, iN_mul, iN_le_t, iN_le_f, iN_lt_t, iN_lt_f, iN_eq_f, inb_iN, ix_iN, isZ_0, isZ_1, ↓reduceIte, eq_self, g1.1, g2]
  | succ d ih =>
    intro p c W T h1 h2 h3 hW
    obtain ⟨m, k1, k2, k3⟩ := skp_ex z B (z - p) p (by omega) h2
    have cstart : ∀ G, CPs t z B p c W T G → f_X3_skipBlanks (63 + 2 * t) G = some (sI G 39 0 (iN (p + m))) ∧ CPs t z B (p + m) c W T (sI G 39 0 (iN (p + m))) ∧ cc G (sI G 39 0 (iN (p + m))) := fun G ⟨g1, g2, g3, g4, g5, g6⟩ => ⟨cskip ht hz g1 g2 k1 k2 k3, ⟨cT_sI ht g1 (by omega), sI_eq, by rw [sI_j (by omega)]; exact g3, by rw [sI_p (by omega)]; exact g4, by rw [sI_p (by omega)]; exact g5, fun j hj => by rw [sI_p (by omega), sI_p (by omega), sI_p (by omega)]; exact g6 j hj⟩, cc_sI cc_refl (by omega) (by omega)⟩
    have mstart : ∀ n H, z - p < n → MPs t z B p c W T H → ∃ n', z - (p + m) < n' + 1 ∧ f_X8_planFault_l15_5 (iN t) n H = f_X8_planFault_l15_5 (iN t) (n' + 1) (sI H 124 15 (iN (p + m))) ∧ MPs t z B (p + m) c W T (sI H 124 15 (iN (p + m))) ∧ mf H (sI H 124 15 (iN (p + m))) := fun n H hn ⟨g1, g2, g3, g4, g5⟩ => ⟨n - m - 1, by omega, by
        have := mpskip ht hz m (n - m - 1 + 1) p H g1 g2 k1 k2
        rw [show n - m - 1 + 1 + m = n by omega] at this
        exact this, ⟨mT_sI g1 (by omega), sI_eq, by rw [sI_j (by omega)]; exact g3, by rw [sI_j (by omega)]; exact g4, fun j hj => by rw [sI_p (by omega)]; exact g5 j hj⟩, mf_124 mf_refl (by omega)⟩
    by_cases cz : p + m < z
    · have ebT : bT z B (p + m) = B (p + m) := if_pos cz
      have n32 : (B (p + m) = iN 32) = False := eq_false (fun e => k3 ⟨cz, e⟩)
      rcases step_all ht hz cz hW with ⟨q, hq, s1, s2⟩ | ⟨p', W2, T2, q1, q2, q3, s1, s2⟩
      · have pm9 := iN_m9 (k := q) (by omega)
        refine ⟨iN q, 0, W, T, fun h => absurd h (of_eq_false pm9), fun n G hn hG => ?_, fun n H hn hH => ?_⟩
        · obtain ⟨n, rfl⟩ : ∃ k, n = k + 1 := ⟨n - 1, by omega⟩
          obtain ⟨g1, hA, g2⟩ := cstart G hG
          generalize sI G 39 0 (iN (p + m)) = A at *
          obtain ⟨C, f1, f2, f3⟩ := s1 A hA
          obtain ⟨a1, a2, a3, a4⟩ := hA
          refine ⟨C, ?_, cc_tr g2 f2, f3, fun h => absurd h (of_eq_false pm9)⟩
          unfold f_X3_readPlan_l17_7
          simp (disch := omega) only [chk_t, beq_self_eq_true, nm_s, bj1_s, bj2_s, bj3_s, mo_1, mo_0, l_0, l_1, l_2, l_3, l_4, l_5, l_6, l_7, l_8, l_9, l_10, l_11, l_12, l_13, l_14, l_15, l_16, l_17, l_18, l_19, l_20, l_21, l_30, l_31, l_32, l_36, l_40, l_41, l_42, l_43, l_44, l_45, l_46, l_47, l_48, l_49, l_50, l_51, l_52, l_57, l_58, l_60, l_64, l_72, l_80, l_92, l_98, l_99, l_100, l_102, l_105, l_111, l_112, l_114, l_115, l_116, l_117, l_120, l_144, l_200, l_201, l_240, l_300, l_320, l_400, l_500, l_550, l_560, l_649, l_650, l_1000, l_1400, l_2000, l_4000, l_10000, iN_add, iN_sub, iN_mul, iN_le_t, iN_le_f, iN_lt_t, iN_lt_f, iN_eq_f, inb_iN, ix_iN, isZ_0, isZ_1, ↓reduceIte, eq_self, g1, a2, a1.1, f1, f3, pm9]
        · obtain ⟨n', hn', g1, hA, g2⟩ := mstart n H hn hH
          rw [g1]
          generalize sI H 124 15 (iN (p + m)) = A at *
          obtain ⟨C, f1, f2, f3⟩ := s2 A hA
          obtain ⟨a1, a2, a3, a4⟩ := hA
          have val := mval (p := p + m) ht hz a1 (by omega)
          rw [ebT] at val
          refine ⟨C, ?_, mf_tr g2 f2, fun h => absurd h (of_eq_false pm9)⟩
          unfold f_X8_planFault_l15_5
          simp (disch := omega) only [chk_t, beq_self_eq_true, nm_s, bj1_s, bj2_s, bj3_s, mo_1, mo_0, l_0, l_1, l_2, l_3, l_4, l_5, l_6, l_7, l_8, l_9, l_10, l_11, l_12, l_13, l_14, l_15, l_16, l_17, l_18, l_19, l_20, l_21, l_30, l_31, l_32, l_36, l_40, l_41, l_42, l_43, l_44, l_45, l_46, l_47, l_48, l_49, l_50, l_51, l_52, l_57, l_58, l_60, l_64, l_72, l_80, l_92, l_98, l_99, l_100, l_102, l_105, l_111, l_112, l_114, l_115, l_116, l_117, l_120, l_144, l_200, l_201, l_240, l_300, l_320, l_400, l_500, l_550, l_560, l_649, l_650, l_1000, l_1400, l_2000, l_4000, l_10000, iN_add, iN_sub, iN_mul, iN_le_t, iN_le_f, iN_lt_t, iN_lt_f, iN_eq_f, inb_iN, ix_iN, isZ_0, isZ_1, ↓reduceIte, eq_self, a2, a1.1, val, n32, f1, f3]
      · obtain ⟨e, c', W', T', r1, r2, r3⟩ := ih p' (c + 1) W2 T2 (by omega) q2 (by omega) q3
        refine ⟨e, c', W', T', r1, fun n G hn hG => ?_, fun n H hn hH => ?_⟩
        · obtain ⟨n, rfl⟩ : ∃ k, n = k + 1 := ⟨n - 1, by omega⟩
          obtain ⟨g1, hA, g2⟩ := cstart G hG
          generalize sI G 39 0 (iN (p + m)) = A at *
          obtain ⟨C, f1, f2, f3⟩ := s1 A hA
          obtain ⟨a1, a2, a3, a4⟩ := hA
          obtain ⟨D, d1, d2, d3⟩ := r2 n C (by omega) f3
          refine ⟨D, ?_, cc_tr g2 (cc_tr f2 d2), d3⟩
          have b1 := f3.2.2.1
          unfold f_X3_readPlan_l17_7
          simp (disch := omega) only [chk_t, beq_self_eq_true, nm_s, bj1_s, bj2_s, bj3_s, mo_1, mo_0, l_0, l_1, l_2, l_3, l_4, l_5, l_6, l_7, l_8, l_9, l_10, l_11, l_12, l_13, l_14, l_15, l_16, l_17, l_18, l_19, l_20, l_21, l_30, l_31, l_32, l_36, l_40, l_41, l_42, l_43, l_44, l_45, l_46, l_47, l_48, l_49, l_50, l_51, l_52, l_57, l_58, l_60, l_64, l_72, l_80, l_92, l_98, l_99, l_100, l_102, l_105, l_111, l_112, l_114, l_115, l_116, l_117, l_120, l_144, l_200, l_201, l_240, l_300, l_320, l_400, l_500, l_550, l_560, l_649, l_650, l_1000, l_1400, l_2000, l_4000, l_10000, iN_add, iN_sub, iN_mul, iN_le_t, iN_le_f, iN_lt_t, iN_lt_f, iN_eq_f, inb_iN, ix_iN, isZ_0, isZ_1, ↓reduceIte, eq_self, g1, a2, a1.1, f1, b1]
          exact d1
        · obtain ⟨n', hn', g1, hA, g2⟩ := mstart n H hn hH
          rw [g1]
          generalize sI H 124 15 (iN (p + m)) = A at *
          obtain ⟨C, f1, f2, f3⟩ := s2 A hA
          obtain ⟨a1, a2, a3, a4⟩ := hA
          have val := mval (p := p + m) ht hz a1 (by omega)
          rw [ebT] at val
          obtain ⟨D, d1, d2, d3⟩ := r3 n' C (by omega) f3
          refine ⟨D, ?_, mf_tr g2 (mf_tr f2 d2), d3⟩
          unfold f_X8_planFault_l15_5
          simp (disch := omega) only [chk_t, beq_self_eq_true, nm_s, bj1_s, bj2_s, bj3_s, mo_1, mo_0, l_0, l_1, l_2, l_3, l_4, l_5, l_6, l_7, l_8, l_9, l_10, l_11, l_12, l_13, l_14, l_15, l_16, l_17, l_18, l_19, l_20, l_21, l_30, l_31, l_32, l_36, l_40, l_41, l_42, l_43, l_44, l_45, l_46, l_47, l_48, l_49, l_50, l_51, l_52, l_57, l_58, l_60, l_64, l_72, l_80, l_92, l_98, l_99, l_100, l_102, l_105, l_111, l_112, l_114, l_115, l_116, l_117, l_120, l_144, l_200, l_201, l_240, l_300, l_320, l_400, l_500, l_550, l_560, l_649, l_650, l_1000, l_1400, l_2000, l_4000, l_10000, iN_add, iN_sub, iN_mul, iN_le_t, iN_le_f, iN_lt_t, iN_lt_f, iN_eq_f, inb_iN, ix_iN, isZ_0, isZ_1, ↓reduceIte, eq_self, a2, a1.1, val, n32, f1]
          exact d1
    · have hpz : p + m = z := by omega
      refine ⟨-iN 9, c, W, T, fun _ => hW, fun n G hn hG => ?_, fun n H hn hH => ?_⟩
      · obtain ⟨n, rfl⟩ : ∃ k, n = k + 1 := ⟨n - 1, by omega⟩
        obtain ⟨g1, hA, g2⟩ := cstart G hG
        generalize sI G 39 0 (iN (p + m)) = A at *
        obtain ⟨a1, a2, a3, a4, a5, a6⟩ := hA
        refine ⟨A, ?_, g2, a3, fun _ => ⟨a4, a5, a6⟩⟩
        unfold f_X3_readPlan_l17_7
        simp (disch := omega) only [chk_t, beq_self_eq_true, nm_s, bj1_s, bj2_s, bj3_s, mo_1, mo_0, l_0, l_1, l_2, l_3, l_4, l_5, l_6, l_7, l_8, l_9, l_10, l_11, l_12, l_13, l_14, l_15, l_16, l_17, l_18, l_19, l_20, l_21, l_30, l_31, l_32, l_36, l_40, l_41, l_42, l_43, l_44, l_45, l_46, l_47, l_48, l_49, l_50, l_51, l_52, l_57, l_58, l_60, l_64, l_72, l_80, l_92, l_98, l_99, l_100, l_102, l_105, l_111, l_112, l_114, l_115, l_116, l_117, l_120, l_144, l_200, l_201, l_240, l_300, l_320, l_400, l_500, l_550, l_560, l_649, l_650, l_1000, l_1400, l_2000, l_4000, l_10000, iN_add, iN_sub, iN_mul, iN_le_t, iN_le_f, iN_lt_t, iN_lt_f, iN_eq_f, inb_iN, ix_iN, isZ_0, isZ_1, ↓reduceIte, eq_self, g1, a2, a1.1]
      · obtain ⟨n', hn', g1, hA, g2⟩ := mstart n H hn hH
        rw [g1]
        generalize sI H 124 15 (iN (p + m)) = A at *
        obtain ⟨a1, a2, a3, a4, a5⟩ := hA
        refine ⟨A, ?_, g2, fun _ => ⟨a3, a5⟩⟩
        unfold f_X8_planFault_l15_5
        simp (disch := omega) only [chk_t, beq_self_eq_true, nm_s, bj1_s, bj2_s, bj3_s, mo_1, mo_0, l_0, l_1, l_2, l_3, l_4, l_5, l_6, l_7, l_8, l_9, l_10, l_11, l_12, l_13, l_14, l_15, l_16, l_17, l_18, l_19, l_20, l_21, l_30, l_31, l_32, l_36, l_40, l_41, l_42, l_43, l_44, l_45, l_46, l_47, l_48, l_49, l_50, l_51, l_52, l_57, l_58, l_60, l_64, l_72, l_80, l_92, l_98, l_99, l_100, l_102, l_105, l_111, l_112, l_114, l_115, l_116, l_117, l_120, l_144, l_200, l_201, l_240, l_300, l_320, l_400, l_500, l_550, l_560, l_649, l_650, l_1000, l_1400, l_2000, l_4000, l_10000, iN_add, iN_sub, iN_mul, iN_le_t, iN_le_f, iN_lt_t, iN_lt_f, iN_eq_f, inb_iN, ix_iN, isZ_0, isZ_1, ↓reduceIte, eq_self, a2, a1.1]
theorem plan_read {t z : Nat} {B : Nat → Int32} (ht : t < 4) (hz : z ≤ 80) : ∃ (e : Int32) (c' : Nat) (W' : Nat → Int32) (T' : Nat), (e = -iN 9 → pP W' c' T') ∧
    (∀ G : G_, cT t z B G → ∃ G', f_X3_readPlan (63 + 2 * t) 41 G = some G' ∧ cc G G' ∧ G'.1 39 1 = e ∧ (e = -iN 9 → G'.1 41 4 = iN c' ∧ G'.1 41 5 = iN T' ∧ ∀ i, i < c' → G'.1 42 i = W' (3 * i) ∧ G'.1 43 i = W' (3 * i + 1) ∧ G'.1 44 i = W' (3 * i + 2))) ∧
    (∀ H : G_, mT t z B H → ∃ H', f_X8_planFault (iN t) H = some (e, H') ∧ mf H H' ∧ (e = -iN 9 → H'.1 124 17 = iN c' ∧ ∀ j, j < 3 * c' → H'.1 137 j = W' j)) := by
  obtain ⟨e, c', W', T', h1, h2, h3⟩ := plan_all (B := B) ht hz z 0 0 (fun _ => iN 0) 0 (by omega) (by omega) (by omega) ⟨by omega, by omega, fun i hi => by omega, rfl⟩
  have ho := (rtk t ht).2
  have hk : kd 41 = 2 := rfl
  refine ⟨e, c', W', T', h1, fun G hG => ?_, fun H hH => ?_⟩
  · obtain ⟨A, hA⟩ : ∃ A, A = sI (sI (sI (sI (sI G 39 0 (iN 0)) 39 1 (-iN 9)) 41 3 (iN 1)) 41 4 (iN 0)) 41 5 (iN 0) := ⟨_, rfl⟩
    have hc : CPs t z B 0 0 (fun _ => iN 0) 0 A := by
      rw [hA]
      refine ⟨?_, ?_, ?_, ?_, ?_, fun j hj => by omega⟩
      · exact cT_sI ht (cT_sI ht (cT_sI ht (cT_sI ht (cT_sI ht hG (by omega)) (by omega)) (by omega)) (by omega)) (by omega)
      · simp (disch := omega) only [chk_t, beq_self_eq_true, nm_s, bj1_s, bj2_s, bj3_s, mo_1, mo_0, l_0, l_1, l_2, l_3, l_4, l_5, l_6, l_7, l_8, l_9, l_10, l_11, l_12, l_13, l_14, l_15, l_16, l_17, l_18, l_19, l_20, l_21, l_30, l_31, l_32, l_36, l_40, l_41, l_42, l_43, l_44, l_45, l_46, l_47, l_48, l_49, l_50, l_51, l_52, l_57, l_58, l_60, l_64, l_72, l_80, l_92, l_98, l_99, l_100, l_102, l_105, l_111, l_112, l_114, l_115, l_116, l_117, l_120, l_144, l_200, l_201, l_240, l_300, l_320, l_400, l_500, l_550, l_560, l_649, l_650, l_1000, l_1400, l_2000, l_4000, l_10000, iN_add, iN_sub, iN_mul, iN_le_t, iN_le_f, iN_lt_t, iN_lt_f, iN_eq_f, inb_iN, ix_iN, isZ_0, isZ_1, ↓reduceIte, eq_self, sI_p, sI_j, sI_eq]
      · simp (disch := omega) only [chk_t, beq_self_eq_true, nm_s, bj1_s, bj2_s, bj3_s, mo_1, mo_0, l_0, l_1, l_2, l_3, l_4, l_5, l_6, l_7, l_8, l_9, l_10, l_11, l_12, l_13, l_14, l_15, l_16, l_17, l_18, l_19, l_20, l_21, l_30, l_31, l_32, l_36, l_40, l_41, l_42, l_43, l_44, l_45, l_46, l_47, l_48, l_49, l_50, l_51, l_52, l_57, l_58, l_60, l_64, l_72, l_80, l_92, l_98, l_99, l_100, l_102, l_105, l_111, l_112, l_114, l_115, l_116, l_117, l_120, l_144, l_200, l_201, l_240, l_300, l_320, l_400, l_500, l_550, l_560, l_649, l_650, l_1000, l_1400, l_2000, l_4000, l_10000, iN_add, iN_sub, iN_mul, iN_le_t, iN_le_f, iN_lt_t, iN_lt_f, iN_eq_f, inb_iN, ix_iN, isZ_0, isZ_1, ↓reduceIte, eq_self, sI_p, sI_eq]
      · simp (disch := omega) only [chk_t, beq_self_eq_true, nm_s, bj1_s, bj2_s, bj3_s, mo_1, mo_0, l_0, l_1, l_2, l_3, l_4, l_5, l_6, l_7, l_8, l_9, l_10, l_11, l_12, l_13, l_14, l_15, l_16, l_17, l_18, l_19, l_20, l_21, l_30, l_31, l_32, l_36, l_40, l_41, l_42, l_43, l_44, l_45, l_46, l_47, l_48, l_49, l_50, l_51, l_52, l_57, l_58, l_60, l_64, l_72, l_80, l_92, l_98, l_99, l_100, l_102, l_105, l_111, l_112, l_114, l_115, l_116, l_117, l_120, l_144, l_200, l_201, l_240, l_300, l_320, l_400, l_500, l_550, l_560, l_649, l_650, l_1000, l_1400, l_2000, l_4000, l_10000, iN_add, iN_sub, iN_mul, iN_le_t, iN_le_f, iN_lt_t, iN_lt_f, iN_eq_f, inb_iN, ix_iN, isZ_0, isZ_1, ↓reduceIte, eq_self, sI_j, sI_eq]
      · simp (disch := omega) only [chk_t, beq_self_eq_true, nm_s, bj1_s, bj2_s, bj3_s, mo_1, mo_0, l_0, l_1, l_2, l_3, l_4, l_5, l_6, l_7, l_8, l_9, l_10, l_11, l_12, l_13, l_14, l_15, l_16, l_17, l_18, l_19, l_20, l_21, l_30, l_31, l_32, l_36, l_40, l_41, l_42, l_43, l_44, l_45, l_46, l_47, l_48, l_49, l_50, l_51, l_52, l_57, l_58, l_60, l_64, l_72, l_80, l_92, l_98, l_99, l_100, l_102, l_105, l_111, l_112, l_114, l_115, l_116, l_117, l_120, l_144, l_200, l_201, l_240, l_300, l_320, l_400, l_500, l_550, l_560, l_649, l_650, l_1000, l_1400, l_2000, l_4000, l_10000, iN_add, iN_sub, iN_mul, iN_le_t, iN_le_f, iN_lt_t, iN_lt_f, iN_eq_f, inb_iN, ix_iN, isZ_0, isZ_1, ↓reduceIte, eq_self, sI_j, sI_eq]
    have ccA : cc G A := by
      rw [hA]
      exact cc_sI (cc_sI (cc_sI (cc_sI (cc_sI cc_refl (by omega) (by omega)) (by omega) (by omega)) (by omega) (by omega)) (by omega) (by omega)) (by omega) (by omega)
    obtain ⟨G', g1, g2, g3⟩ := h2 FU A (by have : 100 < FU := fu_lt (by omega); omega) hc
    refine ⟨G', ?_, cc_tr ccA g2, g3⟩
    rw [hA] at g1
    unfold f_X3_readPlan f_X2_begin
    simp (disch := omega) only [chk_t, beq_self_eq_true, nm_s, bj1_s, bj2_s, bj3_s, mo_1, mo_0, l_0, l_1, l_2, l_3, l_4, l_5, l_6, l_7, l_8, l_9, l_10, l_11, l_12, l_13, l_14, l_15, l_16, l_17, l_18, l_19, l_20, l_21, l_30, l_31, l_32, l_36, l_40, l_41, l_42, l_43, l_44, l_45, l_46, l_47, l_48, l_49, l_50, l_51, l_52, l_57, l_58, l_60, l_64, l_72, l_80, l_92, l_98, l_99, l_100, l_102, l_105, l_111, l_112, l_114, l_115, l_116, l_117, l_120, l_144, l_200, l_201, l_240, l_300, l_320, l_400, l_500, l_550, l_560, l_649, l_650, l_1000, l_1400, l_2000, l_4000, l_10000, iN_add, iN_sub, iN_mul, iN_le_t, iN_le_f, iN_lt_t, iN_lt_f, iN_eq_f, inb_iN, ix_iN, isZ_0, isZ_1, ↓reduceIte, eq_self, kd_b ho, kd_b hk]
    exact g1
  · obtain ⟨A, hA⟩ : ∃ A, A = sI (sI (sI H 124 15 (iN 0)) 124 17 (iN 0)) 124 18 (iN 0) := ⟨_, rfl⟩
    have hm : MPs t z B 0 0 (fun _ => iN 0) 0 A := by
      rw [hA]
      refine ⟨mT_sI (mT_sI (mT_sI hH (by omega)) (by omega)) (by omega), ?_, ?_, ?_, fun j hj => by omega⟩
      · simp (disch := omega) only [chk_t, beq_self_eq_true, nm_s, bj1_s, bj2_s, bj3_s, mo_1, mo_0, l_0, l_1, l_2, l_3, l_4, l_5, l_6, l_7, l_8, l_9, l_10, l_11, l_12, l_13, l_14, l_15, l_16, l_17, l_18, l_19, l_20, l_21, l_30, l_31, l_32, l_36, l_40, l_41, l_42, l_43, l_44, l_45, l_46, l_47, l_48, l_49, l_50, l_51, l_52, l_57, l_58, l_60, l_64, l_72, l_80, l_92, l_98, l_99, l_100, l_102, l_105, l_111, l_112, l_114, l_115, l_116, l_117, l_120, l_144, l_200, l_201, l_240, l_300, l_320, l_400, l_500, l_550, l_560, l_649, l_650, l_1000, l_1400, l_2000, l_4000, l_10000, iN_add, iN_sub, iN_mul, iN_le_t, iN_le_f, iN_lt_t, iN_lt_f, iN_eq_f, inb_iN, ix_iN, isZ_0, isZ_1, ↓reduceIte, eq_self, sI_j, sI_eq]
      · simp (disch := omega) only [chk_t, beq_self_eq_true, nm_s, bj1_s, bj2_s, bj3_s, mo_1, mo_0, l_0, l_1, l_2, l_3, l_4, l_5, l_6, l_7, l_8, l_9, l_10, l_11, l_12, l_13, l_14, l_15, l_16, l_17, l_18, l_19, l_20, l_21, l_30, l_31, l_32, l_36, l_40, l_41, l_42, l_43, l_44, l_45, l_46, l_47, l_48, l_49, l_50, l_51, l_52, l_57, l_58, l_60, l_64, l_72, l_80, l_92, l_98, l_99, l_100, l_102, l_105, l_111, l_112, l_114, l_115, l_116, l_117, l_120, l_144, l_200, l_201, l_240, l_300, l_320, l_400, l_500, l_550, l_560, l_649, l_650, l_1000, l_1400, l_2000, l_4000, l_10000, iN_add, iN_sub, iN_mul, iN_le_t, iN_le_f, iN_lt_t, iN_lt_f, iN_eq_f, inb_iN, ix_iN, isZ_0, isZ_1, ↓reduceIte, eq_self, sI_j, sI_eq]
      · simp (disch := omega) only [chk_t, beq_self_eq_true, nm_s, bj1_s, bj2_s, bj3_s, mo_1, mo_0, l_0, l_1, l_2, l_3, l_4, l_5, l_6, l_7, l_8, l_9, l_10, l_11, l_12, l_13, l_14, l_15, l_16, l_17, l_18, l_19, l_20, l_21, l_30, l_31, l_32, l_36, l_40, l_41, l_42, l_43, l_44, l_45, l_46, l_47, l_48, l_49, l_50, l_51, l_52, l_57, l_58, l_60, l_64, l_72, l_80, l_92, l_98, l_99, l_100, l_102, l_105, l_111, l_112, l_114, l_115, l_116, l_117, l_120, l_144, l_200, l_201, l_240, l_300, l_320, l_400, l_500, l_550, l_560, l_649, l_650, l_1000, l_1400, l_2000, l_4000, l_10000, iN_add, iN_sub, iN_mul, iN_le_t, iN_le_f, iN_lt_t, iN_lt_f, iN_eq_f, inb_iN, ix_iN, isZ_0, isZ_1, ↓reduceIte, eq_self, sI_eq]
    have mfA : mf H A := by
      rw [hA]
      exact mf_124 (mf_124 (mf_124 mf_refl (by omega)) (by omega)) (by omega)
    obtain ⟨H', g1, g2, g3⟩ := h3 FU A (by have : 100 < FU := fu_lt (by omega); omega) hm
    refine ⟨H', ?_, mf_tr mfA g2, g3⟩
    rw [hA] at g1
    unfold f_X8_planFault
    simp (disch := omega) only [chk_t, beq_self_eq_true, nm_s, bj1_s, bj2_s, bj3_s, mo_1, mo_0, l_0, l_1, l_2, l_3, l_4, l_5, l_6, l_7, l_8, l_9, l_10, l_11, l_12, l_13, l_14, l_15, l_16, l_17, l_18, l_19, l_20, l_21, l_30, l_31, l_32, l_36, l_40, l_41, l_42, l_43, l_44, l_45, l_46, l_47, l_48, l_49, l_50, l_51, l_52, l_57, l_58, l_60, l_64, l_72, l_80, l_92, l_98, l_99, l_100, l_102, l_105, l_111, l_112, l_114, l_115, l_116, l_117, l_120, l_144, l_200, l_201, l_240, l_300, l_320, l_400, l_500, l_550, l_560, l_649, l_650, l_1000, l_1400, l_2000, l_4000, l_10000, iN_add, iN_sub, iN_mul, iN_le_t, iN_le_f, iN_lt_t, iN_lt_f, iN_eq_f, inb_iN, ix_iN, isZ_0, isZ_1, ↓reduceIte, eq_self]
    exact g1
theorem op_fault (a1 a2 : Int32) {G : G_} (h : RR G) : pOK (f_X7_fault a1 a2) (f_X8_fault a1 a2) G := by
  rcases text_cases a1 G with ⟨e1, c1⟩ | ⟨t, ht, rfl, e1, c1, ho⟩
  · refine pOK_same (x := -iN 1) h ?_ (by unfold f_X8_fault; simp (disch := omega) only [chk_t, beq_self_eq_true, nm_s, bj1_s, bj2_s, bj3_s, mo_1, mo_0, l_0, l_1, l_2, l_3, l_4, l_5, l_6, l_7, l_8, l_9, l_10, l_11, l_12, l_13, l_14, l_15, l_16, l_17, l_18, l_19, l_20, l_21, l_30, l_31, l_32, l_36, l_40, l_41, l_42, l_43, l_44, l_45, l_46, l_47, l_48, l_49, l_50, l_51, l_52, l_57, l_58, l_60, l_64, l_72, l_80, l_92, l_98, l_99, l_100, l_102, l_105, l_111, l_112, l_114, l_115, l_116, l_117, l_120, l_144, l_200, l_201, l_240, l_300, l_320, l_400, l_500, l_550, l_560, l_649, l_650, l_1000, l_1400, l_2000, l_4000, l_10000, iN_add, iN_sub, iN_mul, iN_le_t, iN_le_f, iN_lt_t, iN_lt_f, iN_eq_f, inb_iN, ix_iN, isZ_0, isZ_1, ↓reduceIte, eq_self, text8, e1])
    unfold f_X7_fault
    simp (disch := omega) only [chk_t, beq_self_eq_true, nm_s, bj1_s, bj2_s, bj3_s, mo_1, mo_0, l_0, l_1, l_2, l_3, l_4, l_5, l_6, l_7, l_8, l_9, l_10, l_11, l_12, l_13, l_14, l_15, l_16, l_17, l_18, l_19, l_20, l_21, l_30, l_31, l_32, l_36, l_40, l_41, l_42, l_43, l_44, l_45, l_46, l_47, l_48, l_49, l_50, l_51, l_52, l_57, l_58, l_60, l_64, l_72, l_80, l_92, l_98, l_99, l_100, l_102, l_105, l_111, l_112, l_114, l_115, l_116, l_117, l_120, l_144, l_200, l_201, l_240, l_300, l_320, l_400, l_500, l_550, l_560, l_649, l_650, l_1000, l_1400, l_2000, l_4000, l_10000, iN_add, iN_sub, iN_mul, iN_le_t, iN_le_f, iN_lt_t, iN_lt_f, iN_eq_f, inb_iN, ix_iN, isZ_0, isZ_1, ↓reduceIte, eq_self, c1]
  · obtain ⟨t1, t2, t3⟩ := h.1.2.1 t ht
    rcases t2 with t2 | ⟨z, hz, t2⟩
    · have tt := tthere_f ho (t1.trans t2)
      refine pOK_found (f := 1) (by omega) h ?_ ?_
      · unfold f_X7_fault
        simp (disch := omega) only [chk_t, beq_self_eq_true, nm_s, bj1_s, bj2_s, bj3_s, mo_1, mo_0, l_0, l_1, l_2, l_3, l_4, l_5, l_6, l_7, l_8, l_9, l_10, l_11, l_12, l_13, l_14, l_15, l_16, l_17, l_18, l_19, l_20, l_21, l_30, l_31, l_32, l_36, l_40, l_41, l_42, l_43, l_44, l_45, l_46, l_47, l_48, l_49, l_50, l_51, l_52, l_57, l_58, l_60, l_64, l_72, l_80, l_92, l_98, l_99, l_100, l_102, l_105, l_111, l_112, l_114, l_115, l_116, l_117, l_120, l_144, l_200, l_201, l_240, l_300, l_320, l_400, l_500, l_550, l_560, l_649, l_650, l_1000, l_1400, l_2000, l_4000, l_10000, iN_add, iN_sub, iN_mul, iN_le_t, iN_le_f, iN_lt_t, iN_lt_f, iN_eq_f, inb_iN, ix_iN, isZ_0, isZ_1, ↓reduceIte, eq_self, c1, kd_b ho, tt, found_ok]
      · unfold f_X8_fault
        simp (disch := omega) only [chk_t, beq_self_eq_true, nm_s, bj1_s, bj2_s, bj3_s, mo_1, mo_0, l_0, l_1, l_2, l_3, l_4, l_5, l_6, l_7, l_8, l_9, l_10, l_11, l_12, l_13, l_14, l_15, l_16, l_17, l_18, l_19, l_20, l_21, l_30, l_31, l_32, l_36, l_40, l_41, l_42, l_43, l_44, l_45, l_46, l_47, l_48, l_49, l_50, l_51, l_52, l_57, l_58, l_60, l_64, l_72, l_80, l_92, l_98, l_99, l_100, l_102, l_105, l_111, l_112, l_114, l_115, l_116, l_117, l_120, l_144, l_200, l_201, l_240, l_300, l_320, l_400, l_500, l_550, l_560, l_649, l_650, l_1000, l_1400, l_2000, l_4000, l_10000, iN_add, iN_sub, iN_mul, iN_le_t, iN_le_f, iN_lt_t, iN_lt_f, iN_eq_f, inb_iN, ix_iN, isZ_0, isZ_1, ↓reduceIte, eq_self, text8, e1, fndC_o, t2, le_m1, meets_ok]
    · have tt := tthere_t ho (t1.trans t2) hz
      have hcT := cT_R2 h.1.2.1 ht t2 hz
      by_cases c2 : a2 = iN 0
      · obtain ⟨e, c', V', r1, r2, r3⟩ := slab_read (B := fun i => G.1 130 (80 * t + i)) ht hz
        obtain ⟨x, A, a1, a2', a3, -⟩ := r2 G hcT
        have eA : ∀ q, 49 < q → A.1 q = G.1 q := fun q hq => cc_at a2' hq
        obtain ⟨H, m0, m1, -⟩ := r3 A ⟨by rw [eA 129 (by omega)]; exact t2, fun i hi => by rw [eA 130 (by omega)]⟩
        have a129 : A.1 129 t = iN z := by rw [eA 129 (by omega)]; exact t2
        refine pOK_none (x := e) (G1 := A) (H := H) h ?_ a2' ?_ m1
        · unfold f_X7_fault
          simp (disch := omega) only [chk_t, beq_self_eq_true, nm_s, bj1_s, bj2_s, bj3_s, mo_1, mo_0, l_0, l_1, l_2, l_3, l_4, l_5, l_6, l_7, l_8, l_9, l_10, l_11, l_12, l_13, l_14, l_15, l_16, l_17, l_18, l_19, l_20, l_21, l_30, l_31, l_32, l_36, l_40, l_41, l_42, l_43, l_44, l_45, l_46, l_47, l_48, l_49, l_50, l_51, l_52, l_57, l_58, l_60, l_64, l_72, l_80, l_92, l_98, l_99, l_100, l_102, l_105, l_111, l_112, l_114, l_115, l_116, l_117, l_120, l_144, l_200, l_201, l_240, l_300, l_320, l_400, l_500, l_550, l_560, l_649, l_650, l_1000, l_1400, l_2000, l_4000, l_10000, iN_add, iN_sub, iN_mul, iN_le_t, iN_le_f, iN_lt_t, iN_lt_f, iN_eq_f, inb_iN, ix_iN, isZ_0, isZ_1, ↓reduceIte, eq_self, c1, kd_b ho, tt, c2, a1, a3]
        · unfold f_X8_fault
          simp (disch := omega) only [chk_t, beq_self_eq_true, nm_s, bj1_s, bj2_s, bj3_s, mo_1, mo_0, l_0, l_1, l_2, l_3, l_4, l_5, l_6, l_7, l_8, l_9, l_10, l_11, l_12, l_13, l_14, l_15, l_16, l_17, l_18, l_19, l_20, l_21, l_30, l_31, l_32, l_36, l_40, l_41, l_42, l_43, l_44, l_45, l_46, l_47, l_48, l_49, l_50, l_51, l_52, l_57, l_58, l_60, l_64, l_72, l_80, l_92, l_98, l_99, l_100, l_102, l_105, l_111, l_112, l_114, l_115, l_116, l_117, l_120, l_144, l_200, l_201, l_240, l_300, l_320, l_400, l_500, l_550, l_560, l_649, l_650, l_1000, l_1400, l_2000, l_4000, l_10000, iN_add, iN_sub, iN_mul, iN_le_t, iN_le_f, iN_lt_t, iN_lt_f, iN_eq_f, inb_iN, ix_iN, isZ_0, isZ_1, ↓reduceIte, eq_self, text8, e1, a129, c2, m0]
      · obtain ⟨e, c', W', T', r1, r2, r3⟩ := plan_read (B := fun i => G.1 130 (80 * t + i)) ht hz
        obtain ⟨A, a1, a2', a3, -⟩ := r2 G hcT
        have eA : ∀ q, 49 < q → A.1 q = G.1 q := fun q hq => cc_at a2' hq
        obtain ⟨H, m0, m1, -⟩ := r3 A ⟨by rw [eA 129 (by omega)]; exact t2, fun i hi => by rw [eA 130 (by omega)]⟩
        have a129 : A.1 129 t = iN z := by rw [eA 129 (by omega)]; exact t2
        have c2 := eq_false c2
        refine pOK_none (x := e) (G1 := A) (H := H) h ?_ a2' ?_ m1
        · unfold f_X7_fault
          simp (disch := omega) only [chk_t, beq_self_eq_true, nm_s, bj1_s, bj2_s, bj3_s, mo_1, mo_0, l_0, l_1, l_2, l_3, l_4, l_5, l_6, l_7, l_8, l_9, l_10, l_11, l_12, l_13, l_14, l_15, l_16, l_17, l_18, l_19, l_20, l_21, l_30, l_31, l_32, l_36, l_40, l_41, l_42, l_43, l_44, l_45, l_46, l_47, l_48, l_49, l_50, l_51, l_52, l_57, l_58, l_60, l_64, l_72, l_80, l_92, l_98, l_99, l_100, l_102, l_105, l_111, l_112, l_114, l_115, l_116, l_117, l_120, l_144, l_200, l_201, l_240, l_300, l_320, l_400, l_500, l_550, l_560, l_649, l_650, l_1000, l_1400, l_2000, l_4000, l_10000, iN_add, iN_sub, iN_mul, iN_le_t, iN_le_f, iN_lt_t, iN_lt_f, iN_eq_f, inb_iN, ix_iN, isZ_0, isZ_1, ↓reduceIte, eq_self, c1, kd_b ho, tt, c2, a1, a3]
        · unfold f_X8_fault
          simp (disch := omega) only [chk_t, beq_self_eq_true, nm_s, bj1_s, bj2_s, bj3_s, mo_1, mo_0, l_0, l_1, l_2, l_3, l_4, l_5, l_6, l_7, l_8, l_9, l_10, l_11, l_12, l_13, l_14, l_15, l_16, l_17, l_18, l_19, l_20, l_21, l_30, l_31, l_32, l_36, l_40, l_41, l_42, l_43, l_44, l_45, l_46, l_47, l_48, l_49, l_50, l_51, l_52, l_57, l_58, l_60, l_64, l_72, l_80, l_92, l_98, l_99, l_100, l_102, l_105, l_111, l_112, l_114, l_115, l_116, l_117, l_120, l_144, l_200, l_201, l_240, l_300, l_320, l_400, l_500, l_550, l_560, l_649, l_650, l_1000, l_1400, l_2000, l_4000, l_10000, iN_add, iN_sub, iN_mul, iN_le_t, iN_le_f, iN_lt_t, iN_lt_f, iN_eq_f, inb_iN, ix_iN, isZ_0, isZ_1, ↓reduceIte, eq_self, text8, e1, a129, c2, m0]
theorem RR_4 {G G' : G_} (h : RR G) (r4 : R4 G') (e : ∀ q, (1 ≤ q ∧ q ≤ 16) ∨ (50 ≤ q ∧ q < 75) ∨ (91 ≤ q ∧ q < 124) ∨ (125 ≤ q ∧ q ≤ 132 ∧ q ≠ 128) ∨ q = 138 → G'.1 q = G.1 q) (e9 : ∀ j, j < 448 → G'.1 139 j = G.1 139 j) (ez : isZ (G'.1 17 7) = true) (e0 : G'.1 0 15 = G.1 0 15) (e1 : G'.1 124 0 = G.1 124 0) (e2 : G'.2 = G.2) (ra : G'.1 0 16 = G'.1 124 2) : RR G' := by
  obtain ⟨⟨r1, r2, r3, _, r5, r6⟩, _⟩ := h
  refine ⟨⟨R1_fr r1 (fun q hq => e q (by omega)), R2_fr r2 (fun q hq => e q (by omega)), R3_fr r3 (fun q hq => e q (by omega)), r4, R5_fr r5 (fun q hq => e q (by omega)) e9, ?_⟩, ra⟩
  exact ⟨by rw [e0, e1]; exact r6.1, by rw [e 50 (by omega), e 125 (by omega)]; exact r6.2.1, by rw [e2]; exact r6.2.2.1, by rw [e2]; exact r6.2.2.2.1, ez⟩
theorem plancopy {k : Nat} {H : G_} (hk : k < 4) : ∃ H', f_X8_plan_l46_11 (iN k) FU (iN 0) H = some H' ∧ (∀ j, j < 36 → H'.1 135 (36 * k + j) = H.1 137 j) ∧ (∀ i, i < 36 * k ∨ 36 * k + 36 ≤ i → H'.1 135 i = H.1 135 i) ∧ (∀ q, q ≠ 135 → H'.1 q = H.1 q) ∧ H'.2 = H.2 := by
  refine loop_h (fun f v s => f_X8_plan_l46_11 (iN k) f v s) (fun j H' => (∀ i, i < j → H'.1 135 (36 * k + i) = H.1 137 i) ∧ (∀ i, i < 36 * k ∨ 36 * k + 36 ≤ i → H'.1 135 i = H.1 135 i) ∧ (∀ q, q ≠ 135 → H'.1 q = H.1 q) ∧ H'.2 = H.2) _ 0 36 ?_ ?_ (by omega) (n := FU) (fu_lt (by omega)) ⟨fun i hi => by omega, fun _ _ => rfl, fun _ _ => rfl, rfl⟩
  · intro f j A h3 h4 ⟨i0, i1, i2, i3⟩
    have e := congrFun (i2 137 (by omega)) j
    refine ⟨sI A 135 (36 * k + j) (H.1 137 j), ⟨fun i hi => ?_, fun i hi => by rw [sI_j (by omega)]; exact i1 i hi, fun q hq => by rw [sI_p hq]; exact i2 q hq, i3⟩, ?_⟩
    · by_cases c : i = j
      · subst c
        exact sI_eq
      · rw [sI_j (by omega)]
        exact i0 i (by omega)
    · show f_X8_plan_l46_11 (iN k) (f + 1) (iN j) A = _
      conv => lhs; unfold f_X8_plan_l46_11
      simp (disch := omega) only [chk_t, beq_self_eq_true, nm_s, bj1_s, bj2_s, bj3_s, mo_1, mo_0, l_0, l_1, l_2, l_3, l_4, l_5, l_6, l_7, l_8, l_9, l_10, l_11, l_12, l_13, l_14, l_15, l_16, l_17, l_18, l_19, l_20, l_21, l_30, l_31, l_32, l_36, l_40, l_41, l_42, l_43, l_44, l_45, l_46, l_47, l_48, l_49, l_50, l_51, l_52, l_57, l_58, l_60, l_64, l_72, l_80, l_92, l_98, l_99, l_100, l_102, l_105, l_111, l_112, l_114, l_115, l_116, l_117, l_120, l_144, l_200, l_201, l_240, l_300, l_320, l_400, l_500, l_550, l_560, l_649, l_650, l_1000, l_1400, l_2000, l_4000, l_10000, iN_add, iN_sub, iN_mul, iN_le_t, iN_le_f, iN_lt_t, iN_lt_f, iN_eq_f, inb_iN, ix_iN, isZ_0, isZ_1, ↓reduceIte, eq_self, e]
  · intro f A hI
    refine ⟨A, ?_, hI⟩
    show f_X8_plan_l46_11 (iN k) (f + 1) (iN 36) A = _
    unfold f_X8_plan_l46_11
    simp (disch := omega) only [chk_t, beq_self_eq_true, nm_s, bj1_s, bj2_s, bj3_s, mo_1, mo_0, l_0, l_1, l_2, l_3, l_4, l_5, l_6, l_7, l_8, l_9, l_10, l_11, l_12, l_13, l_14, l_15, l_16, l_17, l_18, l_19, l_20, l_21, l_30, l_31, l_32, l_36, l_40, l_41, l_42, l_43, l_44, l_45, l_46, l_47, l_48, l_49, l_50, l_51, l_52, l_57, l_58, l_60, l_64, l_72, l_80, l_92, l_98, l_99, l_100, l_102, l_105, l_111, l_112, l_114, l_115, l_116, l_117, l_120, l_144, l_200, l_201, l_240, l_300, l_320, l_400, l_500, l_550, l_560, l_649, l_650, l_1000, l_1400, l_2000, l_4000, l_10000, iN_add, iN_sub, iN_mul, iN_le_t, iN_le_f, iN_lt_t, iN_lt_f, iN_eq_f, inb_iN, ix_iN, isZ_0, isZ_1, ↓reduceIte, eq_self]

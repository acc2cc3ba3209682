/-! a plan read from a text: a step -/
def wOK (W : Nat → Int32) (i : Nat) : Prop := ∃ a b l : Nat, W (3 * i) = iN a ∧ W (3 * i + 1) = iN b ∧ W (3 * i + 2) = iN l ∧ 1 ≤ a ∧ a ≤ 6 ∧ b ≤ 30 ∧ l ≤ 60 ∧ (a ≤ 4 → 1 ≤ l)
def pP (W : Nat → Int32) (c T : Nat) : Prop := c ≤ 12 ∧ T ≤ 200 ∧ (∀ i, i < c → wOK W i) ∧ sumS (fun i => W (3 * i + 2)) c = iN T
def CPs (t z : Nat) (B : Nat → Int32) (p c : Nat) (W : Nat → Int32) (T : Nat) (G : G_) : Prop := cT t z B G ∧ G.1 39 0 = iN p ∧ G.1 39 1 = -iN 9 ∧ G.1 41 4 = iN c ∧ G.1 41 5 = iN T ∧ ∀ i, i < c → G.1 42 i = W (3 * i) ∧ G.1 43 i = W (3 * i + 1) ∧ G.1 44 i = W (3 * i + 2)
def MPs (t z : Nat) (B : Nat → Int32) (p c : Nat) (W : Nat → Int32) (T : Nat) (H : G_) : Prop := mT t z B H ∧ H.1 124 15 = iN p ∧ H.1 124 17 = iN c ∧ H.1 124 18 = iN T ∧ ∀ j, j < 3 * c → H.1 137 j = W j
def kM (t z : Nat) (B : Nat → Int32) (H A : G_) (q : Nat) : Prop := mT t z B A ∧ mf H A ∧ A.1 124 15 = iN q ∧ A.1 124 17 = H.1 124 17 ∧ A.1 124 18 = H.1 124 18 ∧ A.1 137 = H.1 137
theorem kM_15 {t z q q' : Nat} {B : Nat → Int32} {H A : G_} (h : kM t z B H A q) : kM t z B H (sI A 124 15 (iN q')) q' := by
  obtain ⟨h1, h2, h3, h4, h5, h6⟩ := h
  exact ⟨mT_sI h1 (by omega), mf_124 h2 (by omega), sI_eq, by rw [sI_j (by omega)]; exact h4, by rw [sI_j (by omega)]; exact h5, by rw [sI_p (by omega)]; exact h6⟩
theorem kM_16 {t z q q' : Nat} {v : Int32} {B : Nat → Int32} {H A : G_} (h : kM t z B H A q) : kM t z B H (sI (sI A 124 15 (iN q')) 124 16 v) q' := by
  obtain ⟨h1, h2, h3, h4, h5, h6⟩ := kM_15 (q' := q') h
  exact ⟨mT_sI h1 (by omega), mf_124 h2 (by omega), by rw [sI_j (by omega)]; exact h3, by rw [sI_j (by omega)]; exact h4, by rw [sI_j (by omega)]; exact h5, by rw [sI_p (by omega)]; exact h6⟩
theorem kM_0 {t z q : Nat} {B : Nat → Int32} {H : G_} (h : mT t z B H) (h2 : H.1 124 15 = iN q) : kM t z B H H q := ⟨h, mf_refl, h2, rfl, rfl, rfl⟩
theorem step_cases (x : Int32) : (∃ a, 1 ≤ a ∧ a ≤ 6 ∧ f_X3_stepKind x = some (iN a) ∧ f_X8_stepOf x = some (iN a)) ∨ (f_X3_stepKind x = some (iN 0) ∧ f_X8_stepOf x = some (-iN 9)) := by
  by_cases c0 : x = iN 98
  · subst c0
    exact Or.inl ⟨3, by omega, by omega, rfl, rfl⟩
  · by_cases c1 : x = iN 100
    · subst c1
      exact Or.inl ⟨6, by omega, by omega, rfl, rfl⟩
    · by_cases c2 : x = iN 105
      · subst c2
        exact Or.inl ⟨1, by omega, by omega, rfl, rfl⟩
      · by_cases c3 : x = iN 111
        · subst c3
          exact Or.inl ⟨2, by omega, by omega, rfl, rfl⟩
        · by_cases c4 : x = iN 114
          · subst c4
            exact Or.inl ⟨4, by omega, by omega, rfl, rfl⟩
          · by_cases c5 : x = iN 117
            · subst c5
              exact Or.inl ⟨5, by omega, by omega, rfl, rfl⟩
            · right
              unfold f_X3_stepKind f_X8_stepOf
              constructor
              · simp (disch := omega) only [chk_t, beq_self_eq_true, nm_s, bj1_s, bj2_s, bj3_s, mo_1, mo_0, l_0, l_1, l_2, l_3, l_4, l_5, l_6, l_7, l_8, l_9, l_10, l_11, l_12, l_13, l_14, l_15, l_16, l_17, l_18, l_19, l_20, l_21, l_30, l_31, l_32, l_36, l_40, l_41, l_42, l_43, l_44, l_45, l_46, l_47, l_48, l_49, l_50, l_51, l_52, l_57, l_58, l_60, l_64, l_72, l_80, l_92, l_98, l_99, l_100, l_102, l_105, l_111, l_112, l_114, l_115, l_116, l_117, l_120, l_144, l_200, l_201, l_240, l_300, l_320, l_400, l_500, l_550, l_560, l_649, l_650, l_1000, l_1400, l_2000, l_4000, l_10000, iN_add, iN_sub, iN_mul, iN_le_t, iN_le_f, iN_lt_t, iN_lt_f, iN_eq_f, inb_iN, ix_iN, isZ_0, isZ_1, ↓reduceIte, eq_self, eq_false c0, eq_false c1, eq_false c2, eq_false c3, eq_false c4, eq_false c5]
              · simp (disch := omega) only [chk_t, beq_self_eq_true, nm_s, bj1_s, bj2_s, bj3_s, mo_1, mo_0, l_0, l_1, l_2, l_3, l_4, l_5, l_6, l_7, l_8, l_9, l_10, l_11, l_12, l_13, l_14, l_15, l_16, l_17, l_18, l_19, l_20, l_21, l_30, l_31, l_32, l_36, l_40, l_41, l_42, l_43, l_44, l_45, l_46, l_47, l_48, l_49, l_50, l_51, l_52, l_57, l_58, l_60, l_64, l_72, l_80, l_92, l_98, l_99, l_100, l_102, l_105, l_111, l_112, l_114, l_115, l_116, l_117, l_120, l_144, l_200, l_201, l_240, l_300, l_320, l_400, l_500, l_550, l_560, l_649, l_650, l_1000, l_1400, l_2000, l_4000, l_10000, iN_add, iN_sub, iN_mul, iN_le_t, iN_le_f, iN_lt_t, iN_lt_f, iN_eq_f, inb_iN, ix_iN, isZ_0, isZ_1, ↓reduceIte, eq_self, eq_false c0, eq_false c1, eq_false c2, eq_false c3, eq_false c4, eq_false c5]
def stF (t z : Nat) (B : Nat → Int32) (p c : Nat) (W : Nat → Int32) (T : Nat) : Prop := ∃ q, q ≤ 100 ∧ (∀ G, CPs t z B p c W T G → ∃ G', f_X3_readStep (63 + 2 * t) 41 G = some G' ∧ cc G G' ∧ G'.1 39 1 = iN q) ∧ (∀ H, MPs t z B p c W T H → ∃ H', f_X8_readsStep (iN t) H = some (iN 0, H') ∧ mf H H' ∧ H'.1 124 15 = iN q)
def stT (t z : Nat) (B : Nat → Int32) (p c : Nat) (W : Nat → Int32) (T : Nat) : Prop := ∃ p' W' T', p < p' ∧ p' ≤ z ∧ pP W' (c + 1) T' ∧ (∀ G, CPs t z B p c W T G → ∃ G', f_X3_readStep (63 + 2 * t) 41 G = some G' ∧ cc G G' ∧ CPs t z B p' (c + 1) W' T' G') ∧ (∀ H, MPs t z B p c W T H → ∃ H', f_X8_readsStep (iN t) H = some (iN 1, H') ∧ mf H H' ∧ MPs t z B p' (c + 1) W' T' H')
theorem stF_mk {t z p c T q : Nat} {B W : Nat → Int32} (hq : q ≤ 100) (hc : ∀ G, CPs t z B p c W T G → ∃ j, f_X3_readStep (63 + 2 * t) 41 G = some (sI (sI G 39 0 (iN j)) 39 1 (iN q))) (hm : ∀ H, MPs t z B p c W T H → ∃ A, f_X8_readsStep (iN t) H = some (iN 0, A) ∧ kM t z B H A q) : stF t z B p c W T := by
  refine ⟨q, hq, fun G hG => ?_, fun H hH => ?_⟩
  · obtain ⟨j, h⟩ := hc G hG
    exact ⟨_, h, cc_sI (cc_sI cc_refl (by omega) (by omega)) (by omega) (by omega), sI_eq⟩
  · obtain ⟨A, h, k⟩ := hm H hH
    exact ⟨A, h, k.2.1, k.2.2.1⟩
theorem cadd_ok {c T l : Nat} {x y : Int32} {G : G_} (hc : c < 12) (h4 : G.1 41 4 = iN c) (h5 : G.1 41 5 = iN T) : f_X2_add 41 x y (iN l) G = some (sI (sI (sI (sI (sI G 42 c x) 43 c y) 44 c (iN l)) 41 4 (iN (c + 1))) 41 5 (iN (T + l))) := by
  have hk : kd 41 = 2 := rfl
  unfold f_X2_add
  simp (disch := omega) only [chk_t, beq_self_eq_true, nm_s, bj1_s, bj2_s, bj3_s, mo_1, mo_0, l_0, l_1, l_2, l_3, l_4, l_5, l_6, l_7, l_8, l_9, l_10, l_11, l_12, l_13, l_14, l_15, l_16, l_17, l_18, l_19, l_20, l_21, l_30, l_31, l_32, l_36, l_40, l_41, l_42, l_43, l_44, l_45, l_46, l_47, l_48, l_49, l_50, l_51, l_52, l_57, l_58, l_60, l_64, l_72, l_80, l_92, l_98, l_99, l_100, l_102, l_105, l_111, l_112, l_114, l_115, l_116, l_117, l_120, l_144, l_200, l_201, l_240, l_300, l_320, l_400, l_500, l_550, l_560, l_649, l_650, l_1000, l_1400, l_2000, l_4000, l_10000, iN_add, iN_sub, iN_mul, iN_le_t, iN_le_f, iN_lt_t, iN_lt_f, iN_eq_f, inb_iN, ix_iN, isZ_0, isZ_1, ↓reduceIte, eq_self, kd_b hk, h4, sI_p, sI_j, h5]
theorem stT_mk {t z p c T p' a b l : Nat} {B W : Nat → Int32} (ht : t < 4) (h : pP W c T) (hc12 : c < 12) (h1 : p < p') (h2 : p' ≤ z) (hz : z ≤ 80) (ha : 1 ≤ a ∧ a ≤ 6) (hb : b ≤ 30) (hl : l ≤ 60) (hal : a ≤ 4 → 1 ≤ l) (hT : T + l ≤ 200)
    (hc : ∀ G, CPs t z B p c W T G → f_X3_readStep (63 + 2 * t) 41 G = bj1 (f_X2_add 41 (iN a) (iN b) (iN l) (sI G 39 0 (iN p'))) fun A => some A)
    (hm : ∀ H, MPs t z B p c W T H → ∃ A, f_X8_readsStep (iN t) H = f_X8_readsStep_j119_q15 (iN a) (iN b) (iN l) A ∧ kM t z B H A p') : stT t z B p c W T := by
  obtain ⟨g1, g2, g3, g4⟩ := h
  have w0 : ∀ j, j < 3 * c → up (up (up W (3 * c) (iN a)) (3 * c + 1) (iN b)) (3 * c + 2) (iN l) j = W j := fun j hj => by rw [up_ne (by omega), up_ne (by omega), up_ne (by omega)]
  have wa : up (up (up W (3 * c) (iN a)) (3 * c + 1) (iN b)) (3 * c + 2) (iN l) (3 * c) = iN a := by rw [up_ne (by omega), up_ne (by omega), up_eq]
  have wb : up (up (up W (3 * c) (iN a)) (3 * c + 1) (iN b)) (3 * c + 2) (iN l) (3 * c + 1) = iN b := by rw [up_ne (by omega), up_eq]
  have wl : up (up (up W (3 * c) (iN a)) (3 * c + 1) (iN b)) (3 * c + 2) (iN l) (3 * c + 2) = iN l := up_eq
  generalize up (up (up W (3 * c) (iN a)) (3 * c + 1) (iN b)) (3 * c + 2) (iN l) = W' at *
  refine ⟨p', W', T + l, h1, h2, ⟨by omega, hT, fun i hi => ?_, ?_⟩, fun G hG => ?_, fun H hH => ?_⟩
  · by_cases ci : i = c
    · subst ci
      exact ⟨a, b, l, wa, wb, wl, ha.1, ha.2, hb, hl, hal⟩
    · obtain ⟨a', b', l', e1, e2, e3, e4⟩ := g3 i (by omega)
      exact ⟨a', b', l', by rw [w0 _ (by omega)]; exact e1, by rw [w0 _ (by omega)]; exact e2, by rw [w0 _ (by omega)]; exact e3, e4⟩
  · show sumS (fun i => W' (3 * i + 2)) c + W' (3 * c + 2) = _
    rw [sumS_congr (g := fun i => W (3 * i + 2)) (fun i hi => w0 _ (by omega)), g4, wl, iN_add]
  · have hG' := hG
    obtain ⟨k1, k2, k3, k4, k5, k6⟩ := hG
    have ad := cadd_ok (c := c) (T := T) (l := l) (x := iN a) (y := iN b) (G := sI G 39 0 (iN p')) hc12 (by rw [sI_p (by omega)]; exact k4) (by rw [sI_p (by omega)]; exact k5)
    refine ⟨sI (sI (sI (sI (sI (sI G 39 0 (iN p')) 42 c (iN a)) 43 c (iN b)) 44 c (iN l)) 41 4 (iN (c + 1))) 41 5 (iN (T + l)), ?_, ?_, ?_⟩
    · rw [hc G hG', ad, bj1_s]
    · exact cc_sI (cc_sI (cc_sI (cc_sI (cc_sI (cc_sI cc_refl (by omega) (by omega)) (by omega) (by omega)) (by omega) (by omega)) (by omega) (by omega)) (by omega) (by omega)) (by omega) (by omega)
    · refine ⟨cT_sI ht (cT_sI ht (cT_sI ht (cT_sI ht (cT_sI ht (cT_sI ht k1 (by omega)) (by omega)) (by omega)) (by omega)) (by omega)) (by omega), ?_, ?_, ?_, sI_eq, fun i hi => ?_⟩
      · simp (disch := omega) only [chk_t, beq_self_eq_true, nm_s, bj1_s, bj2_s, bj3_s, mo_1, mo_0, l_0, l_1, l_2, l_3, l_4, l_5, l_6, l_7, l_8, l_9, l_10, l_11, l_12, l_13, l_14, l_15, l_16, l_17, l_18, l_19, l_20, l_21, l_30, l_31, l_32, l_36, l_40, l_41, l_42, l_43, l_44, l_45, l_46, l_47, l_48, l_49, l_50, l_51, l_52, l_57, l_58, l_60, l_64, l_72, l_80, l_92, l_98, l_99, l_100, l_102, l_105, l_111, l_112, l_114, l_115, l_116, l_117, l_120, l_144, l_200, l_201, l_240, l_300, l_320, l_400, l_500, l_550, l_560, l_649, l_650, l_1000, l_1400, l_2000, l_4000, l_10000, iN_add, iN_sub, iN_mul, iN_le_t, iN_le_f, iN_lt_t, iN_lt_f, iN_eq_f, inb_iN, ix_iN, isZ_0, isZ_1, ↓reduceIte, eq_self, sI_p, sI_eq]
      · simp (disch := omega) only [chk_t, beq_self_eq_true, nm_s, bj1_s, bj2_s, bj3_s, mo_1, mo_0, l_0, l_1, l_2, l_3, l_4, l_5, l_6, l_7, l_8, l_9, l_10, l_11, l_12, l_13, l_14, l_15, l_16, l_17, l_18, l_19, l_20, l_21, l_30, l_31, l_32, l_36, l_40, l_41, l_42, l_43, l_44, l_45, l_46, l_47, l_48, l_49, l_50, l_51, l_52, l_57, l_58, l_60, l_64, l_72, l_80, l_92, l_98, l_99, l_100, l_102, l_105, l_111, l_112, l_114, l_115, l_116, l_117, l_120, l_144, l_200, l_201, l_240, l_300, l_320, l_400, l_500, l_550, l_560, l_649, l_650, l_1000, l_1400, l_2000, l_4000, l_10000, iN_add, iN_sub, iN_mul, iN_le_t, iN_le_f, iN_lt_t, iN_lt_f, iN_eq_f, inb_iN, ix_iN, isZ_0, isZ_1, ↓reduceIte, eq_self, sI_p, sI_j, k3]
      · simp (disch := omega) only [chk_t, beq_self_eq_true, nm_s, bj1_s, bj2_s, bj3_s, mo_1, mo_0, l_0, l_1, l_2, l_3, l_4, l_5, l_6, l_7, l_8, l_9, l_10, l_11, l_12, l_13, l_14, l_15, l_16, l_17, l_18, l_19, l_20, l_21, l_30, l_31, l_32, l_36, l_40, l_41, l_42, l_43, l_44, l_45, l_46, l_47, l_48, l_49, l_50, l_51, l_52, l_57, l_58, l_60, l_64, l_72, l_80, l_92, l_98, l_99, l_100, l_102, l_105, l_111, l_112, l_114, l_115, l_116, l_117, l_120, l_144, l_200, l_201, l_240, l_300, l_320, l_400, l_500, l_550, l_560, l_649, l_650, l_1000, l_1400, l_2000, l_4000, l_10000, iN_add, iN_sub, iN_mul, iN_le_t, iN_le_f, iN_lt_t, iN_lt_f, iN_eq_f, inb_iN, ix_iN, isZ_0, isZ_1, ↓reduceIte, eq_self, sI_j, sI_eq]
      · by_cases ci : i = c
        · subst ci
          rw [wa, wb, wl]
          refine ⟨?_, ?_, ?_⟩
          · simp (disch := omega) only [chk_t, beq_self_eq_true, nm_s, bj1_s, bj2_s, bj3_s, mo_1, mo_0, l_0, l_1, l_2, l_3, l_4, l_5, l_6, l_7, l_8, l_9, l_10, l_11, l_12, l_13, l_14, l_15, l_16, l_17, l_18, l_19, l_20, l_21, l_30, l_31, l_32, l_36, l_40, l_41, l_42, l_43, l_44, l_45, l_46, l_47, l_48, l_49, l_50, l_51, l_52, l_57, l_58, l_60, l_64, l_72, l_80, l_92, l_98, l_99, l_100, l_102, l_105, l_111, l_112, l_114, l_115, l_116, l_117, l_120, l_144, l_200, l_201, l_240, l_300, l_320, l_400, l_500, l_550, l_560, l_649, l_650, l_1000, l_1400, l_2000, l_4000, l_10000, iN_add, iN_sub, iN_mul, iN_le_t, iN_le_f, iN_lt_t, iN_lt_f, iN_eq_f, inb_iN, ix_iN, isZ_0, isZ_1, ↓reduceIte, eq_self, sI_p, sI_eq]
          · simp (disch := omega) only [chk_t, beq_self_eq_true, nm_s, bj1_s, bj2_s, bj3_s, mo_1, mo_0, l_0, l_1, l_2, l_3, l_4, l_5, l_6, l_7, l_8, l_9, l_10, l_11, l_12, l_13, l_14, l_15, l_16, l_17, l_18, l_19, l_20, l_21, l_30, l_31, l_32, l_36, l_40, l_41, l_42, l_43, l_44, l_45, l_46, l_47, l_48, l_49, l_50, l_51, l_52, l_57, l_58, l_60, l_64, l_72, l_80, l_92, l_98, l_99, l_100, l_102, l_105, l_111, l_112, l_114, l_115, l_116, l_117, l_120, l_144, l_200, l_201, l_240, l_300, l_320, l_400, l_500, l_550, l_560, l_649, l_650, l_1000, l_1400, l_2000, l_4000, l_10000, iN_add, iN_sub, iN_mul, iN_le_t, iN_le_f, iN_lt_t, iN_lt_f, iN_eq_f, inb_iN, ix_iN, isZ_0, isZ_1, ↓reduceIte, eq_self, sI_p, sI_eq]
          · simp (disch := omega) only [chk_t, beq_self_eq_true, nm_s, bj1_s, bj2_s, bj3_s, mo_1, mo_0, l_0, l_1, l_2, l_3, l_4, l_5, l_6, l_7, l_8, l_9, l_10, l_11, l_12, l_13, l_14, l_15, l_16, l_17, l_18, l_19, l_20, l_21, l_30, l_31, l_32, l_36, l_40, l_41, l_42, l_43, l_44, l_45, l_46, l_47, l_48, l_49, l_50, l_51, l_52, l_57, l_58, l_60, l_64, l_72, l_80, l_92, l_98, l_99, l_100, l_102, l_105, l_111, l_112, l_114, l_115, l_116, l_117, l_120, l_144, l_200, l_201, l_240, l_300, l_320, l_400, l_500, l_550, l_560, l_649, l_650, l_1000, l_1400, l_2000, l_4000, l_10000, iN_add, iN_sub, iN_mul, iN_le_t, iN_le_f, iN_lt_t, iN_lt_f, iN_eq_f, inb_iN, ix_iN, isZ_0, isZ_1, ↓reduceIte, eq_self, sI_p, sI_eq]
        · obtain ⟨e1, e2, e3⟩ := k6 i (by omega)
          rw [w0 _ (by omega), w0 _ (by omega), w0 _ (by omega)]
          refine ⟨?_, ?_, ?_⟩
          · simp (disch := omega) only [chk_t, beq_self_eq_true, nm_s, bj1_s, bj2_s, bj3_s, mo_1, mo_0, l_0, l_1, l_2, l_3, l_4, l_5, l_6, l_7, l_8, l_9, l_10, l_11, l_12, l_13, l_14, l_15, l_16, l_17, l_18, l_19, l_20, l_21, l_30, l_31, l_32, l_36, l_40, l_41, l_42, l_43, l_44, l_45, l_46, l_47, l_48, l_49, l_50, l_51, l_52, l_57, l_58, l_60, l_64, l_72, l_80, l_92, l_98, l_99, l_100, l_102, l_105, l_111, l_112, l_114, l_115, l_116, l_117, l_120, l_144, l_200, l_201, l_240, l_300, l_320, l_400, l_500, l_550, l_560, l_649, l_650, l_1000, l_1400, l_2000, l_4000, l_10000, iN_add, iN_sub, iN_mul, iN_le_t, iN_le_f, iN_lt_t, iN_lt_f, iN_eq_f, inb_iN, ix_iN, isZ_0, isZ_1, ↓reduceIte, eq_self, sI_p, sI_j]
            exact e1
          · simp (disch := omega) only [chk_t, beq_self_eq_true, nm_s, bj1_s, bj2_s, bj3_s, mo_1, mo_0, l_0, l_1, l_2, l_3, l_4, l_5, l_6, l_7, l_8, l_9, l_10, l_11, l_12, l_13, l_14, l_15, l_16, l_17, l_18, l_19, l_20, l_21, l_30, l_31, l_32, l_36, l_40, l_41, l_42, l_43, l_44, l_45, l_46, l_47, l_48, l_49, l_50, l_51, l_52, l_57, l_58, l_60, l_64, l_72, l_80, l_92, l_98, l_99, l_100, l_102, l_105, l_111, l_112, l_114, l_115, l_116, l_117, l_120, l_144, l_200, l_201, l_240, l_300, l_320, l_400, l_500, l_550, l_560, l_649, l_650, l_1000, l_1400, l_2000, l_4000, l_10000, iN_add, iN_sub, iN_mul, iN_le_t, iN_le_f, iN_lt_t, iN_lt_f, iN_eq_f, inb_iN, ix_iN, isZ_0, isZ_1, ↓reduceIte, eq_self, sI_p, sI_j]
            exact e2
          · simp (disch := omega) only [chk_t, beq_self_eq_true, nm_s, bj1_s, bj2_s, bj3_s, mo_1, mo_0, l_0, l_1, l_2, l_3, l_4, l_5, l_6, l_7, l_8, l_9, l_10, l_11, l_12, l_13, l_14, l_15, l_16, l_17, l_18, l_19, l_20, l_21, l_30, l_31, l_32, l_36, l_40, l_41, l_42, l_43, l_44, l_45, l_46, l_47, l_48, l_49, l_50, l_51, l_52, l_57, l_58, l_60, l_64, l_72, l_80, l_92, l_98, l_99, l_100, l_102, l_105, l_111, l_112, l_114, l_115, l_116, l_117, l_120, l_144, l_200, l_201, l_240, l_300, l_320, l_400, l_500, l_550, l_560, l_649, l_650, l_1000, l_1400, l_2000, l_4000, l_10000, iN_add, iN_sub, iN_mul, iN_le_t, iN_le_f, iN_lt_t, iN_lt_f, iN_eq_f, inb_iN, ix_iN, isZ_0, isZ_1, ↓reduceIte, eq_self, sI_p, sI_j]
            exact e3
  · obtain ⟨A, hA, k1, k2, k3, k4, k5, k6⟩ := hm H hH
    obtain ⟨l1, l2, l3, l4, l5⟩ := hH
    have a17 : A.1 124 17 = iN c := k4.trans l3
    have a18 : A.1 124 18 = iN T := k5.trans l4
    refine ⟨sI (sI (sI (sI (sI A 137 (3 * c) (iN a)) 137 (3 * c + 1) (iN b)) 137 (3 * c + 2) (iN l)) 124 18 (iN (T + l))) 124 17 (iN (c + 1)), ?_, ?_, ?_⟩
    · rw [hA]
      unfold f_X8_readsStep_j119_q15
      simp (disch := omega) only [chk_t, beq_self_eq_true, nm_s, bj1_s, bj2_s, bj3_s, mo_1, mo_0, l_0, l_1, l_2, l_3, l_4, l_5, l_6, l_7, l_8, l_9, l_10, l_11, l_12, l_13, l_14, l_15, l_16, l_17, l_18, l_19, l_20, l_21, l_30, l_31, l_32, l_36, l_40, l_41, l_42, l_43, l_44, l_45, l_46, l_47, l_48, l_49, l_50, l_51, l_52, l_57, l_58, l_60, l_64, l_72, l_80, l_92, l_98, l_99, l_100, l_102, l_105, l_111, l_112, l_114, l_115, l_116, l_117, l_120, l_144, l_200, l_201, l_240, l_300, l_320, l_400, l_500, l_550, l_560, l_649, l_650, l_1000, l_1400, l_2000, l_4000, l_10000, iN_add, iN_sub, iN_mul, iN_le_t, iN_le_f, iN_lt_t, iN_lt_f, iN_eq_f, inb_iN, ix_iN, isZ_0, isZ_1, ↓reduceIte, eq_self, a17, a18, sI_p, sI_j]
    · exact mf_124 (mf_124 (mf_sI (mf_sI (mf_sI k2 (by omega)) (by omega)) (by omega)) (by omega)) (by omega)
    · refine ⟨mT_sI (mT_sI (mT_sI (mT_sI (mT_sI k1 (by omega)) (by omega)) (by omega)) (by omega)) (by omega), ?_, sI_eq, ?_, fun j hj => ?_⟩
      · simp (disch := omega) only [chk_t, beq_self_eq_true, nm_s, bj1_s, bj2_s, bj3_s, mo_1, mo_0, l_0, l_1, l_2, l_3, l_4, l_5, l_6, l_7, l_8, l_9, l_10, l_11, l_12, l_13, l_14, l_15, l_16, l_17, l_18, l_19, l_20, l_21, l_30, l_31, l_32, l_36, l_40, l_41, l_42, l_43, l_44, l_45, l_46, l_47, l_48, l_49, l_50, l_51, l_52, l_57, l_58, l_60, l_64, l_72, l_80, l_92, l_98, l_99, l_100, l_102, l_105, l_111, l_112, l_114, l_115, l_116, l_117, l_120, l_144, l_200, l_201, l_240, l_300, l_320, l_400, l_500, l_550, l_560, l_649, l_650, l_1000, l_1400, l_2000, l_4000, l_10000, iN_add, iN_sub, iN_mul, iN_le_t, iN_le_f, iN_lt_t, iN_lt_f, iN_eq_f, inb_iN, ix_iN, isZ_0, isZ_1, ↓reduceIte, eq_self, sI_p, sI_j]
        exact k3
      · simp (disch := omega) only [chk_t, beq_self_eq_true, nm_s, bj1_s, bj2_s, bj3_s, mo_1, mo_0, l_0, l_1, l_2, l_3, l_4, l_5, l_6, l_7, l_8, l_9, l_10, l_11, l_12, l_13, l_14, l_15, l_16, l_17, l_18, l_19, l_20, l_21, l_30, l_31, l_32, l_36, l_40, l_41, l_42, l_43, l_44, l_45, l_46, l_47, l_48, l_49, l_50, l_51, l_52, l_57, l_58, l_60, l_64, l_72, l_80, l_92, l_98, l_99, l_100, l_102, l_105, l_111, l_112, l_114, l_115, l_116, l_117, l_120, l_144, l_200, l_201, l_240, l_300, l_320, l_400, l_500, l_550, l_560, l_649, l_650, l_1000, l_1400, l_2000, l_4000, l_10000, iN_add, iN_sub, iN_mul, iN_le_t, iN_le_f, iN_lt_t, iN_lt_f, iN_eq_f, inb_iN, ix_iN, isZ_0, isZ_1, ↓reduceIte, eq_self, sI_j, sI_eq]
      · rw [sI_p (by omega), sI_p (by omega)]
        by_cases c2 : j = 3 * c + 2
        · subst c2
          rw [sI_eq, wl]
        · rw [sI_j c2]
          by_cases c1 : j = 3 * c + 1
          · subst c1
            rw [sI_eq, wb]
          · rw [sI_j c1]
            by_cases c0 : j = 3 * c
            · subst c0
              rw [sI_eq, wa]
            · rw [sI_j c0, k6, w0 j (by omega)]
              exact l5 j (by omega)
theorem sign_ok {t z q : Nat} {B : Nat → Int32} {H A : G_} (ht : t < 4) (hz : z ≤ 80) (hq : q ≤ 100) (h : kM t z B H A q) : (bC z B q = iN 58 ∧ ∃ A', f_X8_sign (iN t) (iN 58) A = some (iN 1, A') ∧ kM t z B H A' (q + 1)) ∨ ((bC z B q = iN 58) = False ∧ ∃ A', f_X8_sign (iN t) (iN 58) A = some (iN 0, A') ∧ kM t z B H A' q) := by
  have v := mval (p := q) ht hz h.1 (by omega)
  have e15 := h.2.2.1
  by_cases c : q < z ∧ B q = iN 58
  · left
    refine ⟨by unfold bC; rw [if_pos c.1]; exact c.2, sI A 124 15 (iN (q + 1)), ?_, kM_15 h⟩
    unfold bT at v
    rw [if_pos c.1, c.2] at v
    unfold f_X8_sign
    simp (disch := omega) only [chk_t, beq_self_eq_true, nm_s, bj1_s, bj2_s, bj3_s, mo_1, mo_0, l_0, l_1, l_2, l_3, l_4, l_5, l_6, l_7, l_8, l_9, l_10, l_11, l_12, l_13, l_14, l_15, l_16, l_17, l_18, l_19, l_20, l_21, l_30, l_31, l_32, l_36, l_40, l_41, l_42, l_43, l_44, l_45, l_46, l_47, l_48, l_49, l_50, l_51, l_52, l_57, l_58, l_60, l_64, l_72, l_80, l_92, l_98, l_99, l_100, l_102, l_105, l_111, l_112, l_114, l_115, l_116, l_117, l_120, l_144, l_200, l_201, l_240, l_300, l_320, l_400, l_500, l_550, l_560, l_649, l_650, l_1000, l_1400, l_2000, l_4000, l_10000, iN_add, iN_sub, iN_mul, iN_le_t, iN_le_f, iN_lt_t, iN_lt_f, iN_eq_f, inb_iN, ix_iN, isZ_0, isZ_1, ↓reduceIte, eq_self, e15, v]
  · right
    refine ⟨eq_false (fun e => ?_), sI A 124 15 (iN (q + 0)), ?_, kM_15 h⟩
    · unfold bC at e
      by_cases d : q < z
      · rw [if_pos d] at e
        exact c ⟨d, e⟩
      · rw [if_neg d] at e
        exact absurd e (by decide)
    · have e : (bT z B q = iN 58) = False := eq_false (fun e => by
        unfold bT at e
        by_cases d : q < z
        · rw [if_pos d] at e
          exact c ⟨d, e⟩
        · rw [if_neg d] at e
          exact absurd e (by decide))
      unfold f_X8_sign
      simp (disch := omega) only [chk_t, beq_self_eq_true, nm_s, bj1_s, bj2_s, bj3_s, mo_1, mo_0, l_0, l_1, l_2, l_3, l_4, l_5, l_6, l_7, l_8, l_9, l_10, l_11, l_12, l_13, l_14, l_15, l_16, l_17, l_18, l_19, l_20, l_21, l_30, l_31, l_32, l_36, l_40, l_41, l_42, l_43, l_44, l_45, l_46, l_47, l_48, l_49, l_50, l_51, l_52, l_57, l_58, l_60, l_64, l_72, l_80, l_92, l_98, l_99, l_100, l_102, l_105, l_111, l_112, l_114, l_115, l_116, l_117, l_120, l_144, l_200, l_201, l_240, l_300, l_320, l_400, l_500, l_550, l_560, l_649, l_650, l_1000, l_1400, l_2000, l_4000, l_10000, iN_add, iN_sub, iN_mul, iN_le_t, iN_le_f, iN_lt_t, iN_lt_f, iN_eq_f, inb_iN, ix_iN, isZ_0, isZ_1, ↓reduceIte, eq_self, e15, v, e]

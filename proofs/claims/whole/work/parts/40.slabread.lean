/-! a slab read from a text -/
def CSs (t z : Nat) (B : Nat → Int32) (p : Nat) (V : Nat → Int32) (G : G_) : Prop := cT t z B G ∧ G.1 39 0 = iN p ∧ G.1 39 1 = -iN 9 ∧ G.1 40 0 = iN 1 ∧ ∀ j, j < 4 → G.1 40 (j + 1) = V j
def MSs (t z : Nat) (B : Nat → Int32) (p c : Nat) (V : Nat → Int32) (H : G_) : Prop := mT t z B H ∧ H.1 124 15 = iN p ∧ H.1 124 17 = iN c ∧ ∀ j, j < 4 → H.1 136 j = V j
theorem item_cases (x : Int32) :
    (∃ j lo hi, j < 4 ∧ lo ≤ 3 ∧ hi ≤ 60 ∧ (j = 0 → 3 ≤ lo ∧ hi ≤ 20) ∧ (j = 1 → hi ≤ 40) ∧ (x = iN 32) = False ∧ f_X8_itemOf x = some (iN j) ∧
      (if j = 0 then (iN 3 : Int32) else iN 0) = iN lo ∧ (if j = 0 then (iN 20 : Int32) else if j = 1 then iN 40 else if j = 2 then iN 60 else iN 9) = iN hi ∧
      ∀ (o a : Nat) (G : G_), kd o = 6 → kd a = 5 → f_X6_value o (G.1 39 0) G = some x → f_X3_readItem o a G = bj2 (f_X3_readNumber o (iN lo) (iN hi) G) fun y A => some (sI A a (j + 1) y)) ∨
    (f_X8_itemOf x = some (-iN 9) ∧ ∀ (o a : Nat) (G : G_), kd o = 6 → kd a = 5 → f_X6_value o (G.1 39 0) G = some x → f_X3_readItem o a G = some (sI G 39 1 (G.1 39 0))) := by
  by_cases c0 : x = iN 116
  · subst c0
    refine Or.inl ⟨0, 3, 20, by omega, by omega, by omega, fun _ => by omega, fun h => by omega, eq_false (by decide), rfl, rfl, rfl, fun o a G ho ha hv => ?_⟩
    unfold f_X3_readItem
    simp (disch := omega) only [chk_t, beq_self_eq_true, nm_s, bj1_s, bj2_s, bj3_s, mo_1, mo_0, l_0, l_1, l_2, l_3, l_4, l_5, l_6, l_7, l_8, l_9, l_10, l_11, l_12, l_13, l_14, l_15, l_16, l_17, l_18, l_19, l_20, l_21, l_30, l_31, l_32, l_36, l_40, l_41, l_42, l_43, l_44, l_45, l_46, l_47, l_48, l_49, l_50, l_51, l_52, l_57, l_58, l_60, l_64, l_72, l_80, l_92, l_98, l_99, l_100, l_102, l_105, l_111, l_112, l_114, l_115, l_116, l_117, l_120, l_144, l_200, l_201, l_240, l_300, l_320, l_400, l_500, l_550, l_560, l_649, l_650, l_1000, l_1400, l_2000, l_4000, l_10000, iN_add, iN_sub, iN_mul, iN_le_t, iN_le_f, iN_lt_t, iN_lt_f, iN_eq_f, inb_iN, ix_iN, isZ_0, isZ_1, ↓reduceIte, eq_self, kd_b ho, kd_b ha, hv]
  · by_cases c1 : x = iN 99
    · subst c1
      refine Or.inl ⟨1, 0, 40, by omega, by omega, by omega, fun h => by omega, fun h => by omega, eq_false (by decide), rfl, rfl, rfl, fun o a G ho ha hv => ?_⟩
      unfold f_X3_readItem
      simp (disch := omega) only [chk_t, beq_self_eq_true, nm_s, bj1_s, bj2_s, bj3_s, mo_1, mo_0, l_0, l_1, l_2, l_3, l_4, l_5, l_6, l_7, l_8, l_9, l_10, l_11, l_12, l_13, l_14, l_15, l_16, l_17, l_18, l_19, l_20, l_21, l_30, l_31, l_32, l_36, l_40, l_41, l_42, l_43, l_44, l_45, l_46, l_47, l_48, l_49, l_50, l_51, l_52, l_57, l_58, l_60, l_64, l_72, l_80, l_92, l_98, l_99, l_100, l_102, l_105, l_111, l_112, l_114, l_115, l_116, l_117, l_120, l_144, l_200, l_201, l_240, l_300, l_320, l_400, l_500, l_550, l_560, l_649, l_650, l_1000, l_1400, l_2000, l_4000, l_10000, iN_add, iN_sub, iN_mul, iN_le_t, iN_le_f, iN_lt_t, iN_lt_f, iN_eq_f, inb_iN, ix_iN, isZ_0, isZ_1, ↓reduceIte, eq_self, kd_b ho, kd_b ha, hv]
    · by_cases c2 : x = iN 115
      · subst c2
        refine Or.inl ⟨2, 0, 60, by omega, by omega, by omega, fun h => by omega, fun h => by omega, eq_false (by decide), rfl, rfl, rfl, fun o a G ho ha hv => ?_⟩
        unfold f_X3_readItem
        simp (disch := omega) only [chk_t, beq_self_eq_true, nm_s, bj1_s, bj2_s, bj3_s, mo_1, mo_0, l_0, l_1, l_2, l_3, l_4, l_5, l_6, l_7, l_8, l_9, l_10, l_11, l_12, l_13, l_14, l_15, l_16, l_17, l_18, l_19, l_20, l_21, l_30, l_31, l_32, l_36, l_40, l_41, l_42, l_43, l_44, l_45, l_46, l_47, l_48, l_49, l_50, l_51, l_52, l_57, l_58, l_60, l_64, l_72, l_80, l_92, l_98, l_99, l_100, l_102, l_105, l_111, l_112, l_114, l_115, l_116, l_117, l_120, l_144, l_200, l_201, l_240, l_300, l_320, l_400, l_500, l_550, l_560, l_649, l_650, l_1000, l_1400, l_2000, l_4000, l_10000, iN_add, iN_sub, iN_mul, iN_le_t, iN_le_f, iN_lt_t, iN_lt_f, iN_eq_f, inb_iN, ix_iN, isZ_0, isZ_1, ↓reduceIte, eq_self, kd_b ho, kd_b ha, hv]
      · by_cases c3 : x = iN 102
        · subst c3
          refine Or.inl ⟨3, 0, 9, by omega, by omega, by omega, fun h => by omega, fun h => by omega, eq_false (by decide), rfl, rfl, rfl, fun o a G ho ha hv => ?_⟩
          unfold f_X3_readItem
          simp (disch := omega) only [chk_t, beq_self_eq_true, nm_s, bj1_s, bj2_s, bj3_s, mo_1, mo_0, l_0, l_1, l_2, l_3, l_4, l_5, l_6, l_7, l_8, l_9, l_10, l_11, l_12, l_13, l_14, l_15, l_16, l_17, l_18, l_19, l_20, l_21, l_30, l_31, l_32, l_36, l_40, l_41, l_42, l_43, l_44, l_45, l_46, l_47, l_48, l_49, l_50, l_51, l_52, l_57, l_58, l_60, l_64, l_72, l_80, l_92, l_98, l_99, l_100, l_102, l_105, l_111, l_112, l_114, l_115, l_116, l_117, l_120, l_144, l_200, l_201, l_240, l_300, l_320, l_400, l_500, l_550, l_560, l_649, l_650, l_1000, l_1400, l_2000, l_4000, l_10000, iN_add, iN_sub, iN_mul, iN_le_t, iN_le_f, iN_lt_t, iN_lt_f, iN_eq_f, inb_iN, ix_iN, isZ_0, isZ_1, ↓reduceIte, eq_self, kd_b ho, kd_b ha, hv]
        · refine Or.inr ⟨itemOf_m9 (eq_false c0) (eq_false c1) (eq_false c2) (eq_false c3), fun o a G ho ha hv => ?_⟩
          unfold f_X3_readItem
          simp (disch := omega) only [chk_t, beq_self_eq_true, nm_s, bj1_s, bj2_s, bj3_s, mo_1, mo_0, l_0, l_1, l_2, l_3, l_4, l_5, l_6, l_7, l_8, l_9, l_10, l_11, l_12, l_13, l_14, l_15, l_16, l_17, l_18, l_19, l_20, l_21, l_30, l_31, l_32, l_36, l_40, l_41, l_42, l_43, l_44, l_45, l_46, l_47, l_48, l_49, l_50, l_51, l_52, l_57, l_58, l_60, l_64, l_72, l_80, l_92, l_98, l_99, l_100, l_102, l_105, l_111, l_112, l_114, l_115, l_116, l_117, l_120, l_144, l_200, l_201, l_240, l_300, l_320, l_400, l_500, l_550, l_560, l_649, l_650, l_1000, l_1400, l_2000, l_4000, l_10000, iN_add, iN_sub, iN_mul, iN_le_t, iN_le_f, iN_lt_t, iN_lt_f, iN_eq_f, inb_iN, ix_iN, isZ_0, isZ_1, ↓reduceIte, eq_self, kd_b ho, kd_b ha, hv, eq_false c0, eq_false c1, eq_false c2, eq_false c3]
theorem slR_up {V : Nat → Int32} {j v lo hi : Nat} (h : ∃ n, slR V n) (hj : j < 4) (h0 : j = 0 → 3 ≤ lo ∧ hi ≤ 20) (h1 : j = 1 → hi ≤ 40) (hl : lo ≤ v) (hh : v ≤ hi) (h99 : v ≤ 99) : ∃ n, slR (up V j (iN v)) n := by
  obtain ⟨n, ⟨g1, g2, g3⟩, g4, g5⟩ := h
  have e1 : ∀ q, q ≠ j → up V j (iN v) q = V q := fun q hq => up_ne hq
  by_cases c0 : j = 0
  · subst c0
    refine ⟨v, ⟨up_eq, by omega, by omega⟩, ?_⟩
    rw [e1 1 (by omega)]
    exact ⟨g4, g5⟩
  · refine ⟨n, ⟨by rw [e1 0 (by omega)]; exact g1, g2, g3⟩, ?_⟩
    by_cases c1 : j = 1
    · subst c1
      rw [up_eq, li (by omega)]
      have := h1 rfl
      omega
    · rw [e1 1 (by omega)]
      exact ⟨g4, g5⟩
theorem iN_m9 {k : Nat} (h : k ≤ 1000) : (iN k = -iN 9) = False := eq_false (ne_m9 h)
theorem slab_all {t z : Nat} {B : Nat → Int32} (ht : t < 4) (hz : z ≤ 80) : ∀ (d p c : Nat) (V : Nat → Int32), z - p ≤ d → p ≤ z → c ≤ p → (∃ n, slR V n) → ∃ (e : Int32) (c' : Nat) (V' : Nat → Int32), (e = -iN 9 → ∃ n, slR V' n) ∧
    (∀ (n : Nat) (G : G_), z - p < n → CSs t z B p V G → ∃ x G', f_X3_readSlab_l17_7 (63 + 2 * t) 40 n (iN c) G = some (x, G') ∧ cc G G' ∧ G'.1 39 1 = e ∧ (e = -iN 9 → x = iN c' ∧ G'.1 40 0 = iN 1 ∧ ∀ j, j < 4 → G'.1 40 (j + 1) = V' j)) ∧
    (∀ (n : Nat) (H : G_), z - p < n → MSs t z B p c V H → ∃ H', f_X8_slabFault_l39_12 (iN t) n H = some (e, H') ∧ mf H H' ∧ (e = -iN 9 → H'.1 124 17 = iN c' ∧ ∀ j, j < 4 → H'.1 136 j = V' j)) := by
  intro d
  induction d with
  | zero =>
    intro p c V h1 h2 h3 hV
    have hpz : p = z := by omega
    subst hpz
    refine ⟨-iN 9, c, V, fun _ => hV, fun n G hn ⟨g1, g2, g3, g4, g5⟩ => ?_, fun n H hn ⟨g1, g2, g3, g4⟩ => ?_⟩
    · obtain ⟨n, rfl⟩ : ∃ k, n = k + 1 := ⟨n - 1, by omega⟩
      have sk := cskip (m := 0) ht hz g1 g2 (by omega) (fun i hi => by omega) (fun h => by omega)
      rw [show p + 0 = p from rfl, sI_self g2] at sk
      refine ⟨iN c, G, ?_, cc_refl, g3, fun _ => ⟨rfl, g4, g5⟩⟩
      unfold f_X3_readSlab_l17_7
      simp (disch := omega) only [chk_t, beq_self_eq_true, nm_s, bj1_s, bj2_s, bj3_s, mo_1, mo_0, l_0, l_1, l_2, l_3, l_4, l_5, l_6, l_7, l_8, l_9, l_10, l_11, l_12, l_13, l_14, l_15, l_16, l_17, l_18, l_19, l_20, l_21, l_30, l_31, l_32, l_36, l_40, l_41, l_42, l_43, l_44, l_45, l_46, l_47, l_48, l_49, l_50, l_51, l_52, l_57, l_58, l_60, l_64, l_72, l_80, l_92, l_98, l_99, l_100, l_102, l_105, l_111, l_112, l_114, l_115, l_116, l_117, l_120, l_144, l_200, l_201, l_240, l_300, l_320, l_400, l_500, l_550, l_560, l_649, l_650, l_1000, l_1400, l_2000, l_4000, l_10000, iN_add, iN_sub, iN_mul, iN_le_t, iN_le_f, iN_lt_t, iN_lt_f, iN_eq_f, inb_iN, ix_iN, isZ_0, isZ_1, ↓reduceIte, eq_self, sk, g2, g1.1]
    · obtain ⟨n, rfl⟩ : ∃ k, n = k + 1 := ⟨n - 1, by omega⟩
      refine ⟨H, ?_, mf_refl, fun _ => ⟨g3, g4⟩⟩
      unfold f_X8_slabFault_l39_12
      simp (disch := omega) only [chk_t, beq_self_eq_true, nm_s, bj1_s, bj2_s, bj3_s, mo_1, mo_0, l_0, l_1, l_2, l_3, l_4, l_5, l_6, l_7, l_8, l_9, l_10, l_11, l_12, l_13, l_14, l_15, l_16, l_17, l_18, l_19, l_20, l_21, l_30, l_31, l_32, l_36, l_40, l_41, l_42, l_43, l_44, l_45, l_46, l_47, l_48, l_49, l_50, l_51, l_52, l_57, l_58, l_60, l_64, l_72, l_80, l_92, l_98, l_99, l_100, l_102, l_105, l_111, l_112, l_114, l_115, l_116, l_117, l_120, l_144, l_200, l_201, l_240, l_300, l_320, l_400, l_500, l_550, l_560, l_649, l_650, l_1000, l_1400, l_2000, l_4000, l_10000, iN_add, iN_sub, iN_mul, iN_le_t, iN_le_f, iN_lt_t, iN_lt_f, iN_eq_f, inb_iN, ix_iN, isZ_0, isZ_1, ↓reduceIte, eq_self, g1.1, g2]
  | succ d ih =>
    intro p c V h1 h2 h3 hV
    obtain ⟨m, k1, k2, k3⟩ := skp_ex z B (z - p) p (by omega) h2
    have ho := (rtk t ht).2
    have hk40 : kd 40 = 5 := rfl
    have cstart : ∀ G, CSs t z B p V G → f_X3_skipBlanks (63 + 2 * t) G = some (sI G 39 0 (iN (p + m))) ∧ CSs t z B (p + m) V (sI G 39 0 (iN (p + m))) ∧ cc G (sI G 39 0 (iN (p + m))) := fun G ⟨g1, g2, g3, g4, g5⟩ => ⟨cskip ht hz g1 g2 k1 k2 k3, ⟨cT_sI ht g1 (by omega), sI_eq, by rw [sI_j (by omega)]; exact g3, by rw [sI_p (by omega)]; exact g4, fun j hj => by rw [sI_p (by omega)]; exact g5 j hj⟩, cc_sI cc_refl (by omega) (by omega)⟩
    have mstart : ∀ n H, z - p < n → MSs t z B p c V H → ∃ n', z - (p + m) < n' + 1 ∧ f_X8_slabFault_l39_12 (iN t) n H = f_X8_slabFault_l39_12 (iN t) (n' + 1) (sI H 124 15 (iN (p + m))) ∧ MSs t z B (p + m) c V (sI H 124 15 (iN (p + m))) ∧ mf H (sI H 124 15 (iN (p + m))) := fun n H hn ⟨g1, g2, g3, g4⟩ => ⟨n - m - 1, by omega, by
        have := msskip ht hz m (n - m - 1 + 1) p H g1 g2 k1 k2
        rw [show n - m - 1 + 1 + m = n by omega] at this
        exact this, ⟨mT_sI g1 (by omega), sI_eq, by rw [sI_j (by omega)]; exact g3, fun j hj => by rw [sI_p (by omega)]; exact g4 j hj⟩, mf_124 mf_refl (by omega)⟩
    by_cases cz : p + m < z
    · have ebC : bC z B (p + m) = B (p + m) := if_pos cz
      have ebT : bT z B (p + m) = B (p + m) := if_pos cz
      have n32 : (B (p + m) = iN 32) = False := eq_false (fun e => k3 ⟨cz, e⟩)
      rcases item_cases (B (p + m)) with ⟨j, lo, hi, j1, j2, j3, j4, j5, -, j6, j7, j8, j9⟩ | ⟨j6, j9⟩
      · obtain ⟨p', v, q1, q2, q3, q4⟩ := num_ok (B := B) (p := p + m) lo hi ht hz (by omega) (by omega) (by omega)
        have s7 : (if iN j = iN 0 then some (iN 3 : Int32) else some (iN 0)) = some (iN lo) := by
          rw [← j7]
          by_cases c : j = 0
          · subst c
            rfl
          · rw [if_neg (of_eq_false (iN_eq_f c (by omega) (by omega))), if_neg c]
        have s8 : (if iN j = iN 0 then some (iN 20 : Int32) else if iN j = iN 1 then some (iN 40) else if iN j = iN 2 then some (iN 60) else some (iN 9)) = some (iN hi) := by
          rw [← j8]
          have : j = 0 ∨ j = 1 ∨ j = 2 ∨ j = 3 := by omega
          rcases this with rfl | rfl | rfl | rfl <;> rfl
        have jm9 := iN_m9 (k := j) (by omega)
        rcases q4 with ⟨⟨w1, w2, w3, w4⟩, w5, w6⟩ | ⟨w5, w6⟩
        · obtain ⟨e, c', V', r1, r2, r3⟩ := ih p' (c + 1) (up V j (iN v)) (by omega) w3 (by omega) (slR_up hV j1 j4 j5 w1 w2 q3)
          refine ⟨e, c', V', r1, fun n G hn hG => ?_, fun n H hn hH => ?_⟩
          · obtain ⟨n, rfl⟩ : ∃ k, n = k + 1 := ⟨n - 1, by omega⟩
            obtain ⟨g1, hA, g2⟩ := cstart G hG
            generalize sI G 39 0 (iN (p + m)) = A at *
            have hA' := hA
            obtain ⟨a1, a2, a3, a4, a5⟩ := hA
            have val := cval (p := p + m) ht hz a1 (by omega)
            rw [ebC, ← a2] at val
            have it := j9 _ 40 A ho hk40 val
            rw [w5 A a1 a2, bj2_s] at it
            have hnew : CSs t z B p' (up V j (iN v)) (sI (sI A 39 0 (iN p')) 40 (j + 1) (iN v)) := ⟨cT_sI ht (cT_sI ht a1 (by omega)) (by omega), by rw [sI_p (by omega)]; exact sI_eq, by rw [sI_p (by omega), sI_j (by omega)]; exact a3, by rw [sI_j (by omega), sI_p (by omega)]; exact a4, fun i hi => by
              by_cases ci : i = j
              · subst ci
                rw [sI_eq, up_eq]
              · rw [sI_j (by omega), sI_p (by omega), up_ne ci]
                exact a5 i hi⟩
            obtain ⟨x, G', f1, f2, f3⟩ := r2 n _ (by omega) hnew
            refine ⟨x, G', ?_, cc_tr g2 (cc_tr (cc_sI (cc_sI cc_refl (by omega) (by omega)) (by omega) (by omega)) f2), f3⟩
            have b1 := hnew.2.2.1
            unfold f_X3_readSlab_l17_7
            simp (disch := omega) only [chk_t, beq_self_eq_true, nm_s, bj1_s, bj2_s, bj3_s, mo_1, mo_0, l_0, l_1, l_2, l_3, l_4, l_5, l_6, l_7, l_8, l_9, l_10, l_11, l_12, l_13, l_14, l_15, l_16, l_17, l_18, l_19, l_20, l_21, l_30, l_31, l_32, l_36, l_40, l_41, l_42, l_43, l_44, l_45, l_46, l_47, l_48, l_49, l_50, l_51, l_52, l_57, l_58, l_60, l_64, l_72, l_80, l_92, l_98, l_99, l_100, l_102, l_105, l_111, l_112, l_114, l_115, l_116, l_117, l_120, l_144, l_200, l_201, l_240, l_300, l_320, l_400, l_500, l_550, l_560, l_649, l_650, l_1000, l_1400, l_2000, l_4000, l_10000, iN_add, iN_sub, iN_mul, iN_le_t, iN_le_f, iN_lt_t, iN_lt_f, iN_eq_f, inb_iN, ix_iN, isZ_0, isZ_1, ↓reduceIte, eq_self, g1, a2, a1.1, it, b1]
            exact f1
          · obtain ⟨n', hn', g1, hA, g2⟩ := mstart n H hn hH
            rw [g1]
            generalize sI H 124 15 (iN (p + m)) = A at *
            obtain ⟨a1, a2, a3, a4⟩ := hA
            have val := mval (p := p + m) ht hz a1 (by omega)
            rw [ebT] at val
            have num := w6 (sI A 124 15 (iN (p + m + 1))) (mT_sI a1 (by omega)) sI_eq
            rw [sI_sI] at num
            have hnew : MSs t z B p' (c + 1) (up V j (iN v)) (sI (sI (sI (sI A 124 15 (iN p')) 124 16 (iN v)) 136 j (iN v)) 124 17 (iN (c + 1))) := ⟨mT_sI (mT_sI (mT_sI (mT_sI a1 (by omega)) (by omega)) (by omega)) (by omega), by rw [sI_j (by omega), sI_p (by omega), sI_j (by omega)]; exact sI_eq, sI_eq, fun i hi => by
              rw [sI_p (by omega)]
              by_cases ci : i = j
              · subst ci
                rw [sI_eq, up_eq]
              · rw [sI_j (by omega), sI_p (by omega), sI_p (by omega), up_ne ci]
                exact a4 i hi⟩
            obtain ⟨H', f1, f2, f3⟩ := r3 n' _ (by omega) hnew
            refine ⟨H', ?_, mf_tr g2 (mf_tr (mf_124 (mf_sI (mf_124 (mf_124 mf_refl (by omega)) (by omega)) (by omega)) (by omega)) f2), f3⟩
            unfold f_X8_slabFault_l39_12
            simp (disch := omega) only [chk_t, beq_self_eq_true, nm_s, bj1_s, bj2_s, bj3_s, mo_1, mo_0, l_0, l_1, l_2, l_3, l_4, l_5, l_6, l_7, l_8, l_9, l_10, l_11, l_12, l_13, l_14, l_15, l_16, l_17, l_18, l_19, l_20, l_21, l_30, l_31, l_32, l_36, l_40, l_41, l_42, l_43, l_44, l_45, l_46, l_47, l_48, l_49, l_50, l_51, l_52, l_57, l_58, l_60, l_64, l_72, l_80, l_92, l_98, l_99, l_100, l_102, l_105, l_111, l_112, l_114, l_115, l_116, l_117, l_120, l_144, l_200, l_201, l_240, l_300, l_320, l_400, l_500, l_550, l_560, l_649, l_650, l_1000, l_1400, l_2000, l_4000, l_10000, iN_add, iN_sub, iN_mul, iN_le_t, iN_le_f, iN_lt_t, iN_lt_f, iN_eq_f, inb_iN, ix_iN, isZ_0, isZ_1, ↓reduceIte, eq_self, a2, a1.1, val, j6, n32, jm9, s7, s8, num, sI_eq, sI_p, sI_j, a3]
            exact f1
        · have pm9 := iN_m9 (k := p') (by omega)
          refine ⟨iN p', 0, V, fun h => absurd h (of_eq_false pm9), fun n G hn hG => ?_, fun n H hn hH => ?_⟩
          · obtain ⟨n, rfl⟩ : ∃ k, n = k + 1 := ⟨n - 1, by omega⟩
            obtain ⟨g1, hA, g2⟩ := cstart G hG
            generalize sI G 39 0 (iN (p + m)) = A at *
            obtain ⟨a1, a2, a3, a4, a5⟩ := hA
            have val := cval (p := p + m) ht hz a1 (by omega)
            rw [ebC, ← a2] at val
            have it := j9 _ 40 A ho hk40 val
            rw [w5 A a1 a2, bj2_s] at it
            refine ⟨iN 0, sI (sI (sI A 39 0 (iN p')) 39 1 (iN p')) 40 (j + 1) (iN v), ?_, cc_tr g2 (cc_sI (cc_sI (cc_sI cc_refl (by omega) (by omega)) (by omega) (by omega)) (by omega) (by omega)), by rw [sI_p (by omega)]; exact sI_eq, fun h => absurd h (of_eq_false pm9)⟩
            have b1 : (sI (sI (sI A 39 0 (iN p')) 39 1 (iN p')) 40 (j + 1) (iN v)).1 39 1 = iN p' := by rw [sI_p (by omega)]; exact sI_eq
            unfold f_X3_readSlab_l17_7
            simp (disch := omega) only [chk_t, beq_self_eq_true, nm_s, bj1_s, bj2_s, bj3_s, mo_1, mo_0, l_0, l_1, l_2, l_3, l_4, l_5, l_6, l_7, l_8, l_9, l_10, l_11, l_12, l_13, l_14, l_15, l_16, l_17, l_18, l_19, l_20, l_21, l_30, l_31, l_32, l_36, l_40, l_41, l_42, l_43, l_44, l_45, l_46, l_47, l_48, l_49, l_50, l_51, l_52, l_57, l_58, l_60, l_64, l_72, l_80, l_92, l_98, l_99, l_100, l_102, l_105, l_111, l_112, l_114, l_115, l_116, l_117, l_120, l_144, l_200, l_201, l_240, l_300, l_320, l_400, l_500, l_550, l_560, l_649, l_650, l_1000, l_1400, l_2000, l_4000, l_10000, iN_add, iN_sub, iN_mul, iN_le_t, iN_le_f, iN_lt_t, iN_lt_f, iN_eq_f, inb_iN, ix_iN, isZ_0, isZ_1, ↓reduceIte, eq_self, g1, a2, a1.1, it, b1, pm9]
          · obtain ⟨n', hn', g1, hA, g2⟩ := mstart n H hn hH
            rw [g1]
            generalize sI H 124 15 (iN (p + m)) = A at *
            obtain ⟨a1, a2, a3, a4⟩ := hA
            have val := mval (p := p + m) ht hz a1 (by omega)
            rw [ebT] at val
            have num := w6 (sI A 124 15 (iN (p + m + 1))) (mT_sI a1 (by omega)) sI_eq
            rw [sI_sI] at num
            refine ⟨sI (sI A 124 15 (iN p')) 124 16 (iN v), ?_, mf_tr g2 (mf_124 (mf_124 mf_refl (by omega)) (by omega)), fun h => absurd h (of_eq_false pm9)⟩
            unfold f_X8_slabFault_l39_12
            simp (disch := omega) only [chk_t, beq_self_eq_true, nm_s, bj1_s, bj2_s, bj3_s, mo_1, mo_0, l_0, l_1, l_2, l_3, l_4, l_5, l_6, l_7, l_8, l_9, l_10, l_11, l_12, l_13, l_14, l_15, l_16, l_17, l_18, l_19, l_20, l_21, l_30, l_31, l_32, l_36, l_40, l_41, l_42, l_43, l_44, l_45, l_46, l_47, l_48, l_49, l_50, l_51, l_52, l_57, l_58, l_60, l_64, l_72, l_80, l_92, l_98, l_99, l_100, l_102, l_105, l_111, l_112, l_114, l_115, l_116, l_117, l_120, l_144, l_200, l_201, l_240, l_300, l_320, l_400, l_500, l_550, l_560, l_649, l_650, l_1000, l_1400, l_2000, l_4000, l_10000, iN_add, iN_sub, iN_mul, iN_le_t, iN_le_f, iN_lt_t, iN_lt_f, iN_eq_f, inb_iN, ix_iN, isZ_0, isZ_1, ↓reduceIte, eq_self, a2, a1.1, val, j6, n32, jm9, s7, s8, num, sI_eq, sI_j]
      · have pm9 := iN_m9 (k := p + m) (by omega)
        refine ⟨iN (p + m), 0, V, fun h => absurd h (of_eq_false pm9), fun n G hn hG => ?_, fun n H hn hH => ?_⟩
        · obtain ⟨n, rfl⟩ : ∃ k, n = k + 1 := ⟨n - 1, by omega⟩
          obtain ⟨g1, hA, g2⟩ := cstart G hG
          generalize sI G 39 0 (iN (p + m)) = A at *
          obtain ⟨a1, a2, a3, a4, a5⟩ := hA
          have val := cval (p := p + m) ht hz a1 (by omega)
          rw [ebC, ← a2] at val
          have it := j9 _ 40 A ho hk40 val
          rw [a2] at it
          refine ⟨iN 0, sI A 39 1 (iN (p + m)), ?_, cc_tr g2 (cc_sI cc_refl (by omega) (by omega)), sI_eq, fun h => absurd h (of_eq_false pm9)⟩
          unfold f_X3_readSlab_l17_7
          simp (disch := omega) only [chk_t, beq_self_eq_true, nm_s, bj1_s, bj2_s, bj3_s, mo_1, mo_0, l_0, l_1, l_2, l_3, l_4, l_5, l_6, l_7, l_8, l_9, l_10, l_11, l_12, l_13, l_14, l_15, l_16, l_17, l_18, l_19, l_20, l_21, l_30, l_31, l_32, l_36, l_40, l_41, l_42, l_43, l_44, l_45, l_46, l_47, l_48, l_49, l_50, l_51, l_52, l_57, l_58, l_60, l_64, l_72, l_80, l_92, l_98, l_99, l_100, l_102, l_105, l_111, l_112, l_114, l_115, l_116, l_117, l_120, l_144, l_200, l_201, l_240, l_300, l_320, l_400, l_500, l_550, l_560, l_649, l_650, l_1000, l_1400, l_2000, l_4000, l_10000, iN_add, iN_sub, iN_mul, iN_le_t, iN_le_f, iN_lt_t, iN_lt_f, iN_eq_f, inb_iN, ix_iN, isZ_0, isZ_1, ↓reduceIte, eq_self, g1, a2, a1.1, it, sI_eq, pm9]
        · obtain ⟨n', hn', g1, hA, g2⟩ := mstart n H hn hH
          rw [g1]
          generalize sI H 124 15 (iN (p + m)) = A at *
          obtain ⟨a1, a2, a3, a4⟩ := hA
          have val := mval (p := p + m) ht hz a1 (by omega)
          rw [ebT] at val
          refine ⟨A, ?_, g2, fun h => absurd h (of_eq_false pm9)⟩
          unfold f_X8_slabFault_l39_12
          simp (disch := omega) only [chk_t, beq_self_eq_true, nm_s, bj1_s, bj2_s, bj3_s, mo_1, mo_0, l_0, l_1, l_2, l_3, l_4, l_5, l_6, l_7, l_8, l_9, l_10, l_11, l_12, l_13, l_14, l_15, l_16, l_17, l_18, l_19, l_20, l_21, l_30, l_31, l_32, l_36, l_40, l_41, l_42, l_43, l_44, l_45, l_46, l_47, l_48, l_49, l_50, l_51, l_52, l_57, l_58, l_60, l_64, l_72, l_80, l_92, l_98, l_99, l_100, l_102, l_105, l_111, l_112, l_114, l_115, l_116, l_117, l_120, l_144, l_200, l_201, l_240, l_300, l_320, l_400, l_500, l_550, l_560, l_649, l_650, l_1000, l_1400, l_2000, l_4000, l_10000, iN_add, iN_sub, iN_mul, iN_le_t, iN_le_f, iN_lt_t, iN_lt_f, iN_eq_f, inb_iN, ix_iN, isZ_0, isZ_1, ↓reduceIte, eq_self, a2, a1.1, val, j6, n32]
    · have hpz : p + m = z := by omega
      refine ⟨-iN 9, c, V, fun _ => hV, fun n G hn hG => ?_, fun n H hn hH => ?_⟩
      · obtain ⟨n, rfl⟩ : ∃ k, n = k + 1 := ⟨n - 1, by omega⟩
        obtain ⟨g1, hA, g2⟩ := cstart G hG
        generalize sI G 39 0 (iN (p + m)) = A at *
        obtain ⟨a1, a2, a3, a4, a5⟩ := hA
        refine ⟨iN c, A, ?_, g2, a3, fun _ => ⟨rfl, a4, a5⟩⟩
        unfold f_X3_readSlab_l17_7
        simp (disch := omega) only [chk_t, beq_self_eq_true, nm_s, bj1_s, bj2_s, bj3_s, mo_1, mo_0, l_0, l_1, l_2, l_3, l_4, l_5, l_6, l_7, l_8, l_9, l_10, l_11, l_12, l_13, l_14, l_15, l_16, l_17, l_18, l_19, l_20, l_21, l_30, l_31, l_32, l_36, l_40, l_41, l_42, l_43, l_44, l_45, l_46, l_47, l_48, l_49, l_50, l_51, l_52, l_57, l_58, l_60, l_64, l_72, l_80, l_92, l_98, l_99, l_100, l_102, l_105, l_111, l_112, l_114, l_115, l_116, l_117, l_120, l_144, l_200, l_201, l_240, l_300, l_320, l_400, l_500, l_550, l_560, l_649, l_650, l_1000, l_1400, l_2000, l_4000, l_10000, iN_add, iN_sub, iN_mul, iN_le_t, iN_le_f, iN_lt_t, iN_lt_f, iN_eq_f, inb_iN, ix_iN, isZ_0, isZ_1, ↓reduceIte, eq_self, g1, a2, a1.1]
      · obtain ⟨n', hn', g1, hA, g2⟩ := mstart n H hn hH
        rw [g1]
        generalize sI H 124 15 (iN (p + m)) = A at *
        obtain ⟨a1, a2, a3, a4⟩ := hA
        refine ⟨A, ?_, g2, fun _ => ⟨a3, a4⟩⟩
        unfold f_X8_slabFault_l39_12
        simp (disch := omega) only [chk_t, beq_self_eq_true, nm_s, bj1_s, bj2_s, bj3_s, mo_1, mo_0, l_0, l_1, l_2, l_3, l_4, l_5, l_6, l_7, l_8, l_9, l_10, l_11, l_12, l_13, l_14, l_15, l_16, l_17, l_18, l_19, l_20, l_21, l_30, l_31, l_32, l_36, l_40, l_41, l_42, l_43, l_44, l_45, l_46, l_47, l_48, l_49, l_50, l_51, l_52, l_57, l_58, l_60, l_64, l_72, l_80, l_92, l_98, l_99, l_100, l_102, l_105, l_111, l_112, l_114, l_115, l_116, l_117, l_120, l_144, l_200, l_201, l_240, l_300, l_320, l_400, l_500, l_550, l_560, l_649, l_650, l_1000, l_1400, l_2000, l_4000, l_10000, iN_add, iN_sub, iN_mul, iN_le_t, iN_le_f, iN_lt_t, iN_lt_f, iN_eq_f, inb_iN, ix_iN, isZ_0, isZ_1, ↓reduceIte, eq_self, a2, a1.1]

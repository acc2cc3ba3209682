/-! order: the first least -/
/-- the first least of those that count, below c -/
def fstB (ok : Nat → Prop) (su : Nat → Nat) (c : Nat) (r : Option Nat) : Prop :=
  (r = none ∧ ∀ i, i < c → ¬ ok i) ∨ ∃ b, r = some b ∧ b < c ∧ ok b ∧ (∀ i, i < c → ok i → su b ≤ su i) ∧ ∀ i, i < b → ok i → su b < su i
theorem cfind_ok {a : Nat} {G : G_} {su : Nat → Nat} (ha : a < 16) (h1 : pcS a < 5) (hsu : ∀ c, c < 256 → okC c (pcS a) a = true → suC (G.1 46) c (pcS a) a (iN 0) = iN (su c) ∧ su c ≤ 10000) : ∃ H r, f_X1_findBest (iN a) G = some H ∧ fstB (fun c => okC c (pcS a) a = true) su (4 ^ pcS a) r ∧ (∀ q, q ≠ 45 → q ≠ 47 → H.1 q = G.1 q) ∧ H.2 = G.2 ∧ (r = none → H.1 45 2 = -iN 1) ∧ ∀ b, r = some b → H.1 45 2 = iN (su b) ∧ ∀ i, i < pcS a → H.1 47 i = figS b (pcS a) i := by
  have hbc := t_bc a ha
  generalize hm : pcS a = m at *
  have h4 : 4 ^ m ≤ 256 := by
    have : m = 0 ∨ m = 1 ∨ m = 2 ∨ m = 3 ∨ m = 4 := by omega
    rcases this with rfl | rfl | rfl | rfl | rfl <;> decide
  have hp := t_pow m h1
  have key : ∃ H, f_X1_findBest_l12_6 (iN a) (iN m) FU (iN 0) (sI G 45 2 (-iN 1)) = some H ∧ ∃ r, fstB (fun c => okC c m a = true) su (4 ^ m) r ∧ (∀ q, q ≠ 45 → q ≠ 47 → H.1 q = G.1 q) ∧ H.2 = G.2 ∧ (r = none → H.1 45 2 = -iN 1) ∧ ∀ b, r = some b → H.1 45 2 = iN (su b) ∧ ∀ i, i < m → H.1 47 i = figS b m i := by
    refine loop_h (fun f v s => f_X1_findBest_l12_6 (iN a) (iN m) f v s) (fun c H => ∃ r, fstB (fun c => okC c m a = true) su c r ∧ (∀ q, q ≠ 45 → q ≠ 47 → H.1 q = G.1 q) ∧ H.2 = G.2 ∧ (r = none → H.1 45 2 = -iN 1) ∧ ∀ b, r = some b → H.1 45 2 = iN (su b) ∧ ∀ i, i < m → H.1 47 i = figS b m i) _ 0 (4 ^ m) ?_ ?_ (Nat.zero_le _) (n := FU) (by have : 300 < FU := fu_lt (by omega); omega) ⟨none, Or.inl ⟨rfl, fun i hi => by omega⟩, fun q h1 _ => by rw [sI_p h1], rfl, fun _ => sI_eq, fun b hb => by cases hb⟩
    · intro f c A h3 h5 ⟨r, i0, i1, i2, i3, i4⟩
      have lo := clossO (G := A) (m := m) (c := c) (a := a) h1 (by omega) ha
      rw [i1 46 (by omega) (by omega)] at lo
      have np : (iN (4 ^ m) ≤ iN c) = False := iN_le_f (by omega) (by omega)
      have cl : iN c + 1 = iN (c + 1) := iN_add c 1
      by_cases ok : okC c m a = true
      · obtain ⟨e, eb⟩ := hsu c (by omega) ok
        rw [if_pos ok, e] at lo
        have n0 : (iN (su c) < iN 0) = False := iN_lt_f (by omega) (by omega)
        rcases i0 with ⟨j1, j2⟩ | ⟨b, j1, j2, j3, j4, j5⟩
        · have v1 := i3 j1
          obtain ⟨B, f1, f2, f3, f4⟩ := cfig1 (a := a) (m := m) (c := c) (x := iN a) (G := sI A 45 2 (iN (su c))) h1 (by omega)
          refine ⟨B, ⟨some c, Or.inr ⟨c, rfl, by omega, ok, fun i hi ho => ?_, fun i hi ho => absurd ho (j2 i hi)⟩, fun q q1 q2 => by rw [f3 q q2, sI_p q1]; exact i1 q q1 q2, f4.trans i2, fun h => (by cases h), fun b hb => ?_⟩, ?_⟩
          · by_cases d : i = c
            · rw [d]
              exact Nat.le_refl _
            · exact absurd ho (j2 i (by omega))
          · injection hb with hb
            subst hb
            exact ⟨by rw [f3 45 (by omega)]; exact sI_eq, f2⟩
          · show f_X1_findBest_l12_6 (iN a) (iN m) (f + 1) (iN c) A = _
            conv => lhs; unfold f_X1_findBest_l12_6
            rw [show (1 : Int32) <<< ((2 * iN m) &&& 31) = iN (4 ^ m) from hp]
            simp (disch := omega) only [chk_t, beq_self_eq_true, nm_s, bj1_s, bj2_s, bj3_s, mo_1, mo_0, l_0, l_1, l_2, l_3, l_4, l_5, l_6, l_7, l_8, l_9, l_10, l_11, l_12, l_13, l_14, l_15, l_16, l_17, l_18, l_19, l_20, l_21, l_30, l_31, l_32, l_36, l_40, l_41, l_42, l_43, l_44, l_45, l_46, l_47, l_48, l_49, l_50, l_51, l_52, l_57, l_58, l_60, l_64, l_72, l_80, l_92, l_98, l_99, l_100, l_102, l_105, l_111, l_112, l_114, l_115, l_116, l_117, l_120, l_144, l_200, l_201, l_240, l_300, l_320, l_400, l_500, l_550, l_560, l_649, l_650, l_1000, l_1400, l_2000, l_4000, l_10000, iN_add, iN_sub, iN_mul, iN_le_t, iN_le_f, iN_lt_t, iN_lt_f, iN_eq_f, inb_iN, ix_iN, isZ_0, isZ_1, ↓reduceIte, eq_self, np, lo, n0, v1, lt_m1, f1]
        · obtain ⟨v1, v2⟩ := i4 b j1
          have eb2 := (hsu b (by omega) j3).2
          have nb : (iN (su b) < iN 0) = False := iN_lt_f (by omega) (by omega)
          by_cases le : su b ≤ su c
          · refine ⟨A, ⟨some b, Or.inr ⟨b, rfl, by omega, j3, fun i hi ho => ?_, j5⟩, i1, i2, fun h => (by cases h), fun b' hb => ?_⟩, ?_⟩
            · by_cases d : i = c
              · rw [d]
                exact le
              · exact j4 i (by omega) ho
            · injection hb with hb
              subst hb
              exact ⟨v1, v2⟩
            · show f_X1_findBest_l12_6 (iN a) (iN m) (f + 1) (iN c) A = _
              conv => lhs; unfold f_X1_findBest_l12_6
              rw [show (1 : Int32) <<< ((2 * iN m) &&& 31) = iN (4 ^ m) from hp]
              simp (disch := omega) only [chk_t, beq_self_eq_true, nm_s, bj1_s, bj2_s, bj3_s, mo_1, mo_0, l_0, l_1, l_2, l_3, l_4, l_5, l_6, l_7, l_8, l_9, l_10, l_11, l_12, l_13, l_14, l_15, l_16, l_17, l_18, l_19, l_20, l_21, l_30, l_31, l_32, l_36, l_40, l_41, l_42, l_43, l_44, l_45, l_46, l_47, l_48, l_49, l_50, l_51, l_52, l_57, l_58, l_60, l_64, l_72, l_80, l_92, l_98, l_99, l_100, l_102, l_105, l_111, l_112, l_114, l_115, l_116, l_117, l_120, l_144, l_200, l_201, l_240, l_300, l_320, l_400, l_500, l_550, l_560, l_649, l_650, l_1000, l_1400, l_2000, l_4000, l_10000, iN_add, iN_sub, iN_mul, iN_le_t, iN_le_f, iN_lt_t, iN_lt_f, iN_eq_f, inb_iN, ix_iN, isZ_0, isZ_1, ↓reduceIte, eq_self, np, lo, n0, v1, nb]
          · obtain ⟨B, f1, f2, f3, f4⟩ := cfig2 (m := m) (c := c) (x := iN a) (G := sI A 45 2 (iN (su c))) h1 (by omega)
            refine ⟨B, ⟨some c, Or.inr ⟨c, rfl, by omega, ok, fun i hi ho => ?_, fun i hi ho => ?_⟩, fun q q1 q2 => by rw [f3 q q2, sI_p q1]; exact i1 q q1 q2, f4.trans i2, fun h => (by cases h), fun b hb => ?_⟩, ?_⟩
            · by_cases d : i = c
              · rw [d]
                exact Nat.le_refl _
              · have := j4 i (by omega) ho
                omega
            · have := j4 i hi ho
              omega
            · injection hb with hb
              subst hb
              exact ⟨by rw [f3 45 (by omega)]; exact sI_eq, f2⟩
            · show f_X1_findBest_l12_6 (iN a) (iN m) (f + 1) (iN c) A = _
              conv => lhs; unfold f_X1_findBest_l12_6
              rw [show (1 : Int32) <<< ((2 * iN m) &&& 31) = iN (4 ^ m) from hp]
              simp (disch := omega) only [chk_t, beq_self_eq_true, nm_s, bj1_s, bj2_s, bj3_s, mo_1, mo_0, l_0, l_1, l_2, l_3, l_4, l_5, l_6, l_7, l_8, l_9, l_10, l_11, l_12, l_13, l_14, l_15, l_16, l_17, l_18, l_19, l_20, l_21, l_30, l_31, l_32, l_36, l_40, l_41, l_42, l_43, l_44, l_45, l_46, l_47, l_48, l_49, l_50, l_51, l_52, l_57, l_58, l_60, l_64, l_72, l_80, l_92, l_98, l_99, l_100, l_102, l_105, l_111, l_112, l_114, l_115, l_116, l_117, l_120, l_144, l_200, l_201, l_240, l_300, l_320, l_400, l_500, l_550, l_560, l_649, l_650, l_1000, l_1400, l_2000, l_4000, l_10000, iN_add, iN_sub, iN_mul, iN_le_t, iN_le_f, iN_lt_t, iN_lt_f, iN_eq_f, inb_iN, ix_iN, isZ_0, isZ_1, ↓reduceIte, eq_self, np, lo, n0, v1, nb, f1]
      · rw [if_neg ok] at lo
        refine ⟨A, ⟨r, ?_, i1, i2, i3, i4⟩, ?_⟩
        · rcases i0 with ⟨j1, j2⟩ | ⟨b, j1, j2, j3, j4, j5⟩
          · refine Or.inl ⟨j1, fun i hi ho => ?_⟩
            by_cases d : i = c
            · rw [d] at ho
              exact ok ho
            · exact j2 i (by omega) ho
          · refine Or.inr ⟨b, j1, by omega, j3, fun i hi ho => ?_, j5⟩
            by_cases d : i = c
            · rw [d] at ho
              exact absurd ho ok
            · exact j4 i (by omega) ho
        · show f_X1_findBest_l12_6 (iN a) (iN m) (f + 1) (iN c) A = _
          conv => lhs; unfold f_X1_findBest_l12_6
          rw [show (1 : Int32) <<< ((2 * iN m) &&& 31) = iN (4 ^ m) from hp]
          simp (disch := omega) only [chk_t, beq_self_eq_true, nm_s, bj1_s, bj2_s, bj3_s, mo_1, mo_0, l_0, l_1, l_2, l_3, l_4, l_5, l_6, l_7, l_8, l_9, l_10, l_11, l_12, l_13, l_14, l_15, l_16, l_17, l_18, l_19, l_20, l_21, l_30, l_31, l_32, l_36, l_40, l_41, l_42, l_43, l_44, l_45, l_46, l_47, l_48, l_49, l_50, l_51, l_52, l_57, l_58, l_60, l_64, l_72, l_80, l_92, l_98, l_99, l_100, l_102, l_105, l_111, l_112, l_114, l_115, l_116, l_117, l_120, l_144, l_200, l_201, l_240, l_300, l_320, l_400, l_500, l_550, l_560, l_649, l_650, l_1000, l_1400, l_2000, l_4000, l_10000, iN_add, iN_sub, iN_mul, iN_le_t, iN_le_f, iN_lt_t, iN_lt_f, iN_eq_f, inb_iN, ix_iN, isZ_0, isZ_1, ↓reduceIte, eq_self, np, lo, lt_m1]
    · intro f A hI
      refine ⟨A, ?_, hI⟩
      show f_X1_findBest_l12_6 (iN a) (iN m) (f + 1) (iN (4 ^ m)) A = _
      unfold f_X1_findBest_l12_6
      rw [show (1 : Int32) <<< ((2 * iN m) &&& 31) = iN (4 ^ m) from hp, if_pos (of_eq_true (iN_le_t (by omega) (by omega)))]
  obtain ⟨H, k1, r, k2⟩ := key
  refine ⟨H, r, ?_, k2⟩
  unfold f_X1_findBest
  simp (disch := omega) only [chk_t, beq_self_eq_true, nm_s, bj1_s, bj2_s, bj3_s, mo_1, mo_0, l_0, l_1, l_2, l_3, l_4, l_5, l_6, l_7, l_8, l_9, l_10, l_11, l_12, l_13, l_14, l_15, l_16, l_17, l_18, l_19, l_20, l_21, l_30, l_31, l_32, l_36, l_40, l_41, l_42, l_43, l_44, l_45, l_46, l_47, l_48, l_49, l_50, l_51, l_52, l_57, l_58, l_60, l_64, l_72, l_80, l_92, l_98, l_99, l_100, l_102, l_105, l_111, l_112, l_114, l_115, l_116, l_117, l_120, l_144, l_200, l_201, l_240, l_300, l_320, l_400, l_500, l_550, l_560, l_649, l_650, l_1000, l_1400, l_2000, l_4000, l_10000, iN_add, iN_sub, iN_mul, iN_le_t, iN_le_f, iN_lt_t, iN_lt_f, iN_eq_f, inb_iN, ix_iN, isZ_0, isZ_1, ↓reduceIte, eq_self, hbc, k1]

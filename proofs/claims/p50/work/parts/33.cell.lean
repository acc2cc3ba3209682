/-! the law's numbers: cells, SLABs and STEPS by numbers -/
def cz (sl : Nat) (xs : Nat → Int32) (k : Nat) : Nat := if sl ≤ k then (61 * k + 7) * (k + 3) else (xs k).toBitVec.toNat % 268435456
theorem and28 (x : Int32) : x &&& iN 268435455 = iN (x.toBitVec.toNat % 268435456) := by
  refine Int32.toBitVec_inj.mp (BitVec.eq_of_toNat_eq ?_)
  rw [Int32.toBitVec_and, BitVec.toNat_and]
  show x.toBitVec.toNat &&& 268435455 = (BitVec.ofNat 32 (x.toBitVec.toNat % 268435456)).toNat
  rw [BitVec.toNat_ofNat, show (268435455 : Nat) = 2 ^ 28 - 1 from rfl, Nat.and_two_pow_sub_one_eq_mod]
  have : x.toBitVec.toNat % 2 ^ 28 < 2 ^ 28 := Nat.mod_lt _ (by decide)
  show x.toBitVec.toNat % 2 ^ 28 = x.toBitVec.toNat % 2 ^ 28 % 2 ^ 32
  omega
theorem cz_lt {sl : Nat} {xs : Nat → Int32} {k : Nat} (hk : k ≤ 40) : cz sl xs k < 268435456 := by
  unfold cz
  split
  · have : (61 * k + 7) * (k + 3) ≤ 2447 * 43 := Nat.mul_le_mul (by omega) (by omega)
    omega
  · exact Nat.mod_lt _ (by omega)
theorem cell_c {sl k : Nat} {xs : Nat → Int32} {G : G_} (hk : k ≤ 40) (hs : sl ≤ 260) : f_L_cell sl xs (iN k) G = some (iN (cz sl xs k)) := by
  unfold f_L_cell cz
  have e : Int32.ofNat sl = iN sl := rfl
  rw [e]
  by_cases c : sl ≤ k
  · simp (disch := omega) only [chk_t, beq_self_eq_true, nm_s, bj1_s, bj2_s, bj3_s, mo_1, mo_0, l_0, l_1, l_2, l_3, l_4, l_5, l_6, l_7, l_8, l_9, l_10, l_11, l_12, l_13, l_14, l_15, l_16, l_17, l_18, l_19, l_20, l_21, l_24, l_30, l_31, l_32, l_36, l_40, l_41, l_42, l_43, l_44, l_45, l_46, l_47, l_48, l_49, l_50, l_51, l_52, l_57, l_58, l_60, l_61, l_64, l_72, l_80, l_92, l_98, l_99, l_100, l_102, l_105, l_111, l_112, l_114, l_115, l_116, l_117, l_120, l_144, l_200, l_201, l_240, l_300, l_320, l_400, l_500, l_512, l_550, l_560, l_649, l_650, l_1000, l_1032, l_1400, l_2000, l_4000, l_10000, l_268435455, iN_add, iN_sub, iN_mul, iN_le_t, iN_le_f, iN_lt_t, iN_lt_f, iN_eq_f, inb_iN, ix_iN, isZ_0, isZ_1, ↓reduceIte, eq_self, if_pos c]
  · simp (disch := omega) only [chk_t, beq_self_eq_true, nm_s, bj1_s, bj2_s, bj3_s, mo_1, mo_0, l_0, l_1, l_2, l_3, l_4, l_5, l_6, l_7, l_8, l_9, l_10, l_11, l_12, l_13, l_14, l_15, l_16, l_17, l_18, l_19, l_20, l_21, l_24, l_30, l_31, l_32, l_36, l_40, l_41, l_42, l_43, l_44, l_45, l_46, l_47, l_48, l_49, l_50, l_51, l_52, l_57, l_58, l_60, l_61, l_64, l_72, l_80, l_92, l_98, l_99, l_100, l_102, l_105, l_111, l_112, l_114, l_115, l_116, l_117, l_120, l_144, l_200, l_201, l_240, l_300, l_320, l_400, l_500, l_512, l_550, l_560, l_649, l_650, l_1000, l_1032, l_1400, l_2000, l_4000, l_10000, l_268435455, iN_add, iN_sub, iN_mul, iN_le_t, iN_le_f, iN_lt_t, iN_lt_f, iN_eq_f, inb_iN, ix_iN, isZ_0, isZ_1, ↓reduceIte, eq_self, if_neg c, and28]
theorem cell_ca {sl k a : Nat} {xs : Nat → Int32} {G : G_} (h : k + a ≤ 40) (hs : sl ≤ 260) : f_L_cell sl xs (iN k + iN a) G = some (iN (cz sl xs (k + a))) := by
  rw [iN_add, cell_c h hs]
theorem sI_v {G : G_} {p i j : Nat} {v : Int32} : (sI G p j v).1 p i = if i = j then v else G.1 p i := by
  by_cases c : i = j
  · subst c
    rw [if_pos rfl, sI_eq]
  · rw [if_neg c, sI_j c]
def nuS (sl : Nat) (xs : Nat → Int32) (a i : Nat) : Nat := if i = 0 then 3 + (cz sl xs a - cz sl xs a / 12 * 12) else if i = 1 then cz sl xs (a + 1) - cz sl xs (a + 1) / 30 * 30 else if i = 2 then (if cz sl xs (a + 2) % 2 = 0 then 0 else cz sl xs (a + 2) / 2 - cz sl xs (a + 2) / 2 / 61 * 61) else cz sl xs (a + 3) - cz sl xs (a + 3) / 10 * 10
theorem nuS_ok (sl : Nat) (xs : Nat → Int32) (a : Nat) : slOK (nuS sl xs a) := by
  unfold slOK nuS
  simp only [↓reduceIte, Nat.reduceEqDiff, Nat.one_ne_zero]
  refine ⟨by omega, by omega, by omega, ?_, by omega⟩
  split <;> omega
theorem num_c {sl a a2 : Nat} {xs : Nat → Int32} {G : G_} (ha : a ≤ 30) (hs : sl ≤ 260) : ∃ A, f_L_numbers sl xs (iN a) a2 G = some A ∧ (∀ i, i < 4 → A.1 a2 i = iN (nuS sl xs a i)) ∧ (∀ q, q ≠ a2 → A.1 q = G.1 q) ∧ A.2 = G.2 := by
  have h0 := @cz_lt sl xs a (by omega)
  have h1 := @cz_lt sl xs (a + 1) (by omega)
  have h2 := @cz_lt sl xs (a + 2) (by omega)
  have h3 := @cz_lt sl xs (a + 3) (by omega)
  have c0 := fun G => @cell_c sl a xs G (by omega) hs
  have c1 := fun G => @cell_c sl (a + 1) xs G (by omega) hs
  have c2 := fun G => @cell_c sl (a + 2) xs G (by omega) hs
  have c3 := fun G => @cell_c sl (a + 3) xs G (by omega) hs
  have key : f_L_numbers sl xs (iN a) a2 G = some (sI (sI (sI (sI G a2 0 (iN (nuS sl xs a 0))) a2 1 (iN (nuS sl xs a 1))) a2 2 (iN (nuS sl xs a 2))) a2 3 (iN (nuS sl xs a 3))) := by
    unfold f_L_numbers nuS
    simp only [↓reduceIte, Nat.reduceEqDiff, Nat.one_ne_zero]
    generalize cz sl xs a = z0 at *
    generalize cz sl xs (a + 1) = z1 at *
    generalize cz sl xs (a + 2) = z2 at *
    generalize cz sl xs (a + 3) = z3 at *
    by_cases e2 : z2 % 2 = 0
    · have e3 : z2 - z2 / 2 * 2 = 0 := by omega
      simp (disch := omega) only [chk_t, beq_self_eq_true, nm_s, bj1_s, bj2_s, bj3_s, mo_1, mo_0, l_0, l_1, l_2, l_3, l_4, l_5, l_6, l_7, l_8, l_9, l_10, l_11, l_12, l_13, l_14, l_15, l_16, l_17, l_18, l_19, l_20, l_21, l_24, l_30, l_31, l_32, l_36, l_40, l_41, l_42, l_43, l_44, l_45, l_46, l_47, l_48, l_49, l_50, l_51, l_52, l_57, l_58, l_60, l_61, l_64, l_72, l_80, l_92, l_98, l_99, l_100, l_102, l_105, l_111, l_112, l_114, l_115, l_116, l_117, l_120, l_144, l_200, l_201, l_240, l_300, l_320, l_400, l_500, l_512, l_550, l_560, l_649, l_650, l_1000, l_1032, l_1400, l_2000, l_4000, l_10000, l_268435455, iN_add, iN_sub, iN_mul, iN_le_t, iN_le_f, iN_lt_t, iN_lt_f, iN_eq_f, inb_iN, ix_iN, isZ_0, isZ_1, ↓reduceIte, eq_self, c0, c1, c2, c3, iN_div, e3, if_pos e2]
    · have e3 : z2 - z2 / 2 * 2 = 1 := by omega
      simp (disch := omega) only [chk_t, beq_self_eq_true, nm_s, bj1_s, bj2_s, bj3_s, mo_1, mo_0, l_0, l_1, l_2, l_3, l_4, l_5, l_6, l_7, l_8, l_9, l_10, l_11, l_12, l_13, l_14, l_15, l_16, l_17, l_18, l_19, l_20, l_21, l_24, l_30, l_31, l_32, l_36, l_40, l_41, l_42, l_43, l_44, l_45, l_46, l_47, l_48, l_49, l_50, l_51, l_52, l_57, l_58, l_60, l_61, l_64, l_72, l_80, l_92, l_98, l_99, l_100, l_102, l_105, l_111, l_112, l_114, l_115, l_116, l_117, l_120, l_144, l_200, l_201, l_240, l_300, l_320, l_400, l_500, l_512, l_550, l_560, l_649, l_650, l_1000, l_1032, l_1400, l_2000, l_4000, l_10000, l_268435455, iN_add, iN_sub, iN_mul, iN_le_t, iN_le_f, iN_lt_t, iN_lt_f, iN_eq_f, inb_iN, ix_iN, isZ_0, isZ_1, ↓reduceIte, eq_self, c0, c1, c2, c3, iN_div, e3, if_neg e2]
  refine ⟨_, key, fun i hi => ?_, fun q hq => ?_, rfl⟩
  · rcases (by omega : i = 0 ∨ i = 1 ∨ i = 2 ∨ i = 3) with rfl | rfl | rfl | rfl <;> simp [sI_v]
  · rw [sI_p hq, sI_p hq, sI_p hq, sI_p hq]
def kdN (x : Nat) : Nat := if 3 ≤ x - x / 8 * 8 then x - x / 8 * 8 - 1 else 1
def hqN (x : Nat) : Nat := if kdN x ≤ 3 then (if kdN x = 1 then 14 + (x / 8 - x / 8 / 17 * 17) else if kdN x = 2 then 8 + (x / 8 - x / 8 / 20 * 20) else 5 + (x / 8 - x / 8 / 5 * 5)) else 0
def lnN (x : Nat) : Nat := if kdN x ≤ 4 then 1 + (x / 512 - x / 512 / 18 * 18) else 0
def stN (x : Nat) : Nat × Nat × Nat := (kdN x, hqN x, lnN x)
theorem kdN_r (x : Nat) : 1 ≤ kdN x ∧ kdN x ≤ 6 := by
  unfold kdN
  split <;> omega
theorem stN_g (x : Nat) : stg (stN x) ∧ (stN x).2.2 ≤ 18 := by
  have k := kdN_r x
  unfold stg stN
  show (1 ≤ kdN x ∧ kdN x ≤ 6 ∧ (kdN x ≤ 3 → 2 ≤ hqN x ∧ hqN x ≤ 30) ∧ (3 < kdN x → hqN x = 0) ∧ (kdN x ≤ 4 → 1 ≤ lnN x ∧ lnN x ≤ 60) ∧ (4 < kdN x → lnN x = 0)) ∧ lnN x ≤ 18
  unfold hqN lnN
  generalize kdN x = k at *
  refine ⟨⟨k.1, k.2, fun h => ?_, fun h => if_neg (by omega), fun h => ?_, fun h => if_neg (by omega)⟩, ?_⟩
  · rw [if_pos h]
    split
    · omega
    · split <;> omega
  · rw [if_pos h]
    omega
  · split <;> omega
theorem lplans_s {a1 : Int32} {a3 sl n a i m : Nat} {xs : Nat → Int32} {G : G_} (e1 : a1 = iN a) (hs : sl ≤ 260) (ha : a ≤ 30) (hi : i < m) (hm : m ≤ 6) (h0 : G.1 a3 0 = iN m) : f_L_plans_l15_8 a1 a3 sl xs (n + 1) (iN i) G = f_L_plans_l15_8 a1 a3 sl xs n (iN (i + 1)) (sI (sI (sI G a3 (1 + 3 * i) (iN (stN (cz sl xs (a + 1 + i))).1)) a3 (2 + 3 * i) (iN (stN (cz sl xs (a + 1 + i))).2.1)) a3 (3 + 3 * i) (iN (stN (cz sl xs (a + 1 + i))).2.2)) := by
  subst e1
  have hz := @cz_lt sl xs (a + 1 + i) (by omega)
  have hc := fun G => @cell_c sl (a + 1 + i) xs G (by omega) hs
  conv => lhs; unfold f_L_plans_l15_8
  show _ = f_L_plans_l15_8 (iN a) a3 sl xs n (iN (i + 1)) (sI (sI (sI G a3 (1 + 3 * i) (iN (kdN (cz sl xs (a + 1 + i))))) a3 (2 + 3 * i) (iN (hqN (cz sl xs (a + 1 + i))))) a3 (3 + 3 * i) (iN (lnN (cz sl xs (a + 1 + i)))))
  generalize cz sl xs (a + 1 + i) = x at *
  have kr := kdN_r x
  have ek : (if iN 3 ≤ iN x - iN x / iN 8 * iN 8 then some (iN x - iN x / iN 8 * iN 8 - iN 1) else some (iN 1)) = some (iN (kdN x)) := by
    unfold kdN
    by_cases c : 3 ≤ x - x / 8 * 8
    · simp (disch := omega) only [chk_t, beq_self_eq_true, nm_s, bj1_s, bj2_s, bj3_s, mo_1, mo_0, l_0, l_1, l_2, l_3, l_4, l_5, l_6, l_7, l_8, l_9, l_10, l_11, l_12, l_13, l_14, l_15, l_16, l_17, l_18, l_19, l_20, l_21, l_24, l_30, l_31, l_32, l_36, l_40, l_41, l_42, l_43, l_44, l_45, l_46, l_47, l_48, l_49, l_50, l_51, l_52, l_57, l_58, l_60, l_61, l_64, l_72, l_80, l_92, l_98, l_99, l_100, l_102, l_105, l_111, l_112, l_114, l_115, l_116, l_117, l_120, l_144, l_200, l_201, l_240, l_300, l_320, l_400, l_500, l_512, l_550, l_560, l_649, l_650, l_1000, l_1032, l_1400, l_2000, l_4000, l_10000, l_268435455, iN_add, iN_sub, iN_mul, iN_le_t, iN_le_f, iN_lt_t, iN_lt_f, iN_eq_f, inb_iN, ix_iN, isZ_0, isZ_1, ↓reduceIte, eq_self, iN_div, if_pos c]
    · simp (disch := omega) only [chk_t, beq_self_eq_true, nm_s, bj1_s, bj2_s, bj3_s, mo_1, mo_0, l_0, l_1, l_2, l_3, l_4, l_5, l_6, l_7, l_8, l_9, l_10, l_11, l_12, l_13, l_14, l_15, l_16, l_17, l_18, l_19, l_20, l_21, l_24, l_30, l_31, l_32, l_36, l_40, l_41, l_42, l_43, l_44, l_45, l_46, l_47, l_48, l_49, l_50, l_51, l_52, l_57, l_58, l_60, l_61, l_64, l_72, l_80, l_92, l_98, l_99, l_100, l_102, l_105, l_111, l_112, l_114, l_115, l_116, l_117, l_120, l_144, l_200, l_201, l_240, l_300, l_320, l_400, l_500, l_512, l_550, l_560, l_649, l_650, l_1000, l_1032, l_1400, l_2000, l_4000, l_10000, l_268435455, iN_add, iN_sub, iN_mul, iN_le_t, iN_le_f, iN_lt_t, iN_lt_f, iN_eq_f, inb_iN, ix_iN, isZ_0, isZ_1, ↓reduceIte, eq_self, iN_div, if_neg c]
  have eq : (if iN (kdN x) ≤ iN 3 then (if iN (kdN x) = iN 1 then some (iN 14 + (iN x / iN 8 - iN x / iN 8 / iN 17 * iN 17)) else (if iN (kdN x) = iN 2 then some (iN 8 + (iN x / iN 8 - iN x / iN 8 / iN 20 * iN 20)) else some (iN 5 + (iN x / iN 8 - iN x / iN 8 / iN 5 * iN 5)))) else some (iN 0)) = some (iN (hqN x)) := by
    unfold hqN
    generalize kdN x = k at *
    by_cases c : k ≤ 3
    · by_cases c1 : k = 1
      · subst c1
        simp (disch := omega) only [chk_t, beq_self_eq_true, nm_s, bj1_s, bj2_s, bj3_s, mo_1, mo_0, l_0, l_1, l_2, l_3, l_4, l_5, l_6, l_7, l_8, l_9, l_10, l_11, l_12, l_13, l_14, l_15, l_16, l_17, l_18, l_19, l_20, l_21, l_24, l_30, l_31, l_32, l_36, l_40, l_41, l_42, l_43, l_44, l_45, l_46, l_47, l_48, l_49, l_50, l_51, l_52, l_57, l_58, l_60, l_61, l_64, l_72, l_80, l_92, l_98, l_99, l_100, l_102, l_105, l_111, l_112, l_114, l_115, l_116, l_117, l_120, l_144, l_200, l_201, l_240, l_300, l_320, l_400, l_500, l_512, l_550, l_560, l_649, l_650, l_1000, l_1032, l_1400, l_2000, l_4000, l_10000, l_268435455, iN_add, iN_sub, iN_mul, iN_le_t, iN_le_f, iN_lt_t, iN_lt_f, iN_eq_f, inb_iN, ix_iN, isZ_0, isZ_1, ↓reduceIte, eq_self, iN_div, if_pos c]
      · by_cases c2 : k = 2
        · subst c2
          simp (disch := omega) only [chk_t, beq_self_eq_true, nm_s, bj1_s, bj2_s, bj3_s, mo_1, mo_0, l_0, l_1, l_2, l_3, l_4, l_5, l_6, l_7, l_8, l_9, l_10, l_11, l_12, l_13, l_14, l_15, l_16, l_17, l_18, l_19, l_20, l_21, l_24, l_30, l_31, l_32, l_36, l_40, l_41, l_42, l_43, l_44, l_45, l_46, l_47, l_48, l_49, l_50, l_51, l_52, l_57, l_58, l_60, l_61, l_64, l_72, l_80, l_92, l_98, l_99, l_100, l_102, l_105, l_111, l_112, l_114, l_115, l_116, l_117, l_120, l_144, l_200, l_201, l_240, l_300, l_320, l_400, l_500, l_512, l_550, l_560, l_649, l_650, l_1000, l_1032, l_1400, l_2000, l_4000, l_10000, l_268435455, iN_add, iN_sub, iN_mul, iN_le_t, iN_le_f, iN_lt_t, iN_lt_f, iN_eq_f, inb_iN, ix_iN, isZ_0, isZ_1, ↓reduceIte, eq_self, iN_div, if_neg c1, if_pos c]
        · simp (disch := omega) only [chk_t, beq_self_eq_true, nm_s, bj1_s, bj2_s, bj3_s, mo_1, mo_0, l_0, l_1, l_2, l_3, l_4, l_5, l_6, l_7, l_8, l_9, l_10, l_11, l_12, l_13, l_14, l_15, l_16, l_17, l_18, l_19, l_20, l_21, l_24, l_30, l_31, l_32, l_36, l_40, l_41, l_42, l_43, l_44, l_45, l_46, l_47, l_48, l_49, l_50, l_51, l_52, l_57, l_58, l_60, l_61, l_64, l_72, l_80, l_92, l_98, l_99, l_100, l_102, l_105, l_111, l_112, l_114, l_115, l_116, l_117, l_120, l_144, l_200, l_201, l_240, l_300, l_320, l_400, l_500, l_512, l_550, l_560, l_649, l_650, l_1000, l_1032, l_1400, l_2000, l_4000, l_10000, l_268435455, iN_add, iN_sub, iN_mul, iN_le_t, iN_le_f, iN_lt_t, iN_lt_f, iN_eq_f, inb_iN, ix_iN, isZ_0, isZ_1, ↓reduceIte, eq_self, iN_div, if_neg c1, if_neg c2, if_pos c]
    · simp (disch := omega) only [chk_t, beq_self_eq_true, nm_s, bj1_s, bj2_s, bj3_s, mo_1, mo_0, l_0, l_1, l_2, l_3, l_4, l_5, l_6, l_7, l_8, l_9, l_10, l_11, l_12, l_13, l_14, l_15, l_16, l_17, l_18, l_19, l_20, l_21, l_24, l_30, l_31, l_32, l_36, l_40, l_41, l_42, l_43, l_44, l_45, l_46, l_47, l_48, l_49, l_50, l_51, l_52, l_57, l_58, l_60, l_61, l_64, l_72, l_80, l_92, l_98, l_99, l_100, l_102, l_105, l_111, l_112, l_114, l_115, l_116, l_117, l_120, l_144, l_200, l_201, l_240, l_300, l_320, l_400, l_500, l_512, l_550, l_560, l_649, l_650, l_1000, l_1032, l_1400, l_2000, l_4000, l_10000, l_268435455, iN_add, iN_sub, iN_mul, iN_le_t, iN_le_f, iN_lt_t, iN_lt_f, iN_eq_f, inb_iN, ix_iN, isZ_0, isZ_1, ↓reduceIte, eq_self, if_neg c]
  have el : (if iN (kdN x) ≤ iN 4 then some (iN 1 + (iN x / iN 512 - iN x / iN 512 / iN 18 * iN 18)) else some (iN 0)) = some (iN (lnN x)) := by
    unfold lnN
    generalize kdN x = k at *
    by_cases c : k ≤ 4
    · simp (disch := omega) only [chk_t, beq_self_eq_true, nm_s, bj1_s, bj2_s, bj3_s, mo_1, mo_0, l_0, l_1, l_2, l_3, l_4, l_5, l_6, l_7, l_8, l_9, l_10, l_11, l_12, l_13, l_14, l_15, l_16, l_17, l_18, l_19, l_20, l_21, l_24, l_30, l_31, l_32, l_36, l_40, l_41, l_42, l_43, l_44, l_45, l_46, l_47, l_48, l_49, l_50, l_51, l_52, l_57, l_58, l_60, l_61, l_64, l_72, l_80, l_92, l_98, l_99, l_100, l_102, l_105, l_111, l_112, l_114, l_115, l_116, l_117, l_120, l_144, l_200, l_201, l_240, l_300, l_320, l_400, l_500, l_512, l_550, l_560, l_649, l_650, l_1000, l_1032, l_1400, l_2000, l_4000, l_10000, l_268435455, iN_add, iN_sub, iN_mul, iN_le_t, iN_le_f, iN_lt_t, iN_lt_f, iN_eq_f, inb_iN, ix_iN, isZ_0, isZ_1, ↓reduceIte, eq_self, iN_div, if_pos c]
    · simp (disch := omega) only [chk_t, beq_self_eq_true, nm_s, bj1_s, bj2_s, bj3_s, mo_1, mo_0, l_0, l_1, l_2, l_3, l_4, l_5, l_6, l_7, l_8, l_9, l_10, l_11, l_12, l_13, l_14, l_15, l_16, l_17, l_18, l_19, l_20, l_21, l_24, l_30, l_31, l_32, l_36, l_40, l_41, l_42, l_43, l_44, l_45, l_46, l_47, l_48, l_49, l_50, l_51, l_52, l_57, l_58, l_60, l_61, l_64, l_72, l_80, l_92, l_98, l_99, l_100, l_102, l_105, l_111, l_112, l_114, l_115, l_116, l_117, l_120, l_144, l_200, l_201, l_240, l_300, l_320, l_400, l_500, l_512, l_550, l_560, l_649, l_650, l_1000, l_1032, l_1400, l_2000, l_4000, l_10000, l_268435455, iN_add, iN_sub, iN_mul, iN_le_t, iN_le_f, iN_lt_t, iN_lt_f, iN_eq_f, inb_iN, ix_iN, isZ_0, isZ_1, ↓reduceIte, eq_self, if_neg c]
  generalize kdN x = k at *
  generalize hqN x = q at *
  generalize lnN x = l at *
  simp (disch := omega) only [chk_t, nm_s, bj1_s, l_0, l_1, l_2, l_3, l_4, l_5, l_6, l_7, l_8, l_9, l_10, l_11, l_12, l_13, l_14, l_15, l_16, l_17, l_18, l_19, l_20, l_21, l_24, l_30, l_31, l_32, l_36, l_40, l_41, l_42, l_43, l_44, l_45, l_46, l_47, l_48, l_49, l_50, l_51, l_52, l_57, l_58, l_60, l_61, l_64, l_72, l_80, l_92, l_98, l_99, l_100, l_102, l_105, l_111, l_112, l_114, l_115, l_116, l_117, l_120, l_144, l_200, l_201, l_240, l_300, l_320, l_400, l_500, l_512, l_550, l_560, l_649, l_650, l_1000, l_1032, l_1400, l_2000, l_4000, l_10000, l_268435455, iN_add, iN_mul, inb_iN, ix_iN, h0, iN_le_f, ↓reduceIte, hc]
  rw [ek, bj1_s, eq, bj1_s, el, bj1_s]
def plS (sl : Nat) (xs : Nat → Int32) (a i : Nat) : Nat × Nat × Nat := stN (cz sl xs (a + 1 + i))
theorem plans_c {a3 sl a : Nat} {xs : Nat → Int32} {G : G_} (hs : sl ≤ 260) (ha : a ≤ 30) : ∃ m A, f_L_plans sl xs (iN a) (iN 6) a3 G = some A ∧ 1 ≤ m ∧ m ≤ 6 ∧ stR a3 m (plS sl xs a) A ∧ (∀ q, q ≠ a3 → A.1 q = G.1 q) ∧ A.2 = G.2 := by
  have hz := @cz_lt sl xs a (by omega)
  have hc := @cell_c sl a xs G (by omega) hs
  refine ⟨1 + (cz sl xs a - cz sl xs a / 6 * 6), ?_⟩
  obtain ⟨m, em⟩ : ∃ m, m = 1 + (cz sl xs a - cz sl xs a / 6 * 6) := ⟨_, rfl⟩
  have hm : 1 ≤ m ∧ m ≤ 6 := by omega
  obtain ⟨A, hA, i1, i2, i3⟩ := loop_h (fun n v s => f_L_plans_l15_8 (iN a) a3 sl xs n v s) (fun j H => (H.1 a3 0 = iN m ∧ ∀ i, i < j → H.1 a3 (1 + 3 * i) = iN (plS sl xs a i).1 ∧ H.1 a3 (2 + 3 * i) = iN (plS sl xs a i).2.1 ∧ H.1 a3 (3 + 3 * i) = iN (plS sl xs a i).2.2) ∧ (∀ q, q ≠ a3 → H.1 q = G.1 q) ∧ H.2 = G.2) (fun H => stR a3 m (plS sl xs a) H ∧ (∀ q, q ≠ a3 → H.1 q = G.1 q) ∧ H.2 = G.2) 0 m (by
    intro f j H h3 h4 ⟨⟨g0, g1⟩, g2, g3⟩
    refine ⟨_, ?_, lplans_s rfl hs ha h4 hm.2 g0⟩
    refine ⟨⟨?_, fun i hi => ?_⟩, fun q hq => ?_, g3⟩
    · rw [sI_v, if_neg (by omega), sI_v, if_neg (by omega), sI_v, if_neg (by omega)]
      exact g0
    · by_cases c : i = j
      · subst c
        refine ⟨?_, ?_, ?_⟩
        · rw [sI_v, if_neg (by omega), sI_v, if_neg (by omega), sI_v, if_pos rfl]
          rfl
        · rw [sI_v, if_neg (by omega), sI_v, if_pos rfl]
          rfl
        · rw [sI_v, if_pos rfl]
          rfl
      · obtain ⟨k1, k2, k3⟩ := g1 i (by omega)
        refine ⟨?_, ?_, ?_⟩
        · rw [sI_v, if_neg (by omega), sI_v, if_neg (by omega), sI_v, if_neg (by omega)]
          exact k1
        · rw [sI_v, if_neg (by omega), sI_v, if_neg (by omega), sI_v, if_neg (by omega)]
          exact k2
        · rw [sI_v, if_neg (by omega), sI_v, if_neg (by omega), sI_v, if_neg (by omega)]
          exact k3
    · rw [sI_p hq, sI_p hq, sI_p hq]
      exact g2 q hq) (by
    intro f H ⟨⟨g0, g1⟩, g2, g3⟩
    refine ⟨H, ?_, ⟨g0, g1⟩, g2, g3⟩
    show f_L_plans_l15_8 (iN a) a3 sl xs (f + 1) (iN m) H = some H
    unfold f_L_plans_l15_8
    simp (disch := omega) only [chk_t, beq_self_eq_true, nm_s, bj1_s, bj2_s, bj3_s, mo_1, mo_0, l_0, l_1, l_2, l_3, l_4, l_5, l_6, l_7, l_8, l_9, l_10, l_11, l_12, l_13, l_14, l_15, l_16, l_17, l_18, l_19, l_20, l_21, l_24, l_30, l_31, l_32, l_36, l_40, l_41, l_42, l_43, l_44, l_45, l_46, l_47, l_48, l_49, l_50, l_51, l_52, l_57, l_58, l_60, l_61, l_64, l_72, l_80, l_92, l_98, l_99, l_100, l_102, l_105, l_111, l_112, l_114, l_115, l_116, l_117, l_120, l_144, l_200, l_201, l_240, l_300, l_320, l_400, l_500, l_512, l_550, l_560, l_649, l_650, l_1000, l_1032, l_1400, l_2000, l_4000, l_10000, l_268435455, iN_add, iN_sub, iN_mul, iN_le_t, iN_le_f, iN_lt_t, iN_lt_f, iN_eq_f, inb_iN, ix_iN, isZ_0, isZ_1, ↓reduceIte, eq_self, g0]) (by omega) (n := FU) (fu_lt (by omega)) (s := sI G a3 0 (iN m)) ⟨⟨sI_eq, fun i hi => by omega⟩, fun q hq => sI_p hq, rfl⟩
  refine ⟨A, ?_, by omega, by omega, by rw [← em]; exact i1, i2, i3⟩
  have hA : f_L_plans_l15_8 (iN a) a3 sl xs FU (iN 0) (sI G a3 0 (iN m)) = some A := hA
  unfold f_L_plans
  simp (disch := omega) only [chk_t, beq_self_eq_true, nm_s, bj1_s, bj2_s, bj3_s, mo_1, mo_0, l_0, l_1, l_2, l_3, l_4, l_5, l_6, l_7, l_8, l_9, l_10, l_11, l_12, l_13, l_14, l_15, l_16, l_17, l_18, l_19, l_20, l_21, l_24, l_30, l_31, l_32, l_36, l_40, l_41, l_42, l_43, l_44, l_45, l_46, l_47, l_48, l_49, l_50, l_51, l_52, l_57, l_58, l_60, l_61, l_64, l_72, l_80, l_92, l_98, l_99, l_100, l_102, l_105, l_111, l_112, l_114, l_115, l_116, l_117, l_120, l_144, l_200, l_201, l_240, l_300, l_320, l_400, l_500, l_512, l_550, l_560, l_649, l_650, l_1000, l_1032, l_1400, l_2000, l_4000, l_10000, l_268435455, iN_add, iN_sub, iN_mul, iN_le_t, iN_le_f, iN_lt_t, iN_lt_f, iN_eq_f, inb_iN, ix_iN, isZ_0, isZ_1, ↓reduceIte, eq_self, hc, iN_div, ne_ok]
  rw [← em]
  simp (disch := omega) only [chk_t, beq_self_eq_true, nm_s, bj1_s, bj2_s, bj3_s, mo_1, mo_0, l_0, l_1, l_2, l_3, l_4, l_5, l_6, l_7, l_8, l_9, l_10, l_11, l_12, l_13, l_14, l_15, l_16, l_17, l_18, l_19, l_20, l_21, l_24, l_30, l_31, l_32, l_36, l_40, l_41, l_42, l_43, l_44, l_45, l_46, l_47, l_48, l_49, l_50, l_51, l_52, l_57, l_58, l_60, l_61, l_64, l_72, l_80, l_92, l_98, l_99, l_100, l_102, l_105, l_111, l_112, l_114, l_115, l_116, l_117, l_120, l_144, l_200, l_201, l_240, l_300, l_320, l_400, l_500, l_512, l_550, l_560, l_649, l_650, l_1000, l_1032, l_1400, l_2000, l_4000, l_10000, l_268435455, iN_add, iN_sub, iN_mul, iN_le_t, iN_le_f, iN_lt_t, iN_lt_f, iN_eq_f, inb_iN, ix_iN, isZ_0, isZ_1, ↓reduceIte, eq_self, hA]
theorem ticks_c {a2 m : Nat} {s : Nat → Nat × Nat × Nat} {G : G_} (h : stR a2 m s G) (hm : m ≤ 12) : f_L_ticks a2 G = some (iN (tsN s m)) := by
  have hA : f_L_ticks_l4_3 a2 G FU (iN 0) (iN 0) = some (iN (tsN s m)) := loop_cl (fun n v (x : Int32) => f_L_ticks_l4_3 a2 G n x v) (fun k => iN (tsN s k)) 0 m (some (iN (tsN s m))) (by
    intro f k h3 h4
    show f_L_ticks_l4_3 a2 G (f + 1) (iN (tsN s k)) (iN k) = f_L_ticks_l4_3 a2 G f (iN (tsN s k + (s k).2.2)) (iN (k + 1))
    conv => lhs; unfold f_L_ticks_l4_3
    simp (disch := omega) only [chk_t, beq_self_eq_true, nm_s, bj1_s, bj2_s, bj3_s, mo_1, mo_0, l_0, l_1, l_2, l_3, l_4, l_5, l_6, l_7, l_8, l_9, l_10, l_11, l_12, l_13, l_14, l_15, l_16, l_17, l_18, l_19, l_20, l_21, l_24, l_30, l_31, l_32, l_36, l_40, l_41, l_42, l_43, l_44, l_45, l_46, l_47, l_48, l_49, l_50, l_51, l_52, l_57, l_58, l_60, l_61, l_64, l_72, l_80, l_92, l_98, l_99, l_100, l_102, l_105, l_111, l_112, l_114, l_115, l_116, l_117, l_120, l_144, l_200, l_201, l_240, l_300, l_320, l_400, l_500, l_512, l_550, l_560, l_649, l_650, l_1000, l_1032, l_1400, l_2000, l_4000, l_10000, l_268435455, iN_add, iN_sub, iN_mul, iN_le_t, iN_le_f, iN_lt_t, iN_lt_f, iN_eq_f, inb_iN, ix_iN, isZ_0, isZ_1, ↓reduceIte, eq_self, h.1, (h.2 k h4).2.2]) (by
    intro f
    show f_L_ticks_l4_3 a2 G (f + 1) (iN (tsN s m)) (iN m) = _
    unfold f_L_ticks_l4_3
    simp (disch := omega) only [chk_t, beq_self_eq_true, nm_s, bj1_s, bj2_s, bj3_s, mo_1, mo_0, l_0, l_1, l_2, l_3, l_4, l_5, l_6, l_7, l_8, l_9, l_10, l_11, l_12, l_13, l_14, l_15, l_16, l_17, l_18, l_19, l_20, l_21, l_24, l_30, l_31, l_32, l_36, l_40, l_41, l_42, l_43, l_44, l_45, l_46, l_47, l_48, l_49, l_50, l_51, l_52, l_57, l_58, l_60, l_61, l_64, l_72, l_80, l_92, l_98, l_99, l_100, l_102, l_105, l_111, l_112, l_114, l_115, l_116, l_117, l_120, l_144, l_200, l_201, l_240, l_300, l_320, l_400, l_500, l_512, l_550, l_560, l_649, l_650, l_1000, l_1032, l_1400, l_2000, l_4000, l_10000, l_268435455, iN_add, iN_sub, iN_mul, iN_le_t, iN_le_f, iN_lt_t, iN_lt_f, iN_eq_f, inb_iN, ix_iN, isZ_0, isZ_1, ↓reduceIte, eq_self, h.1]) (by omega) (n := FU) (fu_lt (by omega))
  unfold f_L_ticks
  simp (disch := omega) only [chk_t, beq_self_eq_true, nm_s, bj1_s, bj2_s, bj3_s, mo_1, mo_0, l_0, l_1, l_2, l_3, l_4, l_5, l_6, l_7, l_8, l_9, l_10, l_11, l_12, l_13, l_14, l_15, l_16, l_17, l_18, l_19, l_20, l_21, l_24, l_30, l_31, l_32, l_36, l_40, l_41, l_42, l_43, l_44, l_45, l_46, l_47, l_48, l_49, l_50, l_51, l_52, l_57, l_58, l_60, l_61, l_64, l_72, l_80, l_92, l_98, l_99, l_100, l_102, l_105, l_111, l_112, l_114, l_115, l_116, l_117, l_120, l_144, l_200, l_201, l_240, l_300, l_320, l_400, l_500, l_512, l_550, l_560, l_649, l_650, l_1000, l_1032, l_1400, l_2000, l_4000, l_10000, l_268435455, iN_add, iN_sub, iN_mul, iN_le_t, iN_le_f, iN_lt_t, iN_lt_f, iN_eq_f, inb_iN, ix_iN, isZ_0, isZ_1, ↓reduceIte, eq_self, hA]
theorem copy_c {a0 a1 : Nat} {G : G_} (h : a0 ≠ a1) : ∃ A, f_L_copy a0 a1 (iN 8) G = some A ∧ (∀ i, i < 8 → A.1 a1 i = G.1 a0 i) ∧ (∀ q, q ≠ a1 → A.1 q = G.1 q) ∧ A.2 = G.2 := by
  obtain ⟨A, hA, hQ⟩ := loop_h (fun n v s => f_L_copy_l2_3 a0 a1 (iN 8) n v s) (fun j H => (∀ i, i < j → H.1 a1 i = G.1 a0 i) ∧ (∀ q, q ≠ a1 → H.1 q = G.1 q) ∧ H.2 = G.2) (fun H => (∀ i, i < 8 → H.1 a1 i = G.1 a0 i) ∧ (∀ q, q ≠ a1 → H.1 q = G.1 q) ∧ H.2 = G.2) 0 8 (by
    intro f j H h3 h4 ⟨g1, g2, g3⟩
    refine ⟨sI H a1 j (H.1 a0 j), ⟨fun i hi => ?_, fun q hq => ?_, g3⟩, ?_⟩
    · rw [sI_v]
      by_cases c : i = j
      · subst c
        rw [if_pos rfl, g2 a0 h]
      · rw [if_neg c]
        exact g1 i (by omega)
    · rw [sI_p hq]
      exact g2 q hq
    · show f_L_copy_l2_3 a0 a1 (iN 8) (f + 1) (iN j) H = _
      conv => lhs; unfold f_L_copy_l2_3
      simp (disch := omega) only [chk_t, beq_self_eq_true, nm_s, bj1_s, bj2_s, bj3_s, mo_1, mo_0, l_0, l_1, l_2, l_3, l_4, l_5, l_6, l_7, l_8, l_9, l_10, l_11, l_12, l_13, l_14, l_15, l_16, l_17, l_18, l_19, l_20, l_21, l_24, l_30, l_31, l_32, l_36, l_40, l_41, l_42, l_43, l_44, l_45, l_46, l_47, l_48, l_49, l_50, l_51, l_52, l_57, l_58, l_60, l_61, l_64, l_72, l_80, l_92, l_98, l_99, l_100, l_102, l_105, l_111, l_112, l_114, l_115, l_116, l_117, l_120, l_144, l_200, l_201, l_240, l_300, l_320, l_400, l_500, l_512, l_550, l_560, l_649, l_650, l_1000, l_1032, l_1400, l_2000, l_4000, l_10000, l_268435455, iN_add, iN_sub, iN_mul, iN_le_t, iN_le_f, iN_lt_t, iN_lt_f, iN_eq_f, inb_iN, ix_iN, isZ_0, isZ_1, ↓reduceIte, eq_self]) (by
    intro f H hH
    refine ⟨H, ?_, hH⟩
    show f_L_copy_l2_3 a0 a1 (iN 8) (f + 1) (iN 8) H = _
    unfold f_L_copy_l2_3
    simp (disch := omega) only [chk_t, beq_self_eq_true, nm_s, bj1_s, bj2_s, bj3_s, mo_1, mo_0, l_0, l_1, l_2, l_3, l_4, l_5, l_6, l_7, l_8, l_9, l_10, l_11, l_12, l_13, l_14, l_15, l_16, l_17, l_18, l_19, l_20, l_21, l_24, l_30, l_31, l_32, l_36, l_40, l_41, l_42, l_43, l_44, l_45, l_46, l_47, l_48, l_49, l_50, l_51, l_52, l_57, l_58, l_60, l_61, l_64, l_72, l_80, l_92, l_98, l_99, l_100, l_102, l_105, l_111, l_112, l_114, l_115, l_116, l_117, l_120, l_144, l_200, l_201, l_240, l_300, l_320, l_400, l_500, l_512, l_550, l_560, l_649, l_650, l_1000, l_1032, l_1400, l_2000, l_4000, l_10000, l_268435455, iN_add, iN_sub, iN_mul, iN_le_t, iN_le_f, iN_lt_t, iN_lt_f, iN_eq_f, inb_iN, ix_iN, isZ_0, isZ_1, ↓reduceIte, eq_self]) (by omega) (n := FU) (fu_lt (by omega)) (s := G) ⟨fun i hi => by omega, fun _ _ => rfl, rfl⟩
  refine ⟨A, ?_, hQ⟩
  have hA : f_L_copy_l2_3 a0 a1 (iN 8) FU (iN 0) G = some A := hA
  unfold f_L_copy
  simp (disch := omega) only [chk_t, beq_self_eq_true, nm_s, bj1_s, bj2_s, bj3_s, mo_1, mo_0, l_0, l_1, l_2, l_3, l_4, l_5, l_6, l_7, l_8, l_9, l_10, l_11, l_12, l_13, l_14, l_15, l_16, l_17, l_18, l_19, l_20, l_21, l_24, l_30, l_31, l_32, l_36, l_40, l_41, l_42, l_43, l_44, l_45, l_46, l_47, l_48, l_49, l_50, l_51, l_52, l_57, l_58, l_60, l_61, l_64, l_72, l_80, l_92, l_98, l_99, l_100, l_102, l_105, l_111, l_112, l_114, l_115, l_116, l_117, l_120, l_144, l_200, l_201, l_240, l_300, l_320, l_400, l_500, l_512, l_550, l_560, l_649, l_650, l_1000, l_1032, l_1400, l_2000, l_4000, l_10000, l_268435455, iN_add, iN_sub, iN_mul, iN_le_t, iN_le_f, iN_lt_t, iN_lt_f, iN_eq_f, inb_iN, ix_iN, isZ_0, isZ_1, ↓reduceIte, eq_self, hA]
/-- the plan that turns first -/
def trN (s : Nat → Nat × Nat × Nat) (i : Nat) : Nat × Nat × Nat := if i = 0 then (5, 0, 0) else s (i - 1)
theorem l68_c {m : Nat} {s : Nat → Nat × Nat × Nat} {G : G_} (h : stR 249 m s G) (hm : m ≤ 6) (h0 : G.1 250 0 = iN (m + 1)) (h1 : G.1 250 1 = iN 5) (hz : ∀ i, 1 < i → i < 4 → G.1 250 i = iN 0) : ∃ A, f_L_law_l68_12 FU (iN 0) G = some A ∧ stR 250 (m + 1) (trN s) A ∧ (∀ q, q ≠ 250 → A.1 q = G.1 q) ∧ A.2 = G.2 := by
  obtain ⟨A, hA, i1, i2, i3⟩ := loop_h (fun n v s => f_L_law_l68_12 n v s) (fun j H => ((∀ i, i < 4 → H.1 250 i = G.1 250 i) ∧ ∀ i, i < j → H.1 250 (4 + i) = G.1 249 (1 + i)) ∧ (∀ q, q ≠ 250 → H.1 q = G.1 q) ∧ H.2 = G.2) (fun H => stR 250 (m + 1) (trN s) H ∧ (∀ q, q ≠ 250 → H.1 q = G.1 q) ∧ H.2 = G.2) 0 (3 * m) (by
    intro f j H h3 h4 ⟨⟨g0, g1⟩, g2, g3⟩
    refine ⟨sI H 250 (4 + j) (H.1 249 (1 + j)), ⟨⟨fun i hi => ?_, fun i hi => ?_⟩, fun q hq => ?_, g3⟩, ?_⟩
    · rw [sI_v, if_neg (by omega)]
      exact g0 i hi
    · rw [sI_v]
      by_cases c : i = j
      · subst c
        rw [if_pos rfl, g2 249 (by omega)]
      · rw [if_neg (by omega)]
        exact g1 i (by omega)
    · rw [sI_p hq]
      exact g2 q hq
    · have e : H.1 249 0 = iN m := by rw [g2 249 (by omega)]; exact h.1
      show f_L_law_l68_12 (f + 1) (iN j) H = _
      conv => lhs; unfold f_L_law_l68_12
      simp (disch := omega) only [chk_t, beq_self_eq_true, nm_s, bj1_s, bj2_s, bj3_s, mo_1, mo_0, l_0, l_1, l_2, l_3, l_4, l_5, l_6, l_7, l_8, l_9, l_10, l_11, l_12, l_13, l_14, l_15, l_16, l_17, l_18, l_19, l_20, l_21, l_24, l_30, l_31, l_32, l_36, l_40, l_41, l_42, l_43, l_44, l_45, l_46, l_47, l_48, l_49, l_50, l_51, l_52, l_57, l_58, l_60, l_61, l_64, l_72, l_80, l_92, l_98, l_99, l_100, l_102, l_105, l_111, l_112, l_114, l_115, l_116, l_117, l_120, l_144, l_200, l_201, l_240, l_300, l_320, l_400, l_500, l_512, l_550, l_560, l_649, l_650, l_1000, l_1032, l_1400, l_2000, l_4000, l_10000, l_268435455, iN_add, iN_sub, iN_mul, iN_le_t, iN_le_f, iN_lt_t, iN_lt_f, iN_eq_f, inb_iN, ix_iN, isZ_0, isZ_1, ↓reduceIte, eq_self, e]) (by
    intro f H ⟨⟨g0, g1⟩, g2, g3⟩
    have e : H.1 249 0 = iN m := by rw [g2 249 (by omega)]; exact h.1
    refine ⟨H, ?_, ⟨by rw [g0 0 (by omega)]; exact h0, fun i hi => ?_⟩, g2, g3⟩
    · show f_L_law_l68_12 (f + 1) (iN (3 * m)) H = _
      unfold f_L_law_l68_12
      simp (disch := omega) only [chk_t, beq_self_eq_true, nm_s, bj1_s, bj2_s, bj3_s, mo_1, mo_0, l_0, l_1, l_2, l_3, l_4, l_5, l_6, l_7, l_8, l_9, l_10, l_11, l_12, l_13, l_14, l_15, l_16, l_17, l_18, l_19, l_20, l_21, l_24, l_30, l_31, l_32, l_36, l_40, l_41, l_42, l_43, l_44, l_45, l_46, l_47, l_48, l_49, l_50, l_51, l_52, l_57, l_58, l_60, l_61, l_64, l_72, l_80, l_92, l_98, l_99, l_100, l_102, l_105, l_111, l_112, l_114, l_115, l_116, l_117, l_120, l_144, l_200, l_201, l_240, l_300, l_320, l_400, l_500, l_512, l_550, l_560, l_649, l_650, l_1000, l_1032, l_1400, l_2000, l_4000, l_10000, l_268435455, iN_add, iN_sub, iN_mul, iN_le_t, iN_le_f, iN_lt_t, iN_lt_f, iN_eq_f, inb_iN, ix_iN, isZ_0, isZ_1, ↓reduceIte, eq_self, e]
    · by_cases c : i = 0
      · subst c
        refine ⟨?_, ?_, ?_⟩
        · rw [g0 _ (by omega)]; exact h1
        · rw [g0 _ (by omega)]; exact hz 2 (by omega) (by omega)
        · rw [g0 _ (by omega)]; exact hz 3 (by omega) (by omega)
      · obtain ⟨k, rfl⟩ : ∃ k, i = k + 1 := ⟨i - 1, by omega⟩
        have et : trN s (k + 1) = s k := if_neg (by omega)
        rw [et]
        obtain ⟨k1, k2, k3⟩ := h.2 k (by omega)
        have a1 := g1 (3 * k) (by omega)
        have a2 := g1 (3 * k + 1) (by omega)
        have a3 := g1 (3 * k + 2) (by omega)
        refine ⟨?_, ?_, ?_⟩
        · rw [show 1 + 3 * (k + 1) = 4 + 3 * k by omega, a1]; exact k1
        · rw [show 2 + 3 * (k + 1) = 4 + (3 * k + 1) by omega, a2, show 1 + (3 * k + 1) = 2 + 3 * k by omega]; exact k2
        · rw [show 3 + 3 * (k + 1) = 4 + (3 * k + 2) by omega, a3, show 1 + (3 * k + 2) = 3 + 3 * k by omega]; exact k3) (by omega) (n := FU) (fu_lt (by omega)) (s := G) ⟨⟨fun _ _ => rfl, fun i hi => by omega⟩, fun _ _ => rfl, rfl⟩
  exact ⟨A, hA, i1, i2, i3⟩
theorem trN_ts (s : Nat → Nat × Nat × Nat) (m : Nat) : tsN (trN s) (m + 1) = tsN s m := by
  induction m with
  | zero => rfl
  | succ m ih =>
    show tsN (trN s) (m + 1) + (trN s (m + 1)).2.2 = tsN s m + (s m).2.2
    rw [ih]
    rfl
theorem ts_le {s : Nat → Nat × Nat × Nat} (h : ∀ i, (s i).2.2 ≤ 18) (m : Nat) : tsN s m ≤ 18 * m := by
  induction m with
  | zero => exact Nat.le_refl 0
  | succ m ih =>
    have := h m
    show tsN s m + (s m).2.2 ≤ _
    omega
/-- the hottest -/
theorem l182_c {x : Int32} {m h0 : Nat} {s : Nat → Nat × Nat × Nat} {G : G_} (h : stR 249 m s G) (hm : m ≤ 6) (hs : ∀ i, i < m → (s i).2.1 ≤ 30) (hh : h0 ≤ 3000) : ∃ z, f_L_law_l182_47 x G FU (iN h0) (iN 0) = some (iN z) ∧ h0 ≤ z ∧ z ≤ 3000 ∧ ∀ i, i < m → 100 * (s i).2.1 ≤ z := by
  obtain ⟨r, hA, z, ez, g1, g2, g3⟩ := loop_h (fun n v (y : Int32) => f_L_law_l182_47 x G n y v) (fun j y => ∃ z, y = iN z ∧ h0 ≤ z ∧ z ≤ 3000 ∧ ∀ i, i < j → 100 * (s i).2.1 ≤ z) (fun y => ∃ z, y = iN z ∧ h0 ≤ z ∧ z ≤ 3000 ∧ ∀ i, i < m → 100 * (s i).2.1 ≤ z) 0 m (by
    intro f j y h3 h4 ⟨z, ez, g1, g2, g3⟩
    subst ez
    have b := hs j h4
    have k2 := (h.2 j h4).2.1
    by_cases c : 100 * (s j).2.1 ≤ z
    · refine ⟨iN z, ⟨z, rfl, g1, g2, fun i hi => ?_⟩, ?_⟩
      · by_cases e : i = j
        · subst e; exact c
        · exact g3 i (by omega)
      · show f_L_law_l182_47 x G (f + 1) (iN z) (iN j) = _
        conv => lhs; unfold f_L_law_l182_47
        simp (disch := omega) only [chk_t, beq_self_eq_true, nm_s, bj1_s, bj2_s, bj3_s, mo_1, mo_0, l_0, l_1, l_2, l_3, l_4, l_5, l_6, l_7, l_8, l_9, l_10, l_11, l_12, l_13, l_14, l_15, l_16, l_17, l_18, l_19, l_20, l_21, l_24, l_30, l_31, l_32, l_36, l_40, l_41, l_42, l_43, l_44, l_45, l_46, l_47, l_48, l_49, l_50, l_51, l_52, l_57, l_58, l_60, l_61, l_64, l_72, l_80, l_92, l_98, l_99, l_100, l_102, l_105, l_111, l_112, l_114, l_115, l_116, l_117, l_120, l_144, l_200, l_201, l_240, l_300, l_320, l_400, l_500, l_512, l_550, l_560, l_649, l_650, l_1000, l_1032, l_1400, l_2000, l_4000, l_10000, l_268435455, iN_add, iN_sub, iN_mul, iN_le_t, iN_le_f, iN_lt_t, iN_lt_f, iN_eq_f, inb_iN, ix_iN, isZ_0, isZ_1, ↓reduceIte, eq_self, h.1, k2]
    · refine ⟨iN (100 * (s j).2.1), ⟨_, rfl, by omega, by omega, fun i hi => ?_⟩, ?_⟩
      · by_cases e : i = j
        · subst e; exact Nat.le_refl _
        · have := g3 i (by omega)
          omega
      · show f_L_law_l182_47 x G (f + 1) (iN z) (iN j) = _
        conv => lhs; unfold f_L_law_l182_47
        simp (disch := omega) only [chk_t, beq_self_eq_true, nm_s, bj1_s, bj2_s, bj3_s, mo_1, mo_0, l_0, l_1, l_2, l_3, l_4, l_5, l_6, l_7, l_8, l_9, l_10, l_11, l_12, l_13, l_14, l_15, l_16, l_17, l_18, l_19, l_20, l_21, l_24, l_30, l_31, l_32, l_36, l_40, l_41, l_42, l_43, l_44, l_45, l_46, l_47, l_48, l_49, l_50, l_51, l_52, l_57, l_58, l_60, l_61, l_64, l_72, l_80, l_92, l_98, l_99, l_100, l_102, l_105, l_111, l_112, l_114, l_115, l_116, l_117, l_120, l_144, l_200, l_201, l_240, l_300, l_320, l_400, l_500, l_512, l_550, l_560, l_649, l_650, l_1000, l_1032, l_1400, l_2000, l_4000, l_10000, l_268435455, iN_add, iN_sub, iN_mul, iN_le_t, iN_le_f, iN_lt_t, iN_lt_f, iN_eq_f, inb_iN, ix_iN, isZ_0, isZ_1, ↓reduceIte, eq_self, h.1, k2]) (by
    intro f y ⟨z, ez, g⟩
    subst ez
    refine ⟨iN z, ?_, z, rfl, g⟩
    show f_L_law_l182_47 x G (f + 1) (iN z) (iN m) = _
    unfold f_L_law_l182_47
    simp (disch := omega) only [chk_t, beq_self_eq_true, nm_s, bj1_s, bj2_s, bj3_s, mo_1, mo_0, l_0, l_1, l_2, l_3, l_4, l_5, l_6, l_7, l_8, l_9, l_10, l_11, l_12, l_13, l_14, l_15, l_16, l_17, l_18, l_19, l_20, l_21, l_24, l_30, l_31, l_32, l_36, l_40, l_41, l_42, l_43, l_44, l_45, l_46, l_47, l_48, l_49, l_50, l_51, l_52, l_57, l_58, l_60, l_61, l_64, l_72, l_80, l_92, l_98, l_99, l_100, l_102, l_105, l_111, l_112, l_114, l_115, l_116, l_117, l_120, l_144, l_200, l_201, l_240, l_300, l_320, l_400, l_500, l_512, l_550, l_560, l_649, l_650, l_1000, l_1032, l_1400, l_2000, l_4000, l_10000, l_268435455, iN_add, iN_sub, iN_mul, iN_le_t, iN_le_f, iN_lt_t, iN_lt_f, iN_eq_f, inb_iN, ix_iN, isZ_0, isZ_1, ↓reduceIte, eq_self, h.1]) (by omega) (n := FU) (fu_lt (by omega)) (s := iN h0) ⟨h0, rfl, Nat.le_refl _, hh, fun i hi => by omega⟩
  subst ez
  exact ⟨z, hA, g1, g2, g3⟩

/-! what is told of a dish, as numbers of its row; the class tells it so -/
def sumS (f : Nat → Int32) : Nat → Int32
  | 0 => iN 0
  | n + 1 => sumS f n + f n
theorem loop_sum (L : Nat → Int32 → Int32 → Option Int32) (f : Nat → Int32) (b : Nat)
    (step : ∀ n k s, k < b → L (n + 1) s (iN k) = L n (s + f k) (iN (k + 1)))
    (done : ∀ n s, L (n + 1) s (iN b) = some s) {n : Nat} (hb : b < n) : L n (iN 0) (iN 0) = some (sumS f b) := by
  have key := loop_cl (fun n v s => L n s v) (sumS f) 0 b (some (sumS f b)) (fun n k _ h => step n k _ h) (fun n => done n _) (Nat.zero_le b) (n := n) (by omega)
  exact key
def inS (a b x : Int32) : Int32 := if x < a then iN 0 else if b < x then iN 0 else iN 1
def justS (a b : Int32) (D : Nat → Int32) : Int32 := sumS (fun i => inS a b (D (72 + i))) (nD D)
def pinkS (D : Nat → Int32) : Int32 := justS (iN 500) (iN 649) D
def juicesS (D : Nat → Int32) : Int32 := sumS (fun i => D (92 + i)) (nD D)
def lossA (j w : Int32) : Int32 := if w - iN 400 ≤ iN 0 then iN 0 else if j < (j * ((w - iN 400) / iN 100)) / iN 20 then j else (j * ((w - iN 400) / iN 100)) / iN 20
def lossS (D : Nat → Int32) : Int32 := sumS (fun i => lossA (D (92 + i)) (D (52 + i))) (nD D)
def crustS (D : Nat → Int32) : Int32 := if D 50 < D 51 then D 50 else D 51
def midW (D : Nat → Int32) : Int32 := D (52 + nD D / 2)
def midM (D : Nat → Int32) : Int32 := D (72 + nD D / 2)
def colS (D : Nat → Int32) (i : Nat) : Int32 := if D (72 + i) < iN 650 then (if D (72 + i) < iN 500 then iN 0 else iN 1) else iN 2
def kindS (s : Nat) (D : Nat → Int32) : Int32 :=
  if D (50 + s) < iN 20 then (if D (48 + s) ≤ iN 0 then (if D 45 = iN 4 then iN 4 else if D 45 = iN 1 then (if D 44 = iN s then iN 0 else iN 2) else iN 0) else if D 2 ≤ iN 0 then iN 1 else iN 5) else if D (50 + s) ≤ iN 100 then iN 3 else iN 6
theorem in7 (x a b : Int32) : f_X7_within x a b = some (inS a b x) := by
  unfold f_X7_within inS
  split
  · rfl
  · split <;> rfl
theorem inS_01 (a b x : Int32) : inS a b x = iN 0 ∨ inS a b x = iN 1 := by
  unfold inS
  split
  · exact Or.inl rfl
  · split
    · exact Or.inl rfl
    · exact Or.inr rfl
theorem one_0 (a b x : Int32) : (if inS a b x = iN 0 then some (iN 0) else some (iN 1)) = some (inS a b x) := by
  rcases inS_01 a b x with h | h <;> rw [h]
  · rw [if_pos rfl]
  · rw [if_neg (by decide)]
theorem mn_com (a b : Int32) : mn a b = if a < b then a else b := by
  rw [t_eq, mn_t]
  by_cases c : a < b
  · rw [if_pos c]
    have := t_lt.mp c
    rw [if_neg (by omega)]
  · rw [if_neg c]
    have : ¬ a.toInt < b.toInt := fun e => c (t_lt.mpr e)
    split
    · rfl
    · omega
theorem has_ok {o n i : Nat} {D : Nat → Int32} {G : G_} (ho : kd o = 0) (hn : okN D n) (h : cD o D G) (hi : i < n) : f_X0_has o (iN i) G = some (iN 1) := by
  have h2 := hn.2
  unfold f_X0_has
  simp (disch := omega) only [chk_t, beq_self_eq_true, nm_s, bj1_s, bj2_s, bj3_s, mo_1, mo_0, l_0, l_1, l_2, l_3, l_4, l_5, l_6, l_7, l_8, l_9, l_10, l_11, l_12, l_13, l_14, l_15, l_16, l_17, l_18, l_19, l_20, l_21, l_24, l_30, l_31, l_32, l_36, l_40, l_41, l_42, l_43, l_44, l_45, l_46, l_47, l_48, l_49, l_50, l_51, l_52, l_57, l_58, l_60, l_61, l_64, l_72, l_80, l_92, l_98, l_99, l_100, l_102, l_105, l_111, l_112, l_114, l_115, l_116, l_117, l_120, l_144, l_200, l_201, l_240, l_300, l_320, l_400, l_500, l_512, l_550, l_560, l_649, l_650, l_1000, l_1032, l_1400, l_2000, l_4000, l_10000, l_268435455, iN_add, iN_sub, iN_mul, iN_le_t, iN_le_f, iN_lt_t, iN_lt_f, iN_eq_f, inb_iN, ix_iN, isZ_0, isZ_1, ↓reduceIte, eq_self, kd_b ho, c_8 h, hn.1]
theorem warmthAt_ok {o n i : Nat} {D : Nat → Int32} {G : G_} (ho : kd o = 0) (hn : okN D n) (h : cD o D G) (hi : i < n) : f_X0_warmthAt o (iN i) G = some (D (52 + i)) := by
  have h2 := hn.2
  have hnn := okN_n hn
  have e := c_w h (by rw [hnn]; exact hi)
  unfold f_X0_warmthAt
  simp (disch := omega) only [chk_t, beq_self_eq_true, nm_s, bj1_s, bj2_s, bj3_s, mo_1, mo_0, l_0, l_1, l_2, l_3, l_4, l_5, l_6, l_7, l_8, l_9, l_10, l_11, l_12, l_13, l_14, l_15, l_16, l_17, l_18, l_19, l_20, l_21, l_24, l_30, l_31, l_32, l_36, l_40, l_41, l_42, l_43, l_44, l_45, l_46, l_47, l_48, l_49, l_50, l_51, l_52, l_57, l_58, l_60, l_61, l_64, l_72, l_80, l_92, l_98, l_99, l_100, l_102, l_105, l_111, l_112, l_114, l_115, l_116, l_117, l_120, l_144, l_200, l_201, l_240, l_300, l_320, l_400, l_500, l_512, l_550, l_560, l_649, l_650, l_1000, l_1032, l_1400, l_2000, l_4000, l_10000, l_268435455, iN_add, iN_sub, iN_mul, iN_le_t, iN_le_f, iN_lt_t, iN_lt_f, iN_eq_f, inb_iN, ix_iN, isZ_0, isZ_1, ↓reduceIte, eq_self, kd_b ho, has_ok ho hn h hi, e]
theorem mostAt_ok {o n i : Nat} {D : Nat → Int32} {G : G_} (ho : kd o = 0) (hn : okN D n) (h : cD o D G) (hi : i < n) : f_X0_mostAt o (iN i) G = some (D (72 + i)) := by
  have h2 := hn.2
  have hnn := okN_n hn
  have e := c_m h (by rw [hnn]; exact hi)
  unfold f_X0_mostAt
  simp (disch := omega) only [chk_t, beq_self_eq_true, nm_s, bj1_s, bj2_s, bj3_s, mo_1, mo_0, l_0, l_1, l_2, l_3, l_4, l_5, l_6, l_7, l_8, l_9, l_10, l_11, l_12, l_13, l_14, l_15, l_16, l_17, l_18, l_19, l_20, l_21, l_24, l_30, l_31, l_32, l_36, l_40, l_41, l_42, l_43, l_44, l_45, l_46, l_47, l_48, l_49, l_50, l_51, l_52, l_57, l_58, l_60, l_61, l_64, l_72, l_80, l_92, l_98, l_99, l_100, l_102, l_105, l_111, l_112, l_114, l_115, l_116, l_117, l_120, l_144, l_200, l_201, l_240, l_300, l_320, l_400, l_500, l_512, l_550, l_560, l_649, l_650, l_1000, l_1032, l_1400, l_2000, l_4000, l_10000, l_268435455, iN_add, iN_sub, iN_mul, iN_le_t, iN_le_f, iN_lt_t, iN_lt_f, iN_eq_f, inb_iN, ix_iN, isZ_0, isZ_1, ↓reduceIte, eq_self, kd_b ho, has_ok ho hn h hi, e]
theorem juiceAt_ok {o n i : Nat} {D : Nat → Int32} {G : G_} (ho : kd o = 0) (hn : okN D n) (h : cD o D G) (hi : i < n) : f_X0_juiceAt o (iN i) G = some (D (92 + i)) := by
  have h2 := hn.2
  have hnn := okN_n hn
  have e := c_j h (by rw [hnn]; exact hi)
  unfold f_X0_juiceAt
  simp (disch := omega) only [chk_t, beq_self_eq_true, nm_s, bj1_s, bj2_s, bj3_s, mo_1, mo_0, l_0, l_1, l_2, l_3, l_4, l_5, l_6, l_7, l_8, l_9, l_10, l_11, l_12, l_13, l_14, l_15, l_16, l_17, l_18, l_19, l_20, l_21, l_24, l_30, l_31, l_32, l_36, l_40, l_41, l_42, l_43, l_44, l_45, l_46, l_47, l_48, l_49, l_50, l_51, l_52, l_57, l_58, l_60, l_61, l_64, l_72, l_80, l_92, l_98, l_99, l_100, l_102, l_105, l_111, l_112, l_114, l_115, l_116, l_117, l_120, l_144, l_200, l_201, l_240, l_300, l_320, l_400, l_500, l_512, l_550, l_560, l_649, l_650, l_1000, l_1032, l_1400, l_2000, l_4000, l_10000, l_268435455, iN_add, iN_sub, iN_mul, iN_le_t, iN_le_f, iN_lt_t, iN_lt_f, iN_eq_f, inb_iN, ix_iN, isZ_0, isZ_1, ↓reduceIte, eq_self, kd_b ho, has_ok ho hn h hi, e]
theorem middle_ok {o n : Nat} {D : Nat → Int32} {G : G_} (ho : kd o = 0) (hn : okN D n) (h : cD o D G) : f_X0_middle o G = some (iN (n / 2)) := by
  have h2 := hn.2
  unfold f_X0_middle
  simp (disch := omega) only [chk_t, beq_self_eq_true, nm_s, bj1_s, bj2_s, bj3_s, mo_1, mo_0, l_0, l_1, l_2, l_3, l_4, l_5, l_6, l_7, l_8, l_9, l_10, l_11, l_12, l_13, l_14, l_15, l_16, l_17, l_18, l_19, l_20, l_21, l_24, l_30, l_31, l_32, l_36, l_40, l_41, l_42, l_43, l_44, l_45, l_46, l_47, l_48, l_49, l_50, l_51, l_52, l_57, l_58, l_60, l_61, l_64, l_72, l_80, l_92, l_98, l_99, l_100, l_102, l_105, l_111, l_112, l_114, l_115, l_116, l_117, l_120, l_144, l_200, l_201, l_240, l_300, l_320, l_400, l_500, l_512, l_550, l_560, l_649, l_650, l_1000, l_1032, l_1400, l_2000, l_4000, l_10000, l_268435455, iN_add, iN_sub, iN_mul, iN_le_t, iN_le_f, iN_lt_t, iN_lt_f, iN_eq_f, inb_iN, ix_iN, isZ_0, isZ_1, ↓reduceIte, eq_self, kd_b ho, c_8 h, hn.1, iN_div]
theorem midW_ok {o n : Nat} {D : Nat → Int32} {G : G_} (ho : kd o = 0) (hn : okN D n) (h : cD o D G) : f_X0_middleWarmth o G = some (midW D) := by
  have h2 := hn.2
  unfold f_X0_middleWarmth midW
  rw [okN_n hn]
  simp (disch := omega) only [chk_t, beq_self_eq_true, nm_s, bj1_s, bj2_s, bj3_s, mo_1, mo_0, l_0, l_1, l_2, l_3, l_4, l_5, l_6, l_7, l_8, l_9, l_10, l_11, l_12, l_13, l_14, l_15, l_16, l_17, l_18, l_19, l_20, l_21, l_24, l_30, l_31, l_32, l_36, l_40, l_41, l_42, l_43, l_44, l_45, l_46, l_47, l_48, l_49, l_50, l_51, l_52, l_57, l_58, l_60, l_61, l_64, l_72, l_80, l_92, l_98, l_99, l_100, l_102, l_105, l_111, l_112, l_114, l_115, l_116, l_117, l_120, l_144, l_200, l_201, l_240, l_300, l_320, l_400, l_500, l_512, l_550, l_560, l_649, l_650, l_1000, l_1032, l_1400, l_2000, l_4000, l_10000, l_268435455, iN_add, iN_sub, iN_mul, iN_le_t, iN_le_f, iN_lt_t, iN_lt_f, iN_eq_f, inb_iN, ix_iN, isZ_0, isZ_1, ↓reduceIte, eq_self, kd_b ho, middle_ok ho hn h, warmthAt_ok ho hn h (i := n / 2) (by omega)]
theorem midM_ok {o n : Nat} {D : Nat → Int32} {G : G_} (ho : kd o = 0) (hn : okN D n) (h : cD o D G) : f_X0_middleMost o G = some (midM D) := by
  have h2 := hn.2
  unfold f_X0_middleMost midM
  rw [okN_n hn]
  simp (disch := omega) only [chk_t, beq_self_eq_true, nm_s, bj1_s, bj2_s, bj3_s, mo_1, mo_0, l_0, l_1, l_2, l_3, l_4, l_5, l_6, l_7, l_8, l_9, l_10, l_11, l_12, l_13, l_14, l_15, l_16, l_17, l_18, l_19, l_20, l_21, l_24, l_30, l_31, l_32, l_36, l_40, l_41, l_42, l_43, l_44, l_45, l_46, l_47, l_48, l_49, l_50, l_51, l_52, l_57, l_58, l_60, l_61, l_64, l_72, l_80, l_92, l_98, l_99, l_100, l_102, l_105, l_111, l_112, l_114, l_115, l_116, l_117, l_120, l_144, l_200, l_201, l_240, l_300, l_320, l_400, l_500, l_512, l_550, l_560, l_649, l_650, l_1000, l_1032, l_1400, l_2000, l_4000, l_10000, l_268435455, iN_add, iN_sub, iN_mul, iN_le_t, iN_le_f, iN_lt_t, iN_lt_f, iN_eq_f, inb_iN, ix_iN, isZ_0, isZ_1, ↓reduceIte, eq_self, kd_b ho, middle_ok ho hn h, mostAt_ok ho hn h (i := n / 2) (by omega)]
theorem cjust_ok {o n : Nat} {D : Nat → Int32} {G : G_} {a b : Int32} (ho : kd o = 0) (hn : okN D n) (h : cD o D G) : f_X0_justSo o a b G = some (justS a b D) := by
  have h2 := hn.2
  have key : f_X0_justSo_l5_3 o a b G FU (iN 0) (iN 0) = some (justS a b D) := by
    unfold justS
    rw [okN_n hn]
    refine loop_sum (fun n s v => f_X0_justSo_l5_3 o a b G n s v) _ n ?_ ?_ (fu_lt (by omega))
    · intro f k s hk
      show f_X0_justSo_l5_3 o a b G (f + 1) s (iN k) = f_X0_justSo_l5_3 o a b G f _ (iN (k + 1))
      conv => lhs; unfold f_X0_justSo_l5_3
      simp (disch := omega) only [chk_t, beq_self_eq_true, nm_s, bj1_s, bj2_s, bj3_s, mo_1, mo_0, l_0, l_1, l_2, l_3, l_4, l_5, l_6, l_7, l_8, l_9, l_10, l_11, l_12, l_13, l_14, l_15, l_16, l_17, l_18, l_19, l_20, l_21, l_24, l_30, l_31, l_32, l_36, l_40, l_41, l_42, l_43, l_44, l_45, l_46, l_47, l_48, l_49, l_50, l_51, l_52, l_57, l_58, l_60, l_61, l_64, l_72, l_80, l_92, l_98, l_99, l_100, l_102, l_105, l_111, l_112, l_114, l_115, l_116, l_117, l_120, l_144, l_200, l_201, l_240, l_300, l_320, l_400, l_500, l_512, l_550, l_560, l_649, l_650, l_1000, l_1032, l_1400, l_2000, l_4000, l_10000, l_268435455, iN_add, iN_sub, iN_mul, iN_le_t, iN_le_f, iN_lt_t, iN_lt_f, iN_eq_f, inb_iN, ix_iN, isZ_0, isZ_1, ↓reduceIte, eq_self, c_8 h, hn.1, mostAt_ok ho hn h hk, in7, one_0]
    · intro f s
      show f_X0_justSo_l5_3 o a b G (f + 1) s (iN n) = _
      unfold f_X0_justSo_l5_3
      simp (disch := omega) only [chk_t, beq_self_eq_true, nm_s, bj1_s, bj2_s, bj3_s, mo_1, mo_0, l_0, l_1, l_2, l_3, l_4, l_5, l_6, l_7, l_8, l_9, l_10, l_11, l_12, l_13, l_14, l_15, l_16, l_17, l_18, l_19, l_20, l_21, l_24, l_30, l_31, l_32, l_36, l_40, l_41, l_42, l_43, l_44, l_45, l_46, l_47, l_48, l_49, l_50, l_51, l_52, l_57, l_58, l_60, l_61, l_64, l_72, l_80, l_92, l_98, l_99, l_100, l_102, l_105, l_111, l_112, l_114, l_115, l_116, l_117, l_120, l_144, l_200, l_201, l_240, l_300, l_320, l_400, l_500, l_512, l_550, l_560, l_649, l_650, l_1000, l_1032, l_1400, l_2000, l_4000, l_10000, l_268435455, iN_add, iN_sub, iN_mul, iN_le_t, iN_le_f, iN_lt_t, iN_lt_f, iN_eq_f, inb_iN, ix_iN, isZ_0, isZ_1, ↓reduceIte, eq_self, c_8 h, hn.1]
  unfold f_X0_justSo
  simp (disch := omega) only [chk_t, beq_self_eq_true, nm_s, bj1_s, bj2_s, bj3_s, mo_1, mo_0, l_0, l_1, l_2, l_3, l_4, l_5, l_6, l_7, l_8, l_9, l_10, l_11, l_12, l_13, l_14, l_15, l_16, l_17, l_18, l_19, l_20, l_21, l_24, l_30, l_31, l_32, l_36, l_40, l_41, l_42, l_43, l_44, l_45, l_46, l_47, l_48, l_49, l_50, l_51, l_52, l_57, l_58, l_60, l_61, l_64, l_72, l_80, l_92, l_98, l_99, l_100, l_102, l_105, l_111, l_112, l_114, l_115, l_116, l_117, l_120, l_144, l_200, l_201, l_240, l_300, l_320, l_400, l_500, l_512, l_550, l_560, l_649, l_650, l_1000, l_1032, l_1400, l_2000, l_4000, l_10000, l_268435455, iN_add, iN_sub, iN_mul, iN_le_t, iN_le_f, iN_lt_t, iN_lt_f, iN_eq_f, inb_iN, ix_iN, isZ_0, isZ_1, ↓reduceIte, eq_self, kd_b ho, key]
theorem cpink_ok {o n : Nat} {D : Nat → Int32} {G : G_} (ho : kd o = 0) (hn : okN D n) (h : cD o D G) : f_X0_pink o G = some (pinkS D) := by
  unfold f_X0_pink pinkS
  simp (disch := omega) only [chk_t, beq_self_eq_true, nm_s, bj1_s, bj2_s, bj3_s, mo_1, mo_0, l_0, l_1, l_2, l_3, l_4, l_5, l_6, l_7, l_8, l_9, l_10, l_11, l_12, l_13, l_14, l_15, l_16, l_17, l_18, l_19, l_20, l_21, l_24, l_30, l_31, l_32, l_36, l_40, l_41, l_42, l_43, l_44, l_45, l_46, l_47, l_48, l_49, l_50, l_51, l_52, l_57, l_58, l_60, l_61, l_64, l_72, l_80, l_92, l_98, l_99, l_100, l_102, l_105, l_111, l_112, l_114, l_115, l_116, l_117, l_120, l_144, l_200, l_201, l_240, l_300, l_320, l_400, l_500, l_512, l_550, l_560, l_649, l_650, l_1000, l_1032, l_1400, l_2000, l_4000, l_10000, l_268435455, iN_add, iN_sub, iN_mul, iN_le_t, iN_le_f, iN_lt_t, iN_lt_f, iN_eq_f, inb_iN, ix_iN, isZ_0, isZ_1, ↓reduceIte, eq_self, kd_b ho, cjust_ok ho hn h]
theorem cjuice_ok {o n : Nat} {D : Nat → Int32} {G : G_} (ho : kd o = 0) (hn : okN D n) (h : cD o D G) : f_X0_allJuice o G = some (juicesS D) := by
  have h2 := hn.2
  have key : f_X0_allJuice_l4_3 o G FU (iN 0) (iN 0) = some (juicesS D) := by
    unfold juicesS
    rw [okN_n hn]
    refine loop_sum (fun n s v => f_X0_allJuice_l4_3 o G n s v) _ n ?_ ?_ (fu_lt (by omega))
    · intro f k s hk
      show f_X0_allJuice_l4_3 o G (f + 1) s (iN k) = f_X0_allJuice_l4_3 o G f _ (iN (k + 1))
      conv => lhs; unfold f_X0_allJuice_l4_3
      simp (disch := omega) only [chk_t, beq_self_eq_true, nm_s, bj1_s, bj2_s, bj3_s, mo_1, mo_0, l_0, l_1, l_2, l_3, l_4, l_5, l_6, l_7, l_8, l_9, l_10, l_11, l_12, l_13, l_14, l_15, l_16, l_17, l_18, l_19, l_20, l_21, l_24, l_30, l_31, l_32, l_36, l_40, l_41, l_42, l_43, l_44, l_45, l_46, l_47, l_48, l_49, l_50, l_51, l_52, l_57, l_58, l_60, l_61, l_64, l_72, l_80, l_92, l_98, l_99, l_100, l_102, l_105, l_111, l_112, l_114, l_115, l_116, l_117, l_120, l_144, l_200, l_201, l_240, l_300, l_320, l_400, l_500, l_512, l_550, l_560, l_649, l_650, l_1000, l_1032, l_1400, l_2000, l_4000, l_10000, l_268435455, iN_add, iN_sub, iN_mul, iN_le_t, iN_le_f, iN_lt_t, iN_lt_f, iN_eq_f, inb_iN, ix_iN, isZ_0, isZ_1, ↓reduceIte, eq_self, c_8 h, hn.1, juiceAt_ok ho hn h hk]
    · intro f s
      show f_X0_allJuice_l4_3 o G (f + 1) s (iN n) = _
      unfold f_X0_allJuice_l4_3
      simp (disch := omega) only [chk_t, beq_self_eq_true, nm_s, bj1_s, bj2_s, bj3_s, mo_1, mo_0, l_0, l_1, l_2, l_3, l_4, l_5, l_6, l_7, l_8, l_9, l_10, l_11, l_12, l_13, l_14, l_15, l_16, l_17, l_18, l_19, l_20, l_21, l_24, l_30, l_31, l_32, l_36, l_40, l_41, l_42, l_43, l_44, l_45, l_46, l_47, l_48, l_49, l_50, l_51, l_52, l_57, l_58, l_60, l_61, l_64, l_72, l_80, l_92, l_98, l_99, l_100, l_102, l_105, l_111, l_112, l_114, l_115, l_116, l_117, l_120, l_144, l_200, l_201, l_240, l_300, l_320, l_400, l_500, l_512, l_550, l_560, l_649, l_650, l_1000, l_1032, l_1400, l_2000, l_4000, l_10000, l_268435455, iN_add, iN_sub, iN_mul, iN_le_t, iN_le_f, iN_lt_t, iN_lt_f, iN_eq_f, inb_iN, ix_iN, isZ_0, isZ_1, ↓reduceIte, eq_self, c_8 h, hn.1]
  unfold f_X0_allJuice
  simp (disch := omega) only [chk_t, beq_self_eq_true, nm_s, bj1_s, bj2_s, bj3_s, mo_1, mo_0, l_0, l_1, l_2, l_3, l_4, l_5, l_6, l_7, l_8, l_9, l_10, l_11, l_12, l_13, l_14, l_15, l_16, l_17, l_18, l_19, l_20, l_21, l_24, l_30, l_31, l_32, l_36, l_40, l_41, l_42, l_43, l_44, l_45, l_46, l_47, l_48, l_49, l_50, l_51, l_52, l_57, l_58, l_60, l_61, l_64, l_72, l_80, l_92, l_98, l_99, l_100, l_102, l_105, l_111, l_112, l_114, l_115, l_116, l_117, l_120, l_144, l_200, l_201, l_240, l_300, l_320, l_400, l_500, l_512, l_550, l_560, l_649, l_650, l_1000, l_1032, l_1400, l_2000, l_4000, l_10000, l_268435455, iN_add, iN_sub, iN_mul, iN_le_t, iN_le_f, iN_lt_t, iN_lt_f, iN_eq_f, inb_iN, ix_iN, isZ_0, isZ_1, ↓reduceIte, eq_self, kd_b ho, key]
theorem loss_eq {j w : Int32} (hj : 0 ≤ j.toInt) (hw : 0 ≤ w.toInt) (hw2 : w.toInt ≤ 3000) : mn j ((j * ((mx (w - iN 400) (iN 0)) / iN 100)) / iN 20) = lossA j w := by
  have e1 : (w - iN 400).toInt = w.toInt - 400 := t_sub (by rw [li (by omega)]; omega) (by rw [li (by omega)]; omega)
  unfold lossA
  by_cases c : w - iN 400 ≤ iN 0
  · rw [if_pos c]
    have c2 := t_le.mp c
    rw [e1, li (by omega)] at c2
    have e2 : mx (w - iN 400) (iN 0) = iN 0 := by
      rw [t_eq, mx_t, e1, li (by omega)]
      split <;> omega
    rw [e2, show iN 0 / iN 100 = iN 0 from rfl, show j * iN 0 = iN 0 from Int32.mul_zero, show iN 0 / iN 20 = iN 0 from rfl, t_eq, mn_t, li (by omega)]
    split <;> omega
  · rw [if_neg c]
    have c2 : ¬ (w - iN 400).toInt ≤ (iN 0).toInt := fun e => c (t_le.mpr e)
    rw [e1, li (by omega)] at c2
    have e2 : mx (w - iN 400) (iN 0) = w - iN 400 := by
      rw [t_eq, mx_t, e1, li (by omega)]
      split <;> omega
    rw [e2, mn_com]
theorem closs_ok {o n : Nat} {D : Nat → Int32} {G : G_} (ho : kd o = 0) (hn : okN D n) (hw : wR D) (hj : jR D) (h : cD o D G) : f_X0_lossNow o G = some (lossS D) := by
  have h2 := hn.2
  have hnn := okN_n hn
  have key : f_X0_lossNow_l4_3 o G FU (iN 0) (iN 0) = some (lossS D) := by
    unfold lossS
    rw [hnn]
    refine loop_sum (fun n s v => f_X0_lossNow_l4_3 o G n s v) _ n ?_ ?_ (fu_lt (by omega))
    · intro f k s hk
      have a := hw k (by rw [hnn]; exact hk)
      have b := hj k (by rw [hnn]; exact hk)
      show f_X0_lossNow_l4_3 o G (f + 1) s (iN k) = f_X0_lossNow_l4_3 o G f _ (iN (k + 1))
      conv => lhs; unfold f_X0_lossNow_l4_3
      simp (disch := omega) only [chk_t, beq_self_eq_true, nm_s, bj1_s, bj2_s, bj3_s, mo_1, mo_0, l_0, l_1, l_2, l_3, l_4, l_5, l_6, l_7, l_8, l_9, l_10, l_11, l_12, l_13, l_14, l_15, l_16, l_17, l_18, l_19, l_20, l_21, l_24, l_30, l_31, l_32, l_36, l_40, l_41, l_42, l_43, l_44, l_45, l_46, l_47, l_48, l_49, l_50, l_51, l_52, l_57, l_58, l_60, l_61, l_64, l_72, l_80, l_92, l_98, l_99, l_100, l_102, l_105, l_111, l_112, l_114, l_115, l_116, l_117, l_120, l_144, l_200, l_201, l_240, l_300, l_320, l_400, l_500, l_512, l_550, l_560, l_649, l_650, l_1000, l_1032, l_1400, l_2000, l_4000, l_10000, l_268435455, iN_add, iN_sub, iN_mul, iN_le_t, iN_le_f, iN_lt_t, iN_lt_f, iN_eq_f, inb_iN, ix_iN, isZ_0, isZ_1, ↓reduceIte, eq_self, c_8 h, hn.1, juiceAt_ok ho hn h hk, warmthAt_ok ho hn h hk, loss_eq b a.1 a.2]
    · intro f s
      show f_X0_lossNow_l4_3 o G (f + 1) s (iN n) = _
      unfold f_X0_lossNow_l4_3
      simp (disch := omega) only [chk_t, beq_self_eq_true, nm_s, bj1_s, bj2_s, bj3_s, mo_1, mo_0, l_0, l_1, l_2, l_3, l_4, l_5, l_6, l_7, l_8, l_9, l_10, l_11, l_12, l_13, l_14, l_15, l_16, l_17, l_18, l_19, l_20, l_21, l_24, l_30, l_31, l_32, l_36, l_40, l_41, l_42, l_43, l_44, l_45, l_46, l_47, l_48, l_49, l_50, l_51, l_52, l_57, l_58, l_60, l_61, l_64, l_72, l_80, l_92, l_98, l_99, l_100, l_102, l_105, l_111, l_112, l_114, l_115, l_116, l_117, l_120, l_144, l_200, l_201, l_240, l_300, l_320, l_400, l_500, l_512, l_550, l_560, l_649, l_650, l_1000, l_1032, l_1400, l_2000, l_4000, l_10000, l_268435455, iN_add, iN_sub, iN_mul, iN_le_t, iN_le_f, iN_lt_t, iN_lt_f, iN_eq_f, inb_iN, ix_iN, isZ_0, isZ_1, ↓reduceIte, eq_self, c_8 h, hn.1]
  unfold f_X0_lossNow
  simp (disch := omega) only [chk_t, beq_self_eq_true, nm_s, bj1_s, bj2_s, bj3_s, mo_1, mo_0, l_0, l_1, l_2, l_3, l_4, l_5, l_6, l_7, l_8, l_9, l_10, l_11, l_12, l_13, l_14, l_15, l_16, l_17, l_18, l_19, l_20, l_21, l_24, l_30, l_31, l_32, l_36, l_40, l_41, l_42, l_43, l_44, l_45, l_46, l_47, l_48, l_49, l_50, l_51, l_52, l_57, l_58, l_60, l_61, l_64, l_72, l_80, l_92, l_98, l_99, l_100, l_102, l_105, l_111, l_112, l_114, l_115, l_116, l_117, l_120, l_144, l_200, l_201, l_240, l_300, l_320, l_400, l_500, l_512, l_550, l_560, l_649, l_650, l_1000, l_1032, l_1400, l_2000, l_4000, l_10000, l_268435455, iN_add, iN_sub, iN_mul, iN_le_t, iN_le_f, iN_lt_t, iN_lt_f, iN_eq_f, inb_iN, ix_iN, isZ_0, isZ_1, ↓reduceIte, eq_self, kd_b ho, key]
theorem ccrust_ok {o : Nat} {D : Nat → Int32} {G : G_} (ho : kd o = 0) (h : cD o D G) : f_X0_crust o G = some (crustS D) := by
  unfold f_X0_crust crustS
  simp (disch := omega) only [chk_t, beq_self_eq_true, nm_s, bj1_s, bj2_s, bj3_s, mo_1, mo_0, l_0, l_1, l_2, l_3, l_4, l_5, l_6, l_7, l_8, l_9, l_10, l_11, l_12, l_13, l_14, l_15, l_16, l_17, l_18, l_19, l_20, l_21, l_24, l_30, l_31, l_32, l_36, l_40, l_41, l_42, l_43, l_44, l_45, l_46, l_47, l_48, l_49, l_50, l_51, l_52, l_57, l_58, l_60, l_61, l_64, l_72, l_80, l_92, l_98, l_99, l_100, l_102, l_105, l_111, l_112, l_114, l_115, l_116, l_117, l_120, l_144, l_200, l_201, l_240, l_300, l_320, l_400, l_500, l_512, l_550, l_560, l_649, l_650, l_1000, l_1032, l_1400, l_2000, l_4000, l_10000, l_268435455, iN_add, iN_sub, iN_mul, iN_le_t, iN_le_f, iN_lt_t, iN_lt_f, iN_eq_f, inb_iN, ix_iN, isZ_0, isZ_1, ↓reduceIte, eq_self, kd_b ho, c_brn h, mn_com]
theorem ccol_ok {o n i : Nat} {D : Nat → Int32} {G : G_} (ho : kd o = 0) (hn : okN D n) (h : cD o D G) (hi : i < n) : f_X0_colour o (iN i) G = some (colS D i) := by
  unfold f_X0_colour colS
  simp (disch := omega) only [chk_t, beq_self_eq_true, nm_s, bj1_s, bj2_s, bj3_s, mo_1, mo_0, l_0, l_1, l_2, l_3, l_4, l_5, l_6, l_7, l_8, l_9, l_10, l_11, l_12, l_13, l_14, l_15, l_16, l_17, l_18, l_19, l_20, l_21, l_24, l_30, l_31, l_32, l_36, l_40, l_41, l_42, l_43, l_44, l_45, l_46, l_47, l_48, l_49, l_50, l_51, l_52, l_57, l_58, l_60, l_61, l_64, l_72, l_80, l_92, l_98, l_99, l_100, l_102, l_105, l_111, l_112, l_114, l_115, l_116, l_117, l_120, l_144, l_200, l_201, l_240, l_300, l_320, l_400, l_500, l_512, l_550, l_560, l_649, l_650, l_1000, l_1032, l_1400, l_2000, l_4000, l_10000, l_268435455, iN_add, iN_sub, iN_mul, iN_le_t, iN_le_f, iN_lt_t, iN_lt_f, iN_eq_f, inb_iN, ix_iN, isZ_0, isZ_1, ↓reduceIte, eq_self, kd_b ho, mostAt_ok ho hn h hi, ite_so]
theorem cwet_ok {o s : Nat} {D : Nat → Int32} {G : G_} (ho : kd o = 0) (h : cD o D G) (hs : s < 2) : f_X0_wetOf o (iN s) G = some (D (48 + s)) := by
  unfold f_X0_wetOf
  simp (disch := omega) only [chk_t, beq_self_eq_true, nm_s, bj1_s, bj2_s, bj3_s, mo_1, mo_0, l_0, l_1, l_2, l_3, l_4, l_5, l_6, l_7, l_8, l_9, l_10, l_11, l_12, l_13, l_14, l_15, l_16, l_17, l_18, l_19, l_20, l_21, l_24, l_30, l_31, l_32, l_36, l_40, l_41, l_42, l_43, l_44, l_45, l_46, l_47, l_48, l_49, l_50, l_51, l_52, l_57, l_58, l_60, l_61, l_64, l_72, l_80, l_92, l_98, l_99, l_100, l_102, l_105, l_111, l_112, l_114, l_115, l_116, l_117, l_120, l_144, l_200, l_201, l_240, l_300, l_320, l_400, l_500, l_512, l_550, l_560, l_649, l_650, l_1000, l_1032, l_1400, l_2000, l_4000, l_10000, l_268435455, iN_add, iN_sub, iN_mul, iN_le_t, iN_le_f, iN_lt_t, iN_lt_f, iN_eq_f, inb_iN, ix_iN, isZ_0, isZ_1, ↓reduceIte, eq_self, kd_b ho, c_wet h hs]
theorem cbrn_ok {o s : Nat} {D : Nat → Int32} {G : G_} (ho : kd o = 0) (h : cD o D G) (hs : s < 2) : f_X0_brownOf o (iN s) G = some (D (50 + s)) := by
  unfold f_X0_brownOf
  simp (disch := omega) only [chk_t, beq_self_eq_true, nm_s, bj1_s, bj2_s, bj3_s, mo_1, mo_0, l_0, l_1, l_2, l_3, l_4, l_5, l_6, l_7, l_8, l_9, l_10, l_11, l_12, l_13, l_14, l_15, l_16, l_17, l_18, l_19, l_20, l_21, l_24, l_30, l_31, l_32, l_36, l_40, l_41, l_42, l_43, l_44, l_45, l_46, l_47, l_48, l_49, l_50, l_51, l_52, l_57, l_58, l_60, l_61, l_64, l_72, l_80, l_92, l_98, l_99, l_100, l_102, l_105, l_111, l_112, l_114, l_115, l_116, l_117, l_120, l_144, l_200, l_201, l_240, l_300, l_320, l_400, l_500, l_512, l_550, l_560, l_649, l_650, l_1000, l_1032, l_1400, l_2000, l_4000, l_10000, l_268435455, iN_add, iN_sub, iN_mul, iN_le_t, iN_le_f, iN_lt_t, iN_lt_f, iN_eq_f, inb_iN, ix_iN, isZ_0, isZ_1, ↓reduceIte, eq_self, kd_b ho, c_brn h hs]
theorem ckind_ok {o s : Nat} {D : Nat → Int32} {G : G_} (ho : kd o = 0) (h : cD o D G) (hs : s < 2) : f_X0_kindOf o (iN s) G = some (kindS s D) := by
  unfold f_X0_kindOf kindS
  simp (disch := omega) only [chk_t, beq_self_eq_true, nm_s, bj1_s, bj2_s, bj3_s, mo_1, mo_0, l_0, l_1, l_2, l_3, l_4, l_5, l_6, l_7, l_8, l_9, l_10, l_11, l_12, l_13, l_14, l_15, l_16, l_17, l_18, l_19, l_20, l_21, l_24, l_30, l_31, l_32, l_36, l_40, l_41, l_42, l_43, l_44, l_45, l_46, l_47, l_48, l_49, l_50, l_51, l_52, l_57, l_58, l_60, l_61, l_64, l_72, l_80, l_92, l_98, l_99, l_100, l_102, l_105, l_111, l_112, l_114, l_115, l_116, l_117, l_120, l_144, l_200, l_201, l_240, l_300, l_320, l_400, l_500, l_512, l_550, l_560, l_649, l_650, l_1000, l_1032, l_1400, l_2000, l_4000, l_10000, l_268435455, iN_add, iN_sub, iN_mul, iN_le_t, iN_le_f, iN_lt_t, iN_lt_f, iN_eq_f, inb_iN, ix_iN, isZ_0, isZ_1, ↓reduceIte, eq_self, kd_b ho, cbrn_ok ho h hs, cwet_ok ho h hs, c_15 h, c_11 h, c_9 h, ite_so]
/-! the class: a dish is begun, goes by a way, rests -/
def wetS (s : Int32) : Int32 := if iN 10 < s then (if iN 50 - s < iN 0 then iN 0 else iN 50 - s) else iN 20 + iN 2 * s
def bgS (X : Nat → Int32) : Nat → Int32 := fun p =>
  if p < 41 then X p else if p < 48 then iN 0 else if p < 50 then wetS (X 2) else if p < 52 then iN 0
  else if p < 72 then (if p < 52 + nD X then iN 10 * X 1 else iN 0) else if p < 92 then (if p < 72 + nD X then iN 10 * X 1 else iN 0) else if p < 112 then (if p < 92 + nD X then iN 100 else iN 0) else X p
theorem bg_lo {X : Nat → Int32} {p : Nat} (h : p < 41) : bgS X p = X p := if_pos h
theorem bg_41 {X : Nat → Int32} {p : Nat} (h : 41 ≤ p) (h2 : p < 48) : bgS X p = iN 0 := by
  unfold bgS
  rw [if_neg (by omega), if_pos h2]
theorem bg_wet {X : Nat → Int32} {p : Nat} (h : 48 ≤ p) (h2 : p < 50) : bgS X p = wetS (X 2) := by
  unfold bgS
  rw [if_neg (by omega), if_neg (by omega), if_pos h2]
theorem bg_50 {X : Nat → Int32} {p : Nat} (h : 50 ≤ p) (h2 : p < 52) : bgS X p = iN 0 := by
  unfold bgS
  rw [if_neg (by omega), if_neg (by omega), if_neg (by omega), if_pos h2]
theorem bg_w {X : Nat → Int32} {i : Nat} (h : i < nD X) (hn : nD X ≤ 20) : bgS X (52 + i) = iN 10 * X 1 := by
  unfold bgS
  rw [if_neg (by omega), if_neg (by omega), if_neg (by omega), if_neg (by omega), if_pos (by omega), if_pos (by omega)]
theorem bg_m {X : Nat → Int32} {i : Nat} (h : i < nD X) (hn : nD X ≤ 20) : bgS X (72 + i) = iN 10 * X 1 := by
  unfold bgS
  rw [if_neg (by omega), if_neg (by omega), if_neg (by omega), if_neg (by omega), if_neg (by omega), if_pos (by omega), if_pos (by omega)]
theorem bg_j {X : Nat → Int32} {i : Nat} (h : i < nD X) (hn : nD X ≤ 20) : bgS X (92 + i) = iN 100 := by
  unfold bgS
  rw [if_neg (by omega), if_neg (by omega), if_neg (by omega), if_neg (by omega), if_neg (by omega), if_neg (by omega), if_pos (by omega), if_pos (by omega)]
theorem bg_hi {X : Nat → Int32} {p : Nat} (h : 112 ≤ p) : bgS X p = X p := by
  unfold bgS
  rw [if_neg (by omega), if_neg (by omega), if_neg (by omega), if_neg (by omega), if_neg (by omega), if_neg (by omega), if_neg (by omega)]
/-- a slab by its row of numbers -/
def slR (X : Nat → Int32) (n : Nat) : Prop := okN X n ∧ 0 ≤ (X 1).toInt ∧ (X 1).toInt ≤ 40
def cSl (a : Nat) (X : Nat → Int32) (G : G_) : Prop := G.1 a 1 = X 0 ∧ G.1 a 2 = X 1 ∧ G.1 a 3 = X 2 ∧ G.1 a 4 = X 3
theorem wf_bg {X : Nat → Int32} {n : Nat} (h : slR X n) (hm : mD X ≤ 12) : wfD (bgS X) n := by
  obtain ⟨hn, h1, h2⟩ := h
  have h3 := hn.2
  have hnn := okN_n hn
  have e : (iN 10 * X 1).toInt = 10 * (X 1).toInt := by
    rw [t_mul (by rw [li (by omega)]; omega) (by rw [li (by omega)]; omega), li (by omega)]
    rfl
  have en : nD (bgS X) = n := by rw [nD_of (bg_lo (by omega))]; exact hnn
  refine ⟨okN_keep hn (bg_lo (by omega)), by rw [mD_of (bg_lo (by omega))]; exact hm, fun i hi => ?_, fun i hi => ?_⟩
  · rw [en] at hi
    rw [bg_w (by omega) (by omega), e]
    omega
  · rw [en] at hi
    rw [bg_j (by omega) (by omega), li (by omega)]
    omega
theorem clampN {n : Nat} (h : 3 ≤ n) (h2 : n ≤ 20) : mx (iN 3) (mn (iN n) (iN 20)) = iN n := by
  rw [t_eq, mx_t, mn_t, li (by omega), li (by omega), li (by omega)]
  split <;> (split <;> omega)
theorem begin_ok {o a n : Nat} {X : Nat → Int32} {G : G_} (ho : kd o = 0) (ha : kd a = 5) (hd : a < o ∨ o + 11 ≤ a) (hn : okN X n) (h1 : G.1 a 2 = X 1) (h3 : G.1 a 4 = X 3) (h4 : X 4 = iN 0) :
    ∃ G', f_X0_begin o a (iN n) (X 2) G = some G' ∧ cD o (bgS X) G' ∧ fr o G G' := by
  have h2 := hn.2
  have hnn := okN_n hn
  have hp : kd (o + 7) = 2 := sh_X0_plan ho
  have hL : ∀ H : G_, H.1 a 2 = X 1 → ∃ A, f_X0_begin_l30_6 o a (X 2) FU (iN 0) H = some A ∧ (∀ i, i < 20 → A.1 (o + 1) i = iN 10 * X 1 ∧ A.1 (o + 3) i = iN 10 * X 1 ∧ A.1 (o + 4) i = iN 100) ∧ (∀ p, p ≠ o + 1 → p ≠ o + 3 → p ≠ o + 4 → A.1 p = H.1 p) ∧ A.2 = H.2 := by
    intro H hH
    refine loop_h (fun n v s => f_X0_begin_l30_6 o a (X 2) n v s) (fun j G2 => (∀ i, i < j → G2.1 (o + 1) i = iN 10 * X 1 ∧ G2.1 (o + 3) i = iN 10 * X 1 ∧ G2.1 (o + 4) i = iN 100) ∧ (∀ p, p ≠ o + 1 → p ≠ o + 3 → p ≠ o + 4 → G2.1 p = H.1 p) ∧ G2.2 = H.2) _ 0 20 ?_ ?_ (by omega) (n := FU) (fu_lt (by omega)) ⟨fun i h => by omega, fun _ _ _ _ => rfl, rfl⟩
    · intro f j G2 h3 h4 ⟨i1, i2, i3⟩
      have r : G2.1 a 2 = X 1 := by rw [i2 a (by omega) (by omega) (by omega)]; exact hH
      refine ⟨sI (sI (sI G2 (o + 1) j (iN 10 * X 1)) (o + 3) j (iN 10 * X 1)) (o + 4) j (iN 100), ⟨fun i h5 => ?_, fun p hp1 hp2 hp3 => ?_, i3⟩, ?_⟩
      · by_cases c : i = j
        · subst c
          simp (disch := omega) only [chk_t, beq_self_eq_true, nm_s, bj1_s, bj2_s, bj3_s, mo_1, mo_0, l_0, l_1, l_2, l_3, l_4, l_5, l_6, l_7, l_8, l_9, l_10, l_11, l_12, l_13, l_14, l_15, l_16, l_17, l_18, l_19, l_20, l_21, l_24, l_30, l_31, l_32, l_36, l_40, l_41, l_42, l_43, l_44, l_45, l_46, l_47, l_48, l_49, l_50, l_51, l_52, l_57, l_58, l_60, l_61, l_64, l_72, l_80, l_92, l_98, l_99, l_100, l_102, l_105, l_111, l_112, l_114, l_115, l_116, l_117, l_120, l_144, l_200, l_201, l_240, l_300, l_320, l_400, l_500, l_512, l_550, l_560, l_649, l_650, l_1000, l_1032, l_1400, l_2000, l_4000, l_10000, l_268435455, iN_add, iN_sub, iN_mul, iN_le_t, iN_le_f, iN_lt_t, iN_lt_f, iN_eq_f, inb_iN, ix_iN, isZ_0, isZ_1, ↓reduceIte, eq_self, sI_eq, sI_p, and_self]
        · simp (disch := omega) only [chk_t, beq_self_eq_true, nm_s, bj1_s, bj2_s, bj3_s, mo_1, mo_0, l_0, l_1, l_2, l_3, l_4, l_5, l_6, l_7, l_8, l_9, l_10, l_11, l_12, l_13, l_14, l_15, l_16, l_17, l_18, l_19, l_20, l_21, l_24, l_30, l_31, l_32, l_36, l_40, l_41, l_42, l_43, l_44, l_45, l_46, l_47, l_48, l_49, l_50, l_51, l_52, l_57, l_58, l_60, l_61, l_64, l_72, l_80, l_92, l_98, l_99, l_100, l_102, l_105, l_111, l_112, l_114, l_115, l_116, l_117, l_120, l_144, l_200, l_201, l_240, l_300, l_320, l_400, l_500, l_512, l_550, l_560, l_649, l_650, l_1000, l_1032, l_1400, l_2000, l_4000, l_10000, l_268435455, iN_add, iN_sub, iN_mul, iN_le_t, iN_le_f, iN_lt_t, iN_lt_f, iN_eq_f, inb_iN, ix_iN, isZ_0, isZ_1, ↓reduceIte, eq_self, sI_j c, sI_p]
          exact i1 i (by omega)
      · rw [sI_p hp3, sI_p hp2, sI_p hp1]; exact i2 p hp1 hp2 hp3
      · show f_X0_begin_l30_6 o a (X 2) (f + 1) (iN j) G2 = _
        conv => lhs; unfold f_X0_begin_l30_6
        simp (disch := omega) only [chk_t, beq_self_eq_true, nm_s, bj1_s, bj2_s, bj3_s, mo_1, mo_0, l_0, l_1, l_2, l_3, l_4, l_5, l_6, l_7, l_8, l_9, l_10, l_11, l_12, l_13, l_14, l_15, l_16, l_17, l_18, l_19, l_20, l_21, l_24, l_30, l_31, l_32, l_36, l_40, l_41, l_42, l_43, l_44, l_45, l_46, l_47, l_48, l_49, l_50, l_51, l_52, l_57, l_58, l_60, l_61, l_64, l_72, l_80, l_92, l_98, l_99, l_100, l_102, l_105, l_111, l_112, l_114, l_115, l_116, l_117, l_120, l_144, l_200, l_201, l_240, l_300, l_320, l_400, l_500, l_512, l_550, l_560, l_649, l_650, l_1000, l_1032, l_1400, l_2000, l_4000, l_10000, l_268435455, iN_add, iN_sub, iN_mul, iN_le_t, iN_le_f, iN_lt_t, iN_lt_f, iN_eq_f, inb_iN, ix_iN, isZ_0, isZ_1, ↓reduceIte, eq_self, r, sI_p]
    · intro f G2 ⟨i1, i2, i3⟩
      refine ⟨G2, ?_, i1, i2, i3⟩
      show f_X0_begin_l30_6 o a (X 2) (f + 1) (iN 20) G2 = _
      unfold f_X0_begin_l30_6
      simp (disch := omega) only [chk_t, beq_self_eq_true, nm_s, bj1_s, bj2_s, bj3_s, mo_1, mo_0, l_0, l_1, l_2, l_3, l_4, l_5, l_6, l_7, l_8, l_9, l_10, l_11, l_12, l_13, l_14, l_15, l_16, l_17, l_18, l_19, l_20, l_21, l_24, l_30, l_31, l_32, l_36, l_40, l_41, l_42, l_43, l_44, l_45, l_46, l_47, l_48, l_49, l_50, l_51, l_52, l_57, l_58, l_60, l_61, l_64, l_72, l_80, l_92, l_98, l_99, l_100, l_102, l_105, l_111, l_112, l_114, l_115, l_116, l_117, l_120, l_144, l_200, l_201, l_240, l_300, l_320, l_400, l_500, l_512, l_550, l_560, l_649, l_650, l_1000, l_1032, l_1400, l_2000, l_4000, l_10000, l_268435455, iN_add, iN_sub, iN_mul, iN_le_t, iN_le_f, iN_lt_t, iN_lt_f, iN_eq_f, inb_iN, ix_iN, isZ_0, isZ_1, ↓reduceIte, eq_self]
  have hL2 : ∀ H : G_, ∃ B, f_X0_begin_l83_16 o (X 2) FU (iN 0) H = some B ∧ (∀ i, i < 2 → B.1 (o + 5) i = wetS (X 2) ∧ B.1 (o + 6) i = iN 0) ∧ (∀ p, p ≠ o + 5 → p ≠ o + 6 → B.1 p = H.1 p) ∧ B.2 = H.2 := by
    intro H
    refine loop_h (fun n v s => f_X0_begin_l83_16 o (X 2) n v s) (fun j G2 => (∀ i, i < j → G2.1 (o + 5) i = wetS (X 2) ∧ G2.1 (o + 6) i = iN 0) ∧ (∀ p, p ≠ o + 5 → p ≠ o + 6 → G2.1 p = H.1 p) ∧ G2.2 = H.2) _ 0 2 ?_ ?_ (by omega) (n := FU) (fu_lt (by omega)) ⟨fun i h => by omega, fun _ _ _ => rfl, rfl⟩
    · intro f j G2 h3 h4 ⟨i1, i2, i3⟩
      refine ⟨sI (sI G2 (o + 5) j (wetS (X 2))) (o + 6) j (iN 0), ⟨fun i h5 => ?_, fun p hp1 hp2 => ?_, i3⟩, ?_⟩
      · by_cases c : i = j
        · subst c
          simp (disch := omega) only [chk_t, beq_self_eq_true, nm_s, bj1_s, bj2_s, bj3_s, mo_1, mo_0, l_0, l_1, l_2, l_3, l_4, l_5, l_6, l_7, l_8, l_9, l_10, l_11, l_12, l_13, l_14, l_15, l_16, l_17, l_18, l_19, l_20, l_21, l_24, l_30, l_31, l_32, l_36, l_40, l_41, l_42, l_43, l_44, l_45, l_46, l_47, l_48, l_49, l_50, l_51, l_52, l_57, l_58, l_60, l_61, l_64, l_72, l_80, l_92, l_98, l_99, l_100, l_102, l_105, l_111, l_112, l_114, l_115, l_116, l_117, l_120, l_144, l_200, l_201, l_240, l_300, l_320, l_400, l_500, l_512, l_550, l_560, l_649, l_650, l_1000, l_1032, l_1400, l_2000, l_4000, l_10000, l_268435455, iN_add, iN_sub, iN_mul, iN_le_t, iN_le_f, iN_lt_t, iN_lt_f, iN_eq_f, inb_iN, ix_iN, isZ_0, isZ_1, ↓reduceIte, eq_self, sI_eq, sI_p, and_self]
        · simp (disch := omega) only [chk_t, beq_self_eq_true, nm_s, bj1_s, bj2_s, bj3_s, mo_1, mo_0, l_0, l_1, l_2, l_3, l_4, l_5, l_6, l_7, l_8, l_9, l_10, l_11, l_12, l_13, l_14, l_15, l_16, l_17, l_18, l_19, l_20, l_21, l_24, l_30, l_31, l_32, l_36, l_40, l_41, l_42, l_43, l_44, l_45, l_46, l_47, l_48, l_49, l_50, l_51, l_52, l_57, l_58, l_60, l_61, l_64, l_72, l_80, l_92, l_98, l_99, l_100, l_102, l_105, l_111, l_112, l_114, l_115, l_116, l_117, l_120, l_144, l_200, l_201, l_240, l_300, l_320, l_400, l_500, l_512, l_550, l_560, l_649, l_650, l_1000, l_1032, l_1400, l_2000, l_4000, l_10000, l_268435455, iN_add, iN_sub, iN_mul, iN_le_t, iN_le_f, iN_lt_t, iN_lt_f, iN_eq_f, inb_iN, ix_iN, isZ_0, isZ_1, ↓reduceIte, eq_self, sI_j c, sI_p]
          exact i1 i (by omega)
      · rw [sI_p hp2, sI_p hp1]; exact i2 p hp1 hp2
      · show f_X0_begin_l83_16 o (X 2) (f + 1) (iN j) G2 = _
        conv => lhs; unfold f_X0_begin_l83_16
        simp (disch := omega) only [chk_t, beq_self_eq_true, nm_s, bj1_s, bj2_s, bj3_s, mo_1, mo_0, l_0, l_1, l_2, l_3, l_4, l_5, l_6, l_7, l_8, l_9, l_10, l_11, l_12, l_13, l_14, l_15, l_16, l_17, l_18, l_19, l_20, l_21, l_24, l_30, l_31, l_32, l_36, l_40, l_41, l_42, l_43, l_44, l_45, l_46, l_47, l_48, l_49, l_50, l_51, l_52, l_57, l_58, l_60, l_61, l_64, l_72, l_80, l_92, l_98, l_99, l_100, l_102, l_105, l_111, l_112, l_114, l_115, l_116, l_117, l_120, l_144, l_200, l_201, l_240, l_300, l_320, l_400, l_500, l_512, l_550, l_560, l_649, l_650, l_1000, l_1032, l_1400, l_2000, l_4000, l_10000, l_268435455, iN_add, iN_sub, iN_mul, iN_le_t, iN_le_f, iN_lt_t, iN_lt_f, iN_eq_f, inb_iN, ix_iN, isZ_0, isZ_1, ↓reduceIte, eq_self, ite_so, mx_0]
        rfl
    · intro f G2 ⟨i1, i2, i3⟩
      refine ⟨G2, ?_, i1, i2, i3⟩
      show f_X0_begin_l83_16 o (X 2) (f + 1) (iN 2) G2 = _
      unfold f_X0_begin_l83_16
      simp (disch := omega) only [chk_t, beq_self_eq_true, nm_s, bj1_s, bj2_s, bj3_s, mo_1, mo_0, l_0, l_1, l_2, l_3, l_4, l_5, l_6, l_7, l_8, l_9, l_10, l_11, l_12, l_13, l_14, l_15, l_16, l_17, l_18, l_19, l_20, l_21, l_24, l_30, l_31, l_32, l_36, l_40, l_41, l_42, l_43, l_44, l_45, l_46, l_47, l_48, l_49, l_50, l_51, l_52, l_57, l_58, l_60, l_61, l_64, l_72, l_80, l_92, l_98, l_99, l_100, l_102, l_105, l_111, l_112, l_114, l_115, l_116, l_117, l_120, l_144, l_200, l_201, l_240, l_300, l_320, l_400, l_500, l_512, l_550, l_560, l_649, l_650, l_1000, l_1032, l_1400, l_2000, l_4000, l_10000, l_268435455, iN_add, iN_sub, iN_mul, iN_le_t, iN_le_f, iN_lt_t, iN_lt_f, iN_eq_f, inb_iN, ix_iN, isZ_0, isZ_1, ↓reduceIte, eq_self]
  obtain ⟨A, hA, a1, a2, a3⟩ := hL (sI (sI (sI G o 8 (iN n)) o 9 (X 2)) o 10 (X 3)) (by rw [sI_p (by omega), sI_p (by omega), sI_p (by omega)]; exact h1)
  obtain ⟨B, hB, b1, b2, b3⟩ := hL2 A
  refine ⟨sI (sI (sI (sI (sI (sI (sI (sI (sI B (o + 7) 3 (iN 1)) (o + 7) 4 (iN 0)) (o + 7) 5 (iN 0)) o 11 (iN 0)) o 12 (iN 0)) o 13 (iN 0)) o 14 (iN 0)) o 15 (iN 0)) o 16 (iN 0), ?_, ?_, ⟨⟨fun q hq => ?_, ?_⟩, ?_⟩⟩
  · unfold f_X0_begin f_X2_begin
    simp (disch := omega) only [chk_t, beq_self_eq_true, nm_s, bj1_s, bj2_s, bj3_s, mo_1, mo_0, l_0, l_1, l_2, l_3, l_4, l_5, l_6, l_7, l_8, l_9, l_10, l_11, l_12, l_13, l_14, l_15, l_16, l_17, l_18, l_19, l_20, l_21, l_24, l_30, l_31, l_32, l_36, l_40, l_41, l_42, l_43, l_44, l_45, l_46, l_47, l_48, l_49, l_50, l_51, l_52, l_57, l_58, l_60, l_61, l_64, l_72, l_80, l_92, l_98, l_99, l_100, l_102, l_105, l_111, l_112, l_114, l_115, l_116, l_117, l_120, l_144, l_200, l_201, l_240, l_300, l_320, l_400, l_500, l_512, l_550, l_560, l_649, l_650, l_1000, l_1032, l_1400, l_2000, l_4000, l_10000, l_268435455, iN_add, iN_sub, iN_mul, iN_le_t, iN_le_f, iN_lt_t, iN_lt_f, iN_eq_f, inb_iN, ix_iN, isZ_0, isZ_1, ↓reduceIte, eq_self, kd_b ho, kd_b ha, kd_b hp, clampN, sI_p, h3, hA, hB]
  · intro d j hc
    have en : nD (bgS X) = n := by rw [nD_of (bg_lo (by omega))]; exact hnn
    have em : mD (bgS X) = 0 := by rw [mD_of (bg_lo (by omega))]; unfold mD; rw [h4]; rfl
    rw [en, em] at hc
    rcases hc with ⟨rfl, h5, h6⟩ | ⟨rfl, rfl⟩ | ⟨rfl, h5⟩ | ⟨rfl, h5⟩ | ⟨rfl, h5⟩ | ⟨rfl, h5⟩ | ⟨rfl, h5⟩ | ⟨h5, h6, h7⟩
    · have : j = 8 ∨ j = 9 ∨ j = 10 ∨ j = 11 ∨ j = 12 ∨ j = 13 ∨ j = 14 ∨ j = 15 ∨ j = 16 := by omega
      rcases this with rfl | rfl | rfl | rfl | rfl | rfl | rfl | rfl | rfl
      · show _ = bgS X 0
        rw [bg_lo (by omega), hn.1]
        simp (disch := omega) only [chk_t, beq_self_eq_true, nm_s, bj1_s, bj2_s, bj3_s, mo_1, mo_0, l_0, l_1, l_2, l_3, l_4, l_5, l_6, l_7, l_8, l_9, l_10, l_11, l_12, l_13, l_14, l_15, l_16, l_17, l_18, l_19, l_20, l_21, l_24, l_30, l_31, l_32, l_36, l_40, l_41, l_42, l_43, l_44, l_45, l_46, l_47, l_48, l_49, l_50, l_51, l_52, l_57, l_58, l_60, l_61, l_64, l_72, l_80, l_92, l_98, l_99, l_100, l_102, l_105, l_111, l_112, l_114, l_115, l_116, l_117, l_120, l_144, l_200, l_201, l_240, l_300, l_320, l_400, l_500, l_512, l_550, l_560, l_649, l_650, l_1000, l_1032, l_1400, l_2000, l_4000, l_10000, l_268435455, iN_add, iN_sub, iN_mul, iN_le_t, iN_le_f, iN_lt_t, iN_lt_f, iN_eq_f, inb_iN, ix_iN, isZ_0, isZ_1, ↓reduceIte, eq_self, Nat.add_zero, sI_eq, sI_j, sI_p, b2, a2]
      · show _ = bgS X 2
        rw [bg_lo (by omega)]
        simp (disch := omega) only [chk_t, beq_self_eq_true, nm_s, bj1_s, bj2_s, bj3_s, mo_1, mo_0, l_0, l_1, l_2, l_3, l_4, l_5, l_6, l_7, l_8, l_9, l_10, l_11, l_12, l_13, l_14, l_15, l_16, l_17, l_18, l_19, l_20, l_21, l_24, l_30, l_31, l_32, l_36, l_40, l_41, l_42, l_43, l_44, l_45, l_46, l_47, l_48, l_49, l_50, l_51, l_52, l_57, l_58, l_60, l_61, l_64, l_72, l_80, l_92, l_98, l_99, l_100, l_102, l_105, l_111, l_112, l_114, l_115, l_116, l_117, l_120, l_144, l_200, l_201, l_240, l_300, l_320, l_400, l_500, l_512, l_550, l_560, l_649, l_650, l_1000, l_1032, l_1400, l_2000, l_4000, l_10000, l_268435455, iN_add, iN_sub, iN_mul, iN_le_t, iN_le_f, iN_lt_t, iN_lt_f, iN_eq_f, inb_iN, ix_iN, isZ_0, isZ_1, ↓reduceIte, eq_self, Nat.add_zero, sI_eq, sI_j, sI_p, b2, a2]
      · show _ = bgS X 3
        rw [bg_lo (by omega)]
        simp (disch := omega) only [chk_t, beq_self_eq_true, nm_s, bj1_s, bj2_s, bj3_s, mo_1, mo_0, l_0, l_1, l_2, l_3, l_4, l_5, l_6, l_7, l_8, l_9, l_10, l_11, l_12, l_13, l_14, l_15, l_16, l_17, l_18, l_19, l_20, l_21, l_24, l_30, l_31, l_32, l_36, l_40, l_41, l_42, l_43, l_44, l_45, l_46, l_47, l_48, l_49, l_50, l_51, l_52, l_57, l_58, l_60, l_61, l_64, l_72, l_80, l_92, l_98, l_99, l_100, l_102, l_105, l_111, l_112, l_114, l_115, l_116, l_117, l_120, l_144, l_200, l_201, l_240, l_300, l_320, l_400, l_500, l_512, l_550, l_560, l_649, l_650, l_1000, l_1032, l_1400, l_2000, l_4000, l_10000, l_268435455, iN_add, iN_sub, iN_mul, iN_le_t, iN_le_f, iN_lt_t, iN_lt_f, iN_eq_f, inb_iN, ix_iN, isZ_0, isZ_1, ↓reduceIte, eq_self, Nat.add_zero, sI_eq, sI_j, sI_p, b2, a2]
      · show _ = bgS X 44
        rw [bg_41 (by omega) (by omega)]
        simp (disch := omega) only [chk_t, beq_self_eq_true, nm_s, bj1_s, bj2_s, bj3_s, mo_1, mo_0, l_0, l_1, l_2, l_3, l_4, l_5, l_6, l_7, l_8, l_9, l_10, l_11, l_12, l_13, l_14, l_15, l_16, l_17, l_18, l_19, l_20, l_21, l_24, l_30, l_31, l_32, l_36, l_40, l_41, l_42, l_43, l_44, l_45, l_46, l_47, l_48, l_49, l_50, l_51, l_52, l_57, l_58, l_60, l_61, l_64, l_72, l_80, l_92, l_98, l_99, l_100, l_102, l_105, l_111, l_112, l_114, l_115, l_116, l_117, l_120, l_144, l_200, l_201, l_240, l_300, l_320, l_400, l_500, l_512, l_550, l_560, l_649, l_650, l_1000, l_1032, l_1400, l_2000, l_4000, l_10000, l_268435455, iN_add, iN_sub, iN_mul, iN_le_t, iN_le_f, iN_lt_t, iN_lt_f, iN_eq_f, inb_iN, ix_iN, isZ_0, isZ_1, ↓reduceIte, eq_self, Nat.add_zero, sI_eq, sI_j, sI_p]
      · show _ = bgS X 43
        rw [bg_41 (by omega) (by omega)]
        simp (disch := omega) only [chk_t, beq_self_eq_true, nm_s, bj1_s, bj2_s, bj3_s, mo_1, mo_0, l_0, l_1, l_2, l_3, l_4, l_5, l_6, l_7, l_8, l_9, l_10, l_11, l_12, l_13, l_14, l_15, l_16, l_17, l_18, l_19, l_20, l_21, l_24, l_30, l_31, l_32, l_36, l_40, l_41, l_42, l_43, l_44, l_45, l_46, l_47, l_48, l_49, l_50, l_51, l_52, l_57, l_58, l_60, l_61, l_64, l_72, l_80, l_92, l_98, l_99, l_100, l_102, l_105, l_111, l_112, l_114, l_115, l_116, l_117, l_120, l_144, l_200, l_201, l_240, l_300, l_320, l_400, l_500, l_512, l_550, l_560, l_649, l_650, l_1000, l_1032, l_1400, l_2000, l_4000, l_10000, l_268435455, iN_add, iN_sub, iN_mul, iN_le_t, iN_le_f, iN_lt_t, iN_lt_f, iN_eq_f, inb_iN, ix_iN, isZ_0, isZ_1, ↓reduceIte, eq_self, Nat.add_zero, sI_eq, sI_j, sI_p]
      · show _ = bgS X 41
        rw [bg_41 (by omega) (by omega)]
        simp (disch := omega) only [chk_t, beq_self_eq_true, nm_s, bj1_s, bj2_s, bj3_s, mo_1, mo_0, l_0, l_1, l_2, l_3, l_4, l_5, l_6, l_7, l_8, l_9, l_10, l_11, l_12, l_13, l_14, l_15, l_16, l_17, l_18, l_19, l_20, l_21, l_24, l_30, l_31, l_32, l_36, l_40, l_41, l_42, l_43, l_44, l_45, l_46, l_47, l_48, l_49, l_50, l_51, l_52, l_57, l_58, l_60, l_61, l_64, l_72, l_80, l_92, l_98, l_99, l_100, l_102, l_105, l_111, l_112, l_114, l_115, l_116, l_117, l_120, l_144, l_200, l_201, l_240, l_300, l_320, l_400, l_500, l_512, l_550, l_560, l_649, l_650, l_1000, l_1032, l_1400, l_2000, l_4000, l_10000, l_268435455, iN_add, iN_sub, iN_mul, iN_le_t, iN_le_f, iN_lt_t, iN_lt_f, iN_eq_f, inb_iN, ix_iN, isZ_0, isZ_1, ↓reduceIte, eq_self, Nat.add_zero, sI_eq, sI_j, sI_p]
      · show _ = bgS X 42
        rw [bg_41 (by omega) (by omega)]
        simp (disch := omega) only [chk_t, beq_self_eq_true, nm_s, bj1_s, bj2_s, bj3_s, mo_1, mo_0, l_0, l_1, l_2, l_3, l_4, l_5, l_6, l_7, l_8, l_9, l_10, l_11, l_12, l_13, l_14, l_15, l_16, l_17, l_18, l_19, l_20, l_21, l_24, l_30, l_31, l_32, l_36, l_40, l_41, l_42, l_43, l_44, l_45, l_46, l_47, l_48, l_49, l_50, l_51, l_52, l_57, l_58, l_60, l_61, l_64, l_72, l_80, l_92, l_98, l_99, l_100, l_102, l_105, l_111, l_112, l_114, l_115, l_116, l_117, l_120, l_144, l_200, l_201, l_240, l_300, l_320, l_400, l_500, l_512, l_550, l_560, l_649, l_650, l_1000, l_1032, l_1400, l_2000, l_4000, l_10000, l_268435455, iN_add, iN_sub, iN_mul, iN_le_t, iN_le_f, iN_lt_t, iN_lt_f, iN_eq_f, inb_iN, ix_iN, isZ_0, isZ_1, ↓reduceIte, eq_self, Nat.add_zero, sI_eq, sI_j, sI_p]
      · show _ = bgS X 45
        rw [bg_41 (by omega) (by omega)]
        simp (disch := omega) only [chk_t, beq_self_eq_true, nm_s, bj1_s, bj2_s, bj3_s, mo_1, mo_0, l_0, l_1, l_2, l_3, l_4, l_5, l_6, l_7, l_8, l_9, l_10, l_11, l_12, l_13, l_14, l_15, l_16, l_17, l_18, l_19, l_20, l_21, l_24, l_30, l_31, l_32, l_36, l_40, l_41, l_42, l_43, l_44, l_45, l_46, l_47, l_48, l_49, l_50, l_51, l_52, l_57, l_58, l_60, l_61, l_64, l_72, l_80, l_92, l_98, l_99, l_100, l_102, l_105, l_111, l_112, l_114, l_115, l_116, l_117, l_120, l_144, l_200, l_201, l_240, l_300, l_320, l_400, l_500, l_512, l_550, l_560, l_649, l_650, l_1000, l_1032, l_1400, l_2000, l_4000, l_10000, l_268435455, iN_add, iN_sub, iN_mul, iN_le_t, iN_le_f, iN_lt_t, iN_lt_f, iN_eq_f, inb_iN, ix_iN, isZ_0, isZ_1, ↓reduceIte, eq_self, Nat.add_zero, sI_eq, sI_j, sI_p]
      · show _ = bgS X 47
        rw [bg_41 (by omega) (by omega)]
        simp (disch := omega) only [chk_t, beq_self_eq_true, nm_s, bj1_s, bj2_s, bj3_s, mo_1, mo_0, l_0, l_1, l_2, l_3, l_4, l_5, l_6, l_7, l_8, l_9, l_10, l_11, l_12, l_13, l_14, l_15, l_16, l_17, l_18, l_19, l_20, l_21, l_24, l_30, l_31, l_32, l_36, l_40, l_41, l_42, l_43, l_44, l_45, l_46, l_47, l_48, l_49, l_50, l_51, l_52, l_57, l_58, l_60, l_61, l_64, l_72, l_80, l_92, l_98, l_99, l_100, l_102, l_105, l_111, l_112, l_114, l_115, l_116, l_117, l_120, l_144, l_200, l_201, l_240, l_300, l_320, l_400, l_500, l_512, l_550, l_560, l_649, l_650, l_1000, l_1032, l_1400, l_2000, l_4000, l_10000, l_268435455, iN_add, iN_sub, iN_mul, iN_le_t, iN_le_f, iN_lt_t, iN_lt_f, iN_eq_f, inb_iN, ix_iN, isZ_0, isZ_1, ↓reduceIte, eq_self, Nat.add_zero, sI_eq, sI_j, sI_p]
    · show _ = bgS X 4
      rw [bg_lo (by omega), h4]
      simp (disch := omega) only [chk_t, beq_self_eq_true, nm_s, bj1_s, bj2_s, bj3_s, mo_1, mo_0, l_0, l_1, l_2, l_3, l_4, l_5, l_6, l_7, l_8, l_9, l_10, l_11, l_12, l_13, l_14, l_15, l_16, l_17, l_18, l_19, l_20, l_21, l_24, l_30, l_31, l_32, l_36, l_40, l_41, l_42, l_43, l_44, l_45, l_46, l_47, l_48, l_49, l_50, l_51, l_52, l_57, l_58, l_60, l_61, l_64, l_72, l_80, l_92, l_98, l_99, l_100, l_102, l_105, l_111, l_112, l_114, l_115, l_116, l_117, l_120, l_144, l_200, l_201, l_240, l_300, l_320, l_400, l_500, l_512, l_550, l_560, l_649, l_650, l_1000, l_1032, l_1400, l_2000, l_4000, l_10000, l_268435455, iN_add, iN_sub, iN_mul, iN_le_t, iN_le_f, iN_lt_t, iN_lt_f, iN_eq_f, inb_iN, ix_iN, isZ_0, isZ_1, ↓reduceIte, eq_self, sI_eq, sI_j, sI_p]
    · show _ = bgS X (48 + j)
      rw [bg_wet (by omega) (by omega)]
      simp (disch := omega) only [chk_t, beq_self_eq_true, nm_s, bj1_s, bj2_s, bj3_s, mo_1, mo_0, l_0, l_1, l_2, l_3, l_4, l_5, l_6, l_7, l_8, l_9, l_10, l_11, l_12, l_13, l_14, l_15, l_16, l_17, l_18, l_19, l_20, l_21, l_24, l_30, l_31, l_32, l_36, l_40, l_41, l_42, l_43, l_44, l_45, l_46, l_47, l_48, l_49, l_50, l_51, l_52, l_57, l_58, l_60, l_61, l_64, l_72, l_80, l_92, l_98, l_99, l_100, l_102, l_105, l_111, l_112, l_114, l_115, l_116, l_117, l_120, l_144, l_200, l_201, l_240, l_300, l_320, l_400, l_500, l_512, l_550, l_560, l_649, l_650, l_1000, l_1032, l_1400, l_2000, l_4000, l_10000, l_268435455, iN_add, iN_sub, iN_mul, iN_le_t, iN_le_f, iN_lt_t, iN_lt_f, iN_eq_f, inb_iN, ix_iN, isZ_0, isZ_1, ↓reduceIte, eq_self, sI_p]
      exact (b1 j h5).1
    · show _ = bgS X (50 + j)
      rw [bg_50 (by omega) (by omega)]
      simp (disch := omega) only [chk_t, beq_self_eq_true, nm_s, bj1_s, bj2_s, bj3_s, mo_1, mo_0, l_0, l_1, l_2, l_3, l_4, l_5, l_6, l_7, l_8, l_9, l_10, l_11, l_12, l_13, l_14, l_15, l_16, l_17, l_18, l_19, l_20, l_21, l_24, l_30, l_31, l_32, l_36, l_40, l_41, l_42, l_43, l_44, l_45, l_46, l_47, l_48, l_49, l_50, l_51, l_52, l_57, l_58, l_60, l_61, l_64, l_72, l_80, l_92, l_98, l_99, l_100, l_102, l_105, l_111, l_112, l_114, l_115, l_116, l_117, l_120, l_144, l_200, l_201, l_240, l_300, l_320, l_400, l_500, l_512, l_550, l_560, l_649, l_650, l_1000, l_1032, l_1400, l_2000, l_4000, l_10000, l_268435455, iN_add, iN_sub, iN_mul, iN_le_t, iN_le_f, iN_lt_t, iN_lt_f, iN_eq_f, inb_iN, ix_iN, isZ_0, isZ_1, ↓reduceIte, eq_self, sI_p]
      exact (b1 j h5).2
    · show _ = bgS X (52 + j)
      rw [bg_w (by omega) (by omega)]
      simp (disch := omega) only [chk_t, beq_self_eq_true, nm_s, bj1_s, bj2_s, bj3_s, mo_1, mo_0, l_0, l_1, l_2, l_3, l_4, l_5, l_6, l_7, l_8, l_9, l_10, l_11, l_12, l_13, l_14, l_15, l_16, l_17, l_18, l_19, l_20, l_21, l_24, l_30, l_31, l_32, l_36, l_40, l_41, l_42, l_43, l_44, l_45, l_46, l_47, l_48, l_49, l_50, l_51, l_52, l_57, l_58, l_60, l_61, l_64, l_72, l_80, l_92, l_98, l_99, l_100, l_102, l_105, l_111, l_112, l_114, l_115, l_116, l_117, l_120, l_144, l_200, l_201, l_240, l_300, l_320, l_400, l_500, l_512, l_550, l_560, l_649, l_650, l_1000, l_1032, l_1400, l_2000, l_4000, l_10000, l_268435455, iN_add, iN_sub, iN_mul, iN_le_t, iN_le_f, iN_lt_t, iN_lt_f, iN_eq_f, inb_iN, ix_iN, isZ_0, isZ_1, ↓reduceIte, eq_self, sI_p, b2]
      exact (a1 j (by omega)).1
    · show _ = bgS X (72 + j)
      rw [bg_m (by omega) (by omega)]
      simp (disch := omega) only [chk_t, beq_self_eq_true, nm_s, bj1_s, bj2_s, bj3_s, mo_1, mo_0, l_0, l_1, l_2, l_3, l_4, l_5, l_6, l_7, l_8, l_9, l_10, l_11, l_12, l_13, l_14, l_15, l_16, l_17, l_18, l_19, l_20, l_21, l_24, l_30, l_31, l_32, l_36, l_40, l_41, l_42, l_43, l_44, l_45, l_46, l_47, l_48, l_49, l_50, l_51, l_52, l_57, l_58, l_60, l_61, l_64, l_72, l_80, l_92, l_98, l_99, l_100, l_102, l_105, l_111, l_112, l_114, l_115, l_116, l_117, l_120, l_144, l_200, l_201, l_240, l_300, l_320, l_400, l_500, l_512, l_550, l_560, l_649, l_650, l_1000, l_1032, l_1400, l_2000, l_4000, l_10000, l_268435455, iN_add, iN_sub, iN_mul, iN_le_t, iN_le_f, iN_lt_t, iN_lt_f, iN_eq_f, inb_iN, ix_iN, isZ_0, isZ_1, ↓reduceIte, eq_self, sI_p, b2]
      exact (a1 j (by omega)).2.1
    · show _ = bgS X (92 + j)
      rw [bg_j (by omega) (by omega)]
      simp (disch := omega) only [chk_t, beq_self_eq_true, nm_s, bj1_s, bj2_s, bj3_s, mo_1, mo_0, l_0, l_1, l_2, l_3, l_4, l_5, l_6, l_7, l_8, l_9, l_10, l_11, l_12, l_13, l_14, l_15, l_16, l_17, l_18, l_19, l_20, l_21, l_24, l_30, l_31, l_32, l_36, l_40, l_41, l_42, l_43, l_44, l_45, l_46, l_47, l_48, l_49, l_50, l_51, l_52, l_57, l_58, l_60, l_61, l_64, l_72, l_80, l_92, l_98, l_99, l_100, l_102, l_105, l_111, l_112, l_114, l_115, l_116, l_117, l_120, l_144, l_200, l_201, l_240, l_300, l_320, l_400, l_500, l_512, l_550, l_560, l_649, l_650, l_1000, l_1032, l_1400, l_2000, l_4000, l_10000, l_268435455, iN_add, iN_sub, iN_mul, iN_le_t, iN_le_f, iN_lt_t, iN_lt_f, iN_eq_f, inb_iN, ix_iN, isZ_0, isZ_1, ↓reduceIte, eq_self, sI_p, b2]
      exact (a1 j (by omega)).2.2
    · omega
  · simp (disch := omega) only [chk_t, beq_self_eq_true, nm_s, bj1_s, bj2_s, bj3_s, mo_1, mo_0, l_0, l_1, l_2, l_3, l_4, l_5, l_6, l_7, l_8, l_9, l_10, l_11, l_12, l_13, l_14, l_15, l_16, l_17, l_18, l_19, l_20, l_21, l_24, l_30, l_31, l_32, l_36, l_40, l_41, l_42, l_43, l_44, l_45, l_46, l_47, l_48, l_49, l_50, l_51, l_52, l_57, l_58, l_60, l_61, l_64, l_72, l_80, l_92, l_98, l_99, l_100, l_102, l_105, l_111, l_112, l_114, l_115, l_116, l_117, l_120, l_144, l_200, l_201, l_240, l_300, l_320, l_400, l_500, l_512, l_550, l_560, l_649, l_650, l_1000, l_1032, l_1400, l_2000, l_4000, l_10000, l_268435455, iN_add, iN_sub, iN_mul, iN_le_t, iN_le_f, iN_lt_t, iN_lt_f, iN_eq_f, inb_iN, ix_iN, isZ_0, isZ_1, ↓reduceIte, eq_self, sI_p, b2, a2]
  · exact b3.trans a3
  · simp (disch := omega) only [chk_t, beq_self_eq_true, nm_s, bj1_s, bj2_s, bj3_s, mo_1, mo_0, l_0, l_1, l_2, l_3, l_4, l_5, l_6, l_7, l_8, l_9, l_10, l_11, l_12, l_13, l_14, l_15, l_16, l_17, l_18, l_19, l_20, l_21, l_24, l_30, l_31, l_32, l_36, l_40, l_41, l_42, l_43, l_44, l_45, l_46, l_47, l_48, l_49, l_50, l_51, l_52, l_57, l_58, l_60, l_61, l_64, l_72, l_80, l_92, l_98, l_99, l_100, l_102, l_105, l_111, l_112, l_114, l_115, l_116, l_117, l_120, l_144, l_200, l_201, l_240, l_300, l_320, l_400, l_500, l_512, l_550, l_560, l_649, l_650, l_1000, l_1032, l_1400, l_2000, l_4000, l_10000, l_268435455, iN_add, iN_sub, iN_mul, iN_le_t, iN_le_f, iN_lt_t, iN_lt_f, iN_eq_f, inb_iN, ix_iN, isZ_0, isZ_1, ↓reduceIte, eq_self, sI_j, sI_p, b2, a2]
/-- tick k of a way -/
def wayT (k : Nat) (q t : Int32) (D : Nat → Int32) : Nat → Int32 := tickS (iN 1) q (if iN k ≤ iN 0 then D else if iN k - iN k / t * t = iN 0 then up D 44 (iN 1 - D 44) else D)
def wayS (q t : Int32) (D : Nat → Int32) : Nat → Nat → Int32
  | 0 => D
  | k + 1 => wayT k q t (wayS q t D k)
theorem wf_up {D : Nat → Int32} {n p : Nat} {x : Int32} (h : wfD D n) (h1 : p < 52) (h2 : p ≠ 0) (h3 : p ≠ 4) : wfD (up D p x) n := by
  obtain ⟨hn, hm, hw, hj⟩ := h
  have hb := hn.2
  refine ⟨okN_keep hn (up_ne (by omega)), by rw [mD_of (up_ne (by omega))]; exact hm, keep_R hw (by rw [okN_n hn]; omega) (fun q hq => up_ne (by omega)), keep_J hj (by rw [okN_n hn]; omega) (fun q hq => up_ne (by omega))⟩
theorem tick_43 {k q : Int32} {D : Nat → Int32} {n : Nat} (hn : okN D n) : tickS k q D 43 = D 43 + iN 1 := by
  have h2 := hn.2
  unfold tickS endS
  rw [okN_n hn, up_eq, brownS_0 (by omega), brownS_0 (by omega), mostS_lo (by omega), bathS_0 (by omega), dryS_0 (by omega) (by omega), bathS_0 (by omega), dryS_0 (by omega) (by omega), warmsS_lo (by omega)]
theorem wf_wayT {k n : Nat} {q t : Int32} {D : Nat → Int32} (h : wfD D n) (hq : qR q) : wfD (wayT k q t D) n := by
  unfold wayT
  refine wf_tick ?_ hq
  split
  · exact h
  · split
    · exact wf_up h (by omega) (by omega) (by omega)
    · exact h
theorem wayT_43 {k n : Nat} {q t : Int32} {D : Nat → Int32} (h : wfD D n) : wayT k q t D 43 = D 43 + iN 1 := by
  unfold wayT
  split
  · exact tick_43 h.1
  · split
    · rw [tick_43 (wf_up h (by omega) (by omega) (by omega)).1, up_ne (by omega)]
    · exact tick_43 h.1
theorem wf_way {k n : Nat} {q t : Int32} {D : Nat → Int32} (h : wfD D n) (hq : qR q) : wfD (wayS q t D k) n := by
  induction k with
  | zero => exact h
  | succ k ih => exact wf_wayT ih hq
theorem way_43 {k n : Nat} {q t : Int32} {D : Nat → Int32} (h : wfD D n) (hq : qR q) (h0 : D 43 = iN 0) : wayS q t D k 43 = iN k := by
  induction k with
  | zero => exact h0
  | succ k ih =>
    show wayT k q t (wayS q t D k) 43 = _
    rw [wayT_43 (wf_way h hq), ih, iN_add]
theorem goByWay_ok {o n k : Nat} {D : Nat → Int32} {G : G_} {q t : Int32} (ho : kd o = 0) (hw : wfD D n) (hq : qR q) (ht : 1 ≤ t.toInt) (hk : D 43 = iN k) (h : cD o D G) : ∃ G', f_X0_goByWay o q t G = some G' ∧ cD o (wayT k q t D) G' ∧ fr o G G' := by
  have t0 : (t ≤ iN 0) = False := eq_false (fun e => by have := t_le.mp e; rw [li (by omega)] at this; omega)
  have t1 : (t != iN 0) = true := by
    rw [bne_iff_ne]
    intro e
    rw [e, li (by omega)] at ht
    omega
  have hz := dz_of hw.1 hw.2.1
  unfold f_X0_goByWay wayT
  simp (disch := omega) only [chk_t, beq_self_eq_true, nm_s, bj1_s, bj2_s, bj3_s, mo_1, mo_0, l_0, l_1, l_2, l_3, l_4, l_5, l_6, l_7, l_8, l_9, l_10, l_11, l_12, l_13, l_14, l_15, l_16, l_17, l_18, l_19, l_20, l_21, l_24, l_30, l_31, l_32, l_36, l_40, l_41, l_42, l_43, l_44, l_45, l_46, l_47, l_48, l_49, l_50, l_51, l_52, l_57, l_58, l_60, l_61, l_64, l_72, l_80, l_92, l_98, l_99, l_100, l_102, l_105, l_111, l_112, l_114, l_115, l_116, l_117, l_120, l_144, l_200, l_201, l_240, l_300, l_320, l_400, l_500, l_512, l_550, l_560, l_649, l_650, l_1000, l_1032, l_1400, l_2000, l_4000, l_10000, l_268435455, iN_add, iN_sub, iN_mul, iN_le_t, iN_le_f, iN_lt_t, iN_lt_f, iN_eq_f, inb_iN, ix_iN, isZ_0, isZ_1, ↓reduceIte, eq_self, kd_b ho, t0, t1, c_12 h, hk, c_11 h]
  by_cases c : iN k ≤ iN 0
  · simp only [if_pos c]
    obtain ⟨G', g, c1, f1⟩ := heat_ok (k := iN 1) ho hw hq h
    refine ⟨G', ?_, c1, f1⟩
    simp (disch := omega) only [chk_t, beq_self_eq_true, nm_s, bj1_s, bj2_s, bj3_s, mo_1, mo_0, l_0, l_1, l_2, l_3, l_4, l_5, l_6, l_7, l_8, l_9, l_10, l_11, l_12, l_13, l_14, l_15, l_16, l_17, l_18, l_19, l_20, l_21, l_24, l_30, l_31, l_32, l_36, l_40, l_41, l_42, l_43, l_44, l_45, l_46, l_47, l_48, l_49, l_50, l_51, l_52, l_57, l_58, l_60, l_61, l_64, l_72, l_80, l_92, l_98, l_99, l_100, l_102, l_105, l_111, l_112, l_114, l_115, l_116, l_117, l_120, l_144, l_200, l_201, l_240, l_300, l_320, l_400, l_500, l_512, l_550, l_560, l_649, l_650, l_1000, l_1032, l_1400, l_2000, l_4000, l_10000, l_268435455, iN_add, iN_sub, iN_mul, iN_le_t, iN_le_f, iN_lt_t, iN_lt_f, iN_eq_f, inb_iN, ix_iN, isZ_0, isZ_1, ↓reduceIte, eq_self, g]
  · simp only [if_neg c]
    by_cases c2 : iN k - iN k / t * t = iN 0
    · simp only [if_pos c2]
      obtain ⟨G', g, c1, f1⟩ := heat_ok (k := iN 1) ho (wf_up hw (p := 44) (x := iN 1 - D 44) (by omega) (by omega) (by omega)) hq (cD_0 hz h 11 44 (iN 1 - D 44) (by omega) rfl)
      refine ⟨G', ?_, c1, fr_tr (fr_sI fr_refl (by omega) (by omega) (Or.inr (by omega))) f1⟩
      simp (disch := omega) only [chk_t, beq_self_eq_true, nm_s, bj1_s, bj2_s, bj3_s, mo_1, mo_0, l_0, l_1, l_2, l_3, l_4, l_5, l_6, l_7, l_8, l_9, l_10, l_11, l_12, l_13, l_14, l_15, l_16, l_17, l_18, l_19, l_20, l_21, l_24, l_30, l_31, l_32, l_36, l_40, l_41, l_42, l_43, l_44, l_45, l_46, l_47, l_48, l_49, l_50, l_51, l_52, l_57, l_58, l_60, l_61, l_64, l_72, l_80, l_92, l_98, l_99, l_100, l_102, l_105, l_111, l_112, l_114, l_115, l_116, l_117, l_120, l_144, l_200, l_201, l_240, l_300, l_320, l_400, l_500, l_512, l_550, l_560, l_649, l_650, l_1000, l_1032, l_1400, l_2000, l_4000, l_10000, l_268435455, iN_add, iN_sub, iN_mul, iN_le_t, iN_le_f, iN_lt_t, iN_lt_f, iN_eq_f, inb_iN, ix_iN, isZ_0, isZ_1, ↓reduceIte, eq_self, g]
    · simp only [if_neg c2]
      obtain ⟨G', g, c1, f1⟩ := heat_ok (k := iN 1) ho hw hq h
      refine ⟨G', ?_, c1, f1⟩
      simp (disch := omega) only [chk_t, beq_self_eq_true, nm_s, bj1_s, bj2_s, bj3_s, mo_1, mo_0, l_0, l_1, l_2, l_3, l_4, l_5, l_6, l_7, l_8, l_9, l_10, l_11, l_12, l_13, l_14, l_15, l_16, l_17, l_18, l_19, l_20, l_21, l_24, l_30, l_31, l_32, l_36, l_40, l_41, l_42, l_43, l_44, l_45, l_46, l_47, l_48, l_49, l_50, l_51, l_52, l_57, l_58, l_60, l_61, l_64, l_72, l_80, l_92, l_98, l_99, l_100, l_102, l_105, l_111, l_112, l_114, l_115, l_116, l_117, l_120, l_144, l_200, l_201, l_240, l_300, l_320, l_400, l_500, l_512, l_550, l_560, l_649, l_650, l_1000, l_1032, l_1400, l_2000, l_4000, l_10000, l_268435455, iN_add, iN_sub, iN_mul, iN_le_t, iN_le_f, iN_lt_t, iN_lt_f, iN_eq_f, inb_iN, ix_iN, isZ_0, isZ_1, ↓reduceIte, eq_self, g]
theorem mkWay_ok {o a n c : Nat} {X : Nat → Int32} {G : G_} {q t : Int32} (ho : kd o = 0) (ha : kd a = 5) (hd : a < o ∨ o + 11 ≤ a) (hs : slR X n) (h4 : X 4 = iN 0) (hX : cSl a X G) (hq : qR q) (ht : 1 ≤ t.toInt) (hc : c ≤ 200) :
    ∃ G', f_X0_makeByWay o a q (iN c) t G = some G' ∧ cD o (wayS q t (bgS X) c) G' ∧ fr o G G' := by
  obtain ⟨B, hB, cB, fB⟩ := begin_ok ho ha hd hs.1 hX.2.1 hX.2.2.2 h4
  have e1 : G.1 a 1 = iN n := hX.1.trans hs.1.1
  have wf0 := wf_bg hs (by unfold mD; rw [h4]; decide)
  have hL : ∃ A, f_X0_makeByWay_l16_5 o q (iN c) t FU (iN 0) B = some A ∧ cD o (wayS q t (bgS X) c) A ∧ fr o B A := by
    refine loop_h (fun n v s => f_X0_makeByWay_l16_5 o q (iN c) t n v s) (fun j G2 => cD o (wayS q t (bgS X) j) G2 ∧ fr o B G2) _ 0 c ?_ ?_ (by omega) (n := FU) (fu_lt (by omega)) ⟨cB, fr_refl⟩
    · intro f j G2 h3 h5 ⟨i1, i2⟩
      obtain ⟨G', g, c1, f1⟩ := goByWay_ok (k := j) (q := q) (t := t) ho (wf_way (k := j) (t := t) wf0 hq) hq ht (way_43 wf0 hq (bg_41 (by omega) (by omega))) i1
      refine ⟨G', ⟨c1, fr_tr i2 f1⟩, ?_⟩
      show f_X0_makeByWay_l16_5 o q (iN c) t (f + 1) (iN j) G2 = _
      conv => lhs; unfold f_X0_makeByWay_l16_5
      simp (disch := omega) only [chk_t, beq_self_eq_true, nm_s, bj1_s, bj2_s, bj3_s, mo_1, mo_0, l_0, l_1, l_2, l_3, l_4, l_5, l_6, l_7, l_8, l_9, l_10, l_11, l_12, l_13, l_14, l_15, l_16, l_17, l_18, l_19, l_20, l_21, l_24, l_30, l_31, l_32, l_36, l_40, l_41, l_42, l_43, l_44, l_45, l_46, l_47, l_48, l_49, l_50, l_51, l_52, l_57, l_58, l_60, l_61, l_64, l_72, l_80, l_92, l_98, l_99, l_100, l_102, l_105, l_111, l_112, l_114, l_115, l_116, l_117, l_120, l_144, l_200, l_201, l_240, l_300, l_320, l_400, l_500, l_512, l_550, l_560, l_649, l_650, l_1000, l_1032, l_1400, l_2000, l_4000, l_10000, l_268435455, iN_add, iN_sub, iN_mul, iN_le_t, iN_le_f, iN_lt_t, iN_lt_f, iN_eq_f, inb_iN, ix_iN, isZ_0, isZ_1, ↓reduceIte, eq_self, g]
    · intro f G2 ⟨i1, i2⟩
      refine ⟨G2, ?_, i1, i2⟩
      show f_X0_makeByWay_l16_5 o q (iN c) t (f + 1) (iN c) G2 = _
      unfold f_X0_makeByWay_l16_5
      simp (disch := omega) only [chk_t, beq_self_eq_true, nm_s, bj1_s, bj2_s, bj3_s, mo_1, mo_0, l_0, l_1, l_2, l_3, l_4, l_5, l_6, l_7, l_8, l_9, l_10, l_11, l_12, l_13, l_14, l_15, l_16, l_17, l_18, l_19, l_20, l_21, l_24, l_30, l_31, l_32, l_36, l_40, l_41, l_42, l_43, l_44, l_45, l_46, l_47, l_48, l_49, l_50, l_51, l_52, l_57, l_58, l_60, l_61, l_64, l_72, l_80, l_92, l_98, l_99, l_100, l_102, l_105, l_111, l_112, l_114, l_115, l_116, l_117, l_120, l_144, l_200, l_201, l_240, l_300, l_320, l_400, l_500, l_512, l_550, l_560, l_649, l_650, l_1000, l_1032, l_1400, l_2000, l_4000, l_10000, l_268435455, iN_add, iN_sub, iN_mul, iN_le_t, iN_le_f, iN_lt_t, iN_lt_f, iN_eq_f, inb_iN, ix_iN, isZ_0, isZ_1, ↓reduceIte, eq_self]
  obtain ⟨A, hA, cA, fA⟩ := hL
  refine ⟨A, ?_, cA, fr_tr fB fA⟩
  unfold f_X0_makeByWay
  simp (disch := omega) only [chk_t, beq_self_eq_true, nm_s, bj1_s, bj2_s, bj3_s, mo_1, mo_0, l_0, l_1, l_2, l_3, l_4, l_5, l_6, l_7, l_8, l_9, l_10, l_11, l_12, l_13, l_14, l_15, l_16, l_17, l_18, l_19, l_20, l_21, l_24, l_30, l_31, l_32, l_36, l_40, l_41, l_42, l_43, l_44, l_45, l_46, l_47, l_48, l_49, l_50, l_51, l_52, l_57, l_58, l_60, l_61, l_64, l_72, l_80, l_92, l_98, l_99, l_100, l_102, l_105, l_111, l_112, l_114, l_115, l_116, l_117, l_120, l_144, l_200, l_201, l_240, l_300, l_320, l_400, l_500, l_512, l_550, l_560, l_649, l_650, l_1000, l_1032, l_1400, l_2000, l_4000, l_10000, l_268435455, iN_add, iN_sub, iN_mul, iN_le_t, iN_le_f, iN_lt_t, iN_lt_f, iN_eq_f, inb_iN, ix_iN, isZ_0, isZ_1, ↓reduceIte, eq_self, kd_b ho, kd_b ha, e1, hX.2.2.1, hB, hA]
/-- k ticks of rest -/
def restS (D : Nat → Int32) : Nat → Nat → Int32
  | 0 => D
  | k + 1 => tickS (iN 4) (iN 0) (restS D k)
theorem qR_0 : qR (iN 0) := ⟨by decide, by decide⟩
theorem wf_rest {k n : Nat} {D : Nat → Int32} (h : wfD D n) : wfD (restS D k) n := by
  induction k with
  | zero => exact h
  | succ k ih => exact wf_tick ih qR_0
theorem crest_ok {o n c : Nat} {D : Nat → Int32} {G : G_} (ho : kd o = 0) (hw : wfD D n) (hc : c ≤ 700) (h : cD o D G) : ∃ G', f_X0_restFor o (iN c) G = some G' ∧ cD o (restS D c) G' ∧ fr o G G' := by
  have hL : ∃ A, f_X0_restFor_l2_3 o (iN c) FU (iN 0) G = some A ∧ cD o (restS D c) A ∧ fr o G A := by
    refine loop_h (fun n v s => f_X0_restFor_l2_3 o (iN c) n v s) (fun j G2 => cD o (restS D j) G2 ∧ fr o G G2) _ 0 c ?_ ?_ (by omega) (n := FU) (fu_lt (by omega)) ⟨h, fr_refl⟩
    · intro f j G2 h3 h5 ⟨i1, i2⟩
      obtain ⟨G', g, c1, f1⟩ := heat_ok (k := iN 4) ho (wf_rest (k := j) hw) qR_0 i1
      refine ⟨G', ⟨c1, fr_tr i2 f1⟩, ?_⟩
      show f_X0_restFor_l2_3 o (iN c) (f + 1) (iN j) G2 = _
      conv => lhs; unfold f_X0_restFor_l2_3
      simp (disch := omega) only [chk_t, beq_self_eq_true, nm_s, bj1_s, bj2_s, bj3_s, mo_1, mo_0, l_0, l_1, l_2, l_3, l_4, l_5, l_6, l_7, l_8, l_9, l_10, l_11, l_12, l_13, l_14, l_15, l_16, l_17, l_18, l_19, l_20, l_21, l_24, l_30, l_31, l_32, l_36, l_40, l_41, l_42, l_43, l_44, l_45, l_46, l_47, l_48, l_49, l_50, l_51, l_52, l_57, l_58, l_60, l_61, l_64, l_72, l_80, l_92, l_98, l_99, l_100, l_102, l_105, l_111, l_112, l_114, l_115, l_116, l_117, l_120, l_144, l_200, l_201, l_240, l_300, l_320, l_400, l_500, l_512, l_550, l_560, l_649, l_650, l_1000, l_1032, l_1400, l_2000, l_4000, l_10000, l_268435455, iN_add, iN_sub, iN_mul, iN_le_t, iN_le_f, iN_lt_t, iN_lt_f, iN_eq_f, inb_iN, ix_iN, isZ_0, isZ_1, ↓reduceIte, eq_self, g]
    · intro f G2 ⟨i1, i2⟩
      refine ⟨G2, ?_, i1, i2⟩
      show f_X0_restFor_l2_3 o (iN c) (f + 1) (iN c) G2 = _
      unfold f_X0_restFor_l2_3
      simp (disch := omega) only [chk_t, beq_self_eq_true, nm_s, bj1_s, bj2_s, bj3_s, mo_1, mo_0, l_0, l_1, l_2, l_3, l_4, l_5, l_6, l_7, l_8, l_9, l_10, l_11, l_12, l_13, l_14, l_15, l_16, l_17, l_18, l_19, l_20, l_21, l_24, l_30, l_31, l_32, l_36, l_40, l_41, l_42, l_43, l_44, l_45, l_46, l_47, l_48, l_49, l_50, l_51, l_52, l_57, l_58, l_60, l_61, l_64, l_72, l_80, l_92, l_98, l_99, l_100, l_102, l_105, l_111, l_112, l_114, l_115, l_116, l_117, l_120, l_144, l_200, l_201, l_240, l_300, l_320, l_400, l_500, l_512, l_550, l_560, l_649, l_650, l_1000, l_1032, l_1400, l_2000, l_4000, l_10000, l_268435455, iN_add, iN_sub, iN_mul, iN_le_t, iN_le_f, iN_lt_t, iN_lt_f, iN_eq_f, inb_iN, ix_iN, isZ_0, isZ_1, ↓reduceIte, eq_self]
  obtain ⟨A, hA, cA, fA⟩ := hL
  refine ⟨A, ?_, cA, fA⟩
  unfold f_X0_restFor
  simp (disch := omega) only [chk_t, beq_self_eq_true, nm_s, bj1_s, bj2_s, bj3_s, mo_1, mo_0, l_0, l_1, l_2, l_3, l_4, l_5, l_6, l_7, l_8, l_9, l_10, l_11, l_12, l_13, l_14, l_15, l_16, l_17, l_18, l_19, l_20, l_21, l_24, l_30, l_31, l_32, l_36, l_40, l_41, l_42, l_43, l_44, l_45, l_46, l_47, l_48, l_49, l_50, l_51, l_52, l_57, l_58, l_60, l_61, l_64, l_72, l_80, l_92, l_98, l_99, l_100, l_102, l_105, l_111, l_112, l_114, l_115, l_116, l_117, l_120, l_144, l_200, l_201, l_240, l_300, l_320, l_400, l_500, l_512, l_550, l_560, l_649, l_650, l_1000, l_1032, l_1400, l_2000, l_4000, l_10000, l_268435455, iN_add, iN_sub, iN_mul, iN_le_t, iN_le_f, iN_lt_t, iN_lt_f, iN_eq_f, inb_iN, ix_iN, isZ_0, isZ_1, ↓reduceIte, eq_self, kd_b ho, hA]
/-- the greatest warmth of the middle in so many ticks of rest -/
def grS (D : Nat → Int32) : Nat → Int32
  | 0 => midW D
  | k + 1 => if midW (restS D (k + 1)) < grS D k then grS D k else midW (restS D (k + 1))
theorem great_ok {o n c : Nat} {D : Nat → Int32} {G : G_} (ho : kd o = 0) (hw : wfD D n) (hc : c ≤ 700) (h : cD o D G) : ∃ G', f_X0_greatestAtRest o (iN c) G = some (grS D c, G') ∧ cD o (restS D c) G' ∧ fr o G G' := by
  have hL : ∃ r, f_X0_greatestAtRest_l7_6 o (iN c) FU (midW D) (iN 0) G = some r ∧ r.1 = grS D c ∧ cD o (restS D c) r.2 ∧ fr o G r.2 := by
    refine loop_h (fun n v (s : Int32 × G_) => f_X0_greatestAtRest_l7_6 o (iN c) n s.1 v s.2) (fun j s => s.1 = grS D j ∧ cD o (restS D j) s.2 ∧ fr o G s.2) _ 0 c ?_ ?_ (by omega) (n := FU) (fu_lt (by omega)) (s := (midW D, G)) ⟨rfl, h, fr_refl⟩
    · intro f j ⟨x, G2⟩ h3 h5 ⟨i0, i1, i2⟩
      obtain ⟨G', g, c1, f1⟩ := heat_ok (k := iN 4) ho (wf_rest (k := j) hw) qR_0 i1
      refine ⟨(grS D (j + 1), G'), ⟨rfl, c1, fr_tr i2 f1⟩, ?_⟩
      have i0 : x = grS D j := i0
      have e := midW_ok ho (wf_rest (k := j + 1) hw).1 c1
      show f_X0_greatestAtRest_l7_6 o (iN c) (f + 1) x (iN j) G2 = f_X0_greatestAtRest_l7_6 o (iN c) f (grS D (j + 1)) (iN (j + 1)) G'
      conv => lhs; unfold f_X0_greatestAtRest_l7_6
      simp (disch := omega) only [chk_t, beq_self_eq_true, nm_s, bj1_s, bj2_s, bj3_s, mo_1, mo_0, l_0, l_1, l_2, l_3, l_4, l_5, l_6, l_7, l_8, l_9, l_10, l_11, l_12, l_13, l_14, l_15, l_16, l_17, l_18, l_19, l_20, l_21, l_24, l_30, l_31, l_32, l_36, l_40, l_41, l_42, l_43, l_44, l_45, l_46, l_47, l_48, l_49, l_50, l_51, l_52, l_57, l_58, l_60, l_61, l_64, l_72, l_80, l_92, l_98, l_99, l_100, l_102, l_105, l_111, l_112, l_114, l_115, l_116, l_117, l_120, l_144, l_200, l_201, l_240, l_300, l_320, l_400, l_500, l_512, l_550, l_560, l_649, l_650, l_1000, l_1032, l_1400, l_2000, l_4000, l_10000, l_268435455, iN_add, iN_sub, iN_mul, iN_le_t, iN_le_f, iN_lt_t, iN_lt_f, iN_eq_f, inb_iN, ix_iN, isZ_0, isZ_1, ↓reduceIte, eq_self, g, e, i0, mx_com]
      rfl
    · intro f ⟨x, G2⟩ ⟨i0, i1, i2⟩
      refine ⟨(x, G2), ?_, i0, i1, i2⟩
      show f_X0_greatestAtRest_l7_6 o (iN c) (f + 1) x (iN c) G2 = _
      unfold f_X0_greatestAtRest_l7_6
      simp (disch := omega) only [chk_t, beq_self_eq_true, nm_s, bj1_s, bj2_s, bj3_s, mo_1, mo_0, l_0, l_1, l_2, l_3, l_4, l_5, l_6, l_7, l_8, l_9, l_10, l_11, l_12, l_13, l_14, l_15, l_16, l_17, l_18, l_19, l_20, l_21, l_24, l_30, l_31, l_32, l_36, l_40, l_41, l_42, l_43, l_44, l_45, l_46, l_47, l_48, l_49, l_50, l_51, l_52, l_57, l_58, l_60, l_61, l_64, l_72, l_80, l_92, l_98, l_99, l_100, l_102, l_105, l_111, l_112, l_114, l_115, l_116, l_117, l_120, l_144, l_200, l_201, l_240, l_300, l_320, l_400, l_500, l_512, l_550, l_560, l_649, l_650, l_1000, l_1032, l_1400, l_2000, l_4000, l_10000, l_268435455, iN_add, iN_sub, iN_mul, iN_le_t, iN_le_f, iN_lt_t, iN_lt_f, iN_eq_f, inb_iN, ix_iN, isZ_0, isZ_1, ↓reduceIte, eq_self]
  obtain ⟨⟨x, A⟩, hA, e0, cA, fA⟩ := hL
  refine ⟨A, ?_, cA, fA⟩
  have e0 : x = grS D c := e0
  have hA' : f_X0_greatestAtRest_l7_6 o (iN c) FU (midW D) (iN 0) G = some (x, A) := hA
  unfold f_X0_greatestAtRest
  simp (disch := omega) only [chk_t, beq_self_eq_true, nm_s, bj1_s, bj2_s, bj3_s, mo_1, mo_0, l_0, l_1, l_2, l_3, l_4, l_5, l_6, l_7, l_8, l_9, l_10, l_11, l_12, l_13, l_14, l_15, l_16, l_17, l_18, l_19, l_20, l_21, l_24, l_30, l_31, l_32, l_36, l_40, l_41, l_42, l_43, l_44, l_45, l_46, l_47, l_48, l_49, l_50, l_51, l_52, l_57, l_58, l_60, l_61, l_64, l_72, l_80, l_92, l_98, l_99, l_100, l_102, l_105, l_111, l_112, l_114, l_115, l_116, l_117, l_120, l_144, l_200, l_201, l_240, l_300, l_320, l_400, l_500, l_512, l_550, l_560, l_649, l_650, l_1000, l_1032, l_1400, l_2000, l_4000, l_10000, l_268435455, iN_add, iN_sub, iN_mul, iN_le_t, iN_le_f, iN_lt_t, iN_lt_f, iN_eq_f, inb_iN, ix_iN, isZ_0, isZ_1, ↓reduceIte, eq_self, kd_b ho, midW_ok ho hw.1 h, hA', e0]
/-- the first tick at which something holds, or none -/
def tillF (P : Nat → Bool) : Nat → Nat → Int32
  | 0, _ => -iN 9
  | f + 1, k => if P (k + 1) = true then iN (k + 1) else tillF P f (k + 1)
def tillS (q t v : Int32) (D : Nat → Int32) : Int32 := tillF (fun k => !decide (midM (wayS q t D k) < v)) 200 0
theorem till_ok {o a n : Nat} {X : Nat → Int32} {G : G_} {q t v : Int32} (ho : kd o = 0) (ha : kd a = 5) (hd : a < o ∨ o + 11 ≤ a) (hs : slR X n) (h4 : X 4 = iN 0) (h1 : G.1 a 2 = X 1) (h2 : G.1 a 3 = X 2) (h3 : G.1 a 4 = X 3) (hq : qR q) (ht : 1 ≤ t.toInt) :
    ∃ G', f_X0_ticksTill o a (iN n) q t v G = some (tillS q t v (bgS X), G') ∧ fr o G G' := by
  obtain ⟨B, hB, cB, fB⟩ := begin_ok ho ha hd hs.1 h1 h3 h4
  have wf0 := wf_bg hs (by unfold mD; rw [h4]; decide)
  have key := loop_iv (fun n v' s => f_X0_ticksTill_l13_5 o q t v n v' s) (fun j G2 => 1 ≤ j ∧ tillF (fun k => !decide (midM (wayS q t (bgS X) k) < v)) (201 - j) (j - 1) = tillS q t v (bgS X) ∧ cD o (wayS q t (bgS X) (j - 1)) G2 ∧ fr o B G2)
    (fun r => ∃ G', r = some (tillS q t v (bgS X), G') ∧ fr o B G') 1 201 ?_ ?_ (by omega) (n := FU) (fu_lt (by omega)) (s := B) ⟨by omega, rfl, cB, fr_refl⟩
  · obtain ⟨G', hG, fG⟩ := key
    refine ⟨G', ?_, fr_tr fB fG⟩
    have hG' : f_X0_ticksTill_l13_5 o q t v FU (iN 1) B = some (tillS q t v (bgS X), G') := hG
    unfold f_X0_ticksTill
    simp (disch := omega) only [chk_t, beq_self_eq_true, nm_s, bj1_s, bj2_s, bj3_s, mo_1, mo_0, l_0, l_1, l_2, l_3, l_4, l_5, l_6, l_7, l_8, l_9, l_10, l_11, l_12, l_13, l_14, l_15, l_16, l_17, l_18, l_19, l_20, l_21, l_24, l_30, l_31, l_32, l_36, l_40, l_41, l_42, l_43, l_44, l_45, l_46, l_47, l_48, l_49, l_50, l_51, l_52, l_57, l_58, l_60, l_61, l_64, l_72, l_80, l_92, l_98, l_99, l_100, l_102, l_105, l_111, l_112, l_114, l_115, l_116, l_117, l_120, l_144, l_200, l_201, l_240, l_300, l_320, l_400, l_500, l_512, l_550, l_560, l_649, l_650, l_1000, l_1032, l_1400, l_2000, l_4000, l_10000, l_268435455, iN_add, iN_sub, iN_mul, iN_le_t, iN_le_f, iN_lt_t, iN_lt_f, iN_eq_f, inb_iN, ix_iN, isZ_0, isZ_1, ↓reduceIte, eq_self, kd_b ho, kd_b ha, h2, hB, hG']
  · intro f j G2 h3 h5 ⟨_, i0, i1, i2⟩
    obtain ⟨k, rfl⟩ : ∃ k, j = k + 1 := ⟨j - 1, by omega⟩
    rw [show k + 1 - 1 = k by omega] at i0 i1
    obtain ⟨G', g, c1, f1⟩ := goByWay_ok (k := k) (q := q) (t := t) ho (wf_way (k := k) (t := t) wf0 hq) hq ht (way_43 wf0 hq (bg_41 (by omega) (by omega))) i1
    have em := midM_ok ho (wf_way (k := k + 1) (t := t) wf0 hq).1 c1
    rw [show 201 - (k + 1) = (200 - (k + 1)) + 1 by omega] at i0
    unfold tillF at i0
    by_cases c : midM (wayS q t (bgS X) (k + 1)) < v
    · left
      refine ⟨G', ⟨by omega, ?_, c1, fr_tr i2 f1⟩, ?_⟩
      · rw [if_neg (by rw [decide_eq_true c]; decide)] at i0
        rw [show 201 - (k + 1 + 1) = 200 - (k + 1) by omega]
        exact i0
      · show f_X0_ticksTill_l13_5 o q t v (f + 1) (iN (k + 1)) G2 = f_X0_ticksTill_l13_5 o q t v f (iN (k + 1 + 1)) G'
        conv => lhs; unfold f_X0_ticksTill_l13_5
        simp (disch := omega) only [chk_t, beq_self_eq_true, nm_s, bj1_s, bj2_s, bj3_s, mo_1, mo_0, l_0, l_1, l_2, l_3, l_4, l_5, l_6, l_7, l_8, l_9, l_10, l_11, l_12, l_13, l_14, l_15, l_16, l_17, l_18, l_19, l_20, l_21, l_24, l_30, l_31, l_32, l_36, l_40, l_41, l_42, l_43, l_44, l_45, l_46, l_47, l_48, l_49, l_50, l_51, l_52, l_57, l_58, l_60, l_61, l_64, l_72, l_80, l_92, l_98, l_99, l_100, l_102, l_105, l_111, l_112, l_114, l_115, l_116, l_117, l_120, l_144, l_200, l_201, l_240, l_300, l_320, l_400, l_500, l_512, l_550, l_560, l_649, l_650, l_1000, l_1032, l_1400, l_2000, l_4000, l_10000, l_268435455, iN_add, iN_sub, iN_mul, iN_le_t, iN_le_f, iN_lt_t, iN_lt_f, iN_eq_f, inb_iN, ix_iN, isZ_0, isZ_1, ↓reduceIte, eq_self, g, em, if_pos c]
    · right
      rw [if_pos (by rw [decide_eq_false c]; decide)] at i0
      refine ⟨G', ?_, fr_tr i2 f1⟩
      show f_X0_ticksTill_l13_5 o q t v (f + 1) (iN (k + 1)) G2 = _
      unfold f_X0_ticksTill_l13_5
      simp (disch := omega) only [chk_t, beq_self_eq_true, nm_s, bj1_s, bj2_s, bj3_s, mo_1, mo_0, l_0, l_1, l_2, l_3, l_4, l_5, l_6, l_7, l_8, l_9, l_10, l_11, l_12, l_13, l_14, l_15, l_16, l_17, l_18, l_19, l_20, l_21, l_24, l_30, l_31, l_32, l_36, l_40, l_41, l_42, l_43, l_44, l_45, l_46, l_47, l_48, l_49, l_50, l_51, l_52, l_57, l_58, l_60, l_61, l_64, l_72, l_80, l_92, l_98, l_99, l_100, l_102, l_105, l_111, l_112, l_114, l_115, l_116, l_117, l_120, l_144, l_200, l_201, l_240, l_300, l_320, l_400, l_500, l_512, l_550, l_560, l_649, l_650, l_1000, l_1032, l_1400, l_2000, l_4000, l_10000, l_268435455, iN_add, iN_sub, iN_mul, iN_le_t, iN_le_f, iN_lt_t, iN_lt_f, iN_eq_f, inb_iN, ix_iN, isZ_0, isZ_1, ↓reduceIte, eq_self, g, em, if_neg c]
      rw [i0]
  · intro f G2 ⟨_, i0, i1, i2⟩
    refine ⟨G2, ?_, i2⟩
    show f_X0_ticksTill_l13_5 o q t v (f + 1) (iN 201) G2 = _
    rw [← i0]
    unfold f_X0_ticksTill_l13_5
    simp (disch := omega) only [chk_t, beq_self_eq_true, nm_s, bj1_s, bj2_s, bj3_s, mo_1, mo_0, l_0, l_1, l_2, l_3, l_4, l_5, l_6, l_7, l_8, l_9, l_10, l_11, l_12, l_13, l_14, l_15, l_16, l_17, l_18, l_19, l_20, l_21, l_24, l_30, l_31, l_32, l_36, l_40, l_41, l_42, l_43, l_44, l_45, l_46, l_47, l_48, l_49, l_50, l_51, l_52, l_57, l_58, l_60, l_61, l_64, l_72, l_80, l_92, l_98, l_99, l_100, l_102, l_105, l_111, l_112, l_114, l_115, l_116, l_117, l_120, l_144, l_200, l_201, l_240, l_300, l_320, l_400, l_500, l_512, l_550, l_560, l_649, l_650, l_1000, l_1032, l_1400, l_2000, l_4000, l_10000, l_268435455, iN_add, iN_sub, iN_mul, iN_le_t, iN_le_f, iN_lt_t, iN_lt_f, iN_eq_f, inb_iN, ix_iN, isZ_0, isZ_1, ↓reduceIte, eq_self]
    rfl
/-! the reference: what is told of a dish; begun, by a way, rests -/
/-- what was up in the latest tick on iron -/
def upOK (D : Nat → Int32) : Prop := (D 45 = iN 1 → D 46 = iN 1 - D 44) ∧ (D 44 = iN 0 ∨ D 44 = iN 1)
theorem wayT_lo {k n : Nat} {q t : Int32} {D : Nat → Int32} {p : Nat} (hn : okN D n) (hp : p < 41 ∨ 112 ≤ p) : wayT k q t D p = D p := by
  unfold wayT
  have key : ∀ E : Nat → Int32, okN E n → E p = D p → tickS (iN 1) q E p = D p := by
    intro E h1 h2
    rcases hp with h | h
    · rw [tickS_lo (by omega)]; exact h2
    · rw [tickS_far h1 h]; exact h2
  split
  · exact key _ hn rfl
  · split
    · exact key _ (okN_keep hn (up_ne (by omega))) (up_ne (by omega))
    · exact key _ hn rfl
theorem okN_wayT {k n : Nat} {q t : Int32} {D : Nat → Int32} (hn : okN D n) : okN (wayT k q t D) n := okN_keep hn (wayT_lo hn (by omega))
theorem okN_way {k n : Nat} {q t : Int32} {D : Nat → Int32} (hn : okN D n) : okN (wayS q t D k) n := by
  induction k with
  | zero => exact hn
  | succ k ih => exact okN_wayT ih
theorem way_lo {k n : Nat} {q t : Int32} {D : Nat → Int32} {p : Nat} (hn : okN D n) (hp : p < 41 ∨ 112 ≤ p) : wayS q t D k p = D p := by
  induction k with
  | zero => rfl
  | succ k ih =>
    show wayT k q t (wayS q t D k) p = D p
    rw [wayT_lo (okN_way hn) hp, ih]
theorem okN_bg {X : Nat → Int32} {n : Nat} (hn : okN X n) : okN (bgS X) n := okN_keep hn (bg_lo (by omega))
theorem bg_keep {X : Nat → Int32} {p : Nat} (hp : p < 41 ∨ 112 ≤ p) : bgS X p = X p := by
  rcases hp with h | h
  · exact bg_lo h
  · exact bg_hi h
theorem okN_rest {k n : Nat} {D : Nat → Int32} (hn : okN D n) : okN (restS D k) n := by
  induction k with
  | zero => exact hn
  | succ k ih => exact okN_keep ih (tickS_lo (by omega))
theorem rest_lo {k n : Nat} {D : Nat → Int32} {p : Nat} (hn : okN D n) (hp : p < 41 ∨ 112 ≤ p) : restS D k p = D p := by
  induction k with
  | zero => rfl
  | succ k ih =>
    show tickS (iN 4) (iN 0) (restS D k) p = D p
    rcases hp with h | h
    · rw [tickS_lo (by omega), ih]
    · rw [tickS_far (okN_rest hn) h, ih]
/-! plans: what comes at once, going by steps; both sides -/
def onc1 (D : Nat → Int32) : Nat → Int32 := up (if D (5 + 3 * ix (D 41)) = iN 5 then up D 44 (iN 1 - D 44) else up (up D 48 (iN 0)) 49 (iN 0)) 41 (D 41 + iN 1)
def onceS : Nat → (Nat → Int32) → Nat → Int32
  | 0, D => D
  | f + 1, D => if D 4 ≤ D 41 then D else if D (5 + 3 * ix (D 41)) ≤ iN 4 then D else onceS f (onc1 D)
def stOK (D : Nat → Int32) (i : Nat) : Prop := ∃ a b c : Nat, D (5 + 3 * i) = iN a ∧ D (5 + 3 * i + 1) = iN b ∧ D (5 + 3 * i + 2) = iN c ∧ 1 ≤ a ∧ a ≤ 6 ∧ b ≤ 30 ∧ c ≤ 60 ∧ (a ≤ 4 → 1 ≤ c)
def plD (D : Nat → Int32) (mm at_ g : Nat) : Prop := D 4 = iN mm ∧ mm ≤ 12 ∧ D 41 = iN at_ ∧ at_ ≤ mm ∧ D 42 = iN g ∧ (∀ i, i < mm → stOK D i) ∧ (g = 0 ∨ (at_ < mm ∧ ∃ a c : Nat, D (5 + 3 * at_) = iN a ∧ a ≤ 4 ∧ D (5 + 3 * at_ + 2) = iN c ∧ g < c ∧ c ≤ 60))
theorem onc1_p {D : Nat → Int32} {p : Nat} (h1 : p ≠ 41) (h2 : p ≠ 44) (h3 : p ≠ 48) (h4 : p ≠ 49) : onc1 D p = D p := by
  unfold onc1
  rw [up_ne h1]
  split
  · rw [up_ne h2]
  · rw [up_ne h4, up_ne h3]
theorem onc1_41 {D : Nat → Int32} : onc1 D 41 = D 41 + iN 1 := up_eq
theorem stOK_keep {D D' : Nat → Int32} {i : Nat} (h : stOK D i) (hi : i < 12) (e : ∀ p, p < 41 → D' p = D p) : stOK D' i := by
  obtain ⟨a, b, c, h1, h2, h3, h4⟩ := h
  exact ⟨a, b, c, by rw [e _ (by omega)]; exact h1, by rw [e _ (by omega)]; exact h2, by rw [e _ (by omega)]; exact h3, h4⟩
theorem plD_onc1 {D : Nat → Int32} {mm at_ g a : Nat} (h : plD D mm at_ g) (hlt : at_ < mm) (ha : D (5 + 3 * at_) = iN a) (h4 : 4 < a) (h6 : a ≤ 6) : plD (onc1 D) mm (at_ + 1) g ∧ g = 0 := by
  obtain ⟨p1, p2, p3, p4, p5, p6, p7⟩ := h
  have g0 : g = 0 := by
    rcases p7 with h | ⟨-, a', c, e1, e2, -⟩
    · exact h
    · rw [ha, iN_inj (by omega) (by omega)] at e1
      omega
  refine ⟨⟨by rw [onc1_p (by omega) (by omega) (by omega) (by omega)]; exact p1, p2, by rw [onc1_41, p3, iN_add], by omega, by rw [onc1_p (by omega) (by omega) (by omega) (by omega)]; exact p5, fun i hi => stOK_keep (p6 i hi) (by omega) (fun p hp => onc1_p (by omega) (by omega) (by omega) (by omega)), Or.inl g0⟩, g0⟩
theorem wf_onc1 {D : Nat → Int32} {n : Nat} (h : wfD D n) : wfD (onc1 D) n := by
  unfold onc1
  refine wf_up ?_ (by omega) (by omega) (by omega)
  split
  · exact wf_up h (by omega) (by omega) (by omega)
  · exact wf_up (wf_up h (by omega) (by omega) (by omega)) (by omega) (by omega) (by omega)
theorem once_p {f : Nat} {D : Nat → Int32} {p : Nat} (h1 : p ≠ 41) (h2 : p ≠ 44) (h3 : p ≠ 48) (h4 : p ≠ 49) : onceS f D p = D p := by
  induction f generalizing D with
  | zero => rfl
  | succ f ih =>
    unfold onceS
    split
    · rfl
    · split
      · rfl
      · rw [ih, onc1_p h1 h2 h3 h4]
theorem wf_once {f n : Nat} {D : Nat → Int32} (h : wfD D n) : wfD (onceS f D) n := by
  induction f generalizing D with
  | zero => exact h
  | succ f ih =>
    unfold onceS
    split
    · exact h
    · split
      · exact h
      · exact ih (wf_onc1 h)
/-- a place of the steps: at its end, a step that goes on, or one that is done at once -/
theorem pl_cases {D : Nat → Int32} {mm at_ g : Nat} (h : plD D mm at_ g) : (at_ = mm ∧ (D 4 ≤ D 41) = True) ∨ (at_ < mm ∧ (D 4 ≤ D 41) = False ∧ ∃ a : Nat, D (5 + 3 * ix (D 41)) = iN a ∧ D (5 + 3 * at_) = iN a ∧ 1 ≤ a ∧ a ≤ 6) := by
  obtain ⟨p1, p2, p3, p4, p5, p6, p7⟩ := h
  by_cases c : at_ = mm
  · left
    refine ⟨c, ?_⟩
    rw [p1, p3, iN_le_t (by omega) (by omega)]
  · right
    obtain ⟨a, b, c', h1, h2, h3, h4, h5, -⟩ := p6 at_ (by omega)
    refine ⟨by omega, ?_, a, ?_, h1, h4, h5⟩
    · rw [p1, p3, iN_le_f (by omega) (by omega)]
    · rw [p3, ix_iN (by omega)]; exact h1
theorem once_end {f mm : Nat} {D : Nat → Int32} {at_ g : Nat} (h : plD D mm at_ g) (hf : mm - at_ ≤ f) : ∃ at', plD (onceS f D) mm at' g ∧ (at' = mm ∨ (at' < mm ∧ ∃ a, onceS f D (5 + 3 * at') = iN a ∧ 1 ≤ a ∧ a ≤ 4)) := by
  induction f generalizing D at_ with
  | zero =>
    have := h.2.2.2.1
    exact ⟨at_, h, Or.inl (by omega)⟩
  | succ f ih =>
    unfold onceS
    rcases pl_cases h with ⟨c, e⟩ | ⟨c, e, a, e1, e2, e3, e4⟩
    · rw [if_pos (of_eq_true e)]
      exact ⟨at_, h, Or.inl c⟩
    · rw [if_neg (of_eq_false e), e1]
      by_cases c2 : a ≤ 4
      · rw [if_pos ((iN_le (by omega) (by omega)).mpr c2)]
        exact ⟨at_, h, Or.inr ⟨c, a, e2, e3, c2⟩⟩
      · rw [if_neg (fun x => c2 ((iN_le (by omega) (by omega)).mp x))]
        exact ih (plD_onc1 h c e2 (by omega) e4).1 (by omega)
theorem once_more {f f' mm : Nat} {D : Nat → Int32} {at_ g : Nat} (h : plD D mm at_ g) (hf : mm - at_ ≤ f) (hf' : mm - at_ ≤ f') : onceS f D = onceS f' D := by
  have stop : ∀ (f : Nat) (D : Nat → Int32) (at_ : Nat), plD D mm at_ g → mm - at_ = 0 → onceS f D = D := by
    intro f D at_ h h0
    cases f with
    | zero => rfl
    | succ f =>
      unfold onceS
      rcases pl_cases h with ⟨c, e⟩ | ⟨c, _⟩
      · rw [if_pos (of_eq_true e)]
      · omega
  induction f generalizing D at_ f' with
  | zero => rw [stop 0 D at_ h (by omega), stop f' D at_ h (by omega)]
  | succ f ih =>
    cases f' with
    | zero => rw [stop _ D at_ h (by omega), stop 0 D at_ h (by omega)]
    | succ f' =>
      unfold onceS
      rcases pl_cases h with ⟨c, e⟩ | ⟨c, e, a, e1, e2, e3, e4⟩
      · rw [if_pos (of_eq_true e), if_pos (of_eq_true e)]
      · rw [if_neg (of_eq_false e), if_neg (of_eq_false e), e1]
        by_cases c2 : a ≤ 4
        · rw [if_pos ((iN_le (by omega) (by omega)).mpr c2), if_pos ((iN_le (by omega) (by omega)).mpr c2)]
        · rw [if_neg (fun x => c2 ((iN_le (by omega) (by omega)).mp x)), if_neg (fun x => c2 ((iN_le (by omega) (by omega)).mp x))]
          exact ih (plD_onc1 h c e2 (by omega) e4).1 (by omega) (by omega)
-- the reference
def go1 (D : Nat → Int32) : Nat → Int32 :=
  if onceS 12 D 41 = onceS 12 D 4 then tickS (iN 4) (iN 0) (onceS 12 D)
  else if onceS 12 D 42 + iN 1 = onceS 12 D (5 + 3 * ix (onceS 12 D 41) + 2) then up (up (tickS (onceS 12 D (5 + 3 * ix (onceS 12 D 41))) (onceS 12 D (5 + 3 * ix (onceS 12 D 41) + 1)) (onceS 12 D)) 42 (iN 0)) 41 (onceS 12 D 41 + iN 1)
  else up (tickS (onceS 12 D (5 + 3 * ix (onceS 12 D 41))) (onceS 12 D (5 + 3 * ix (onceS 12 D 41) + 1)) (onceS 12 D)) 42 (onceS 12 D 42 + iN 1)
def goS (D : Nat → Int32) : Nat → Nat → Int32
  | 0 => D
  | k + 1 => go1 (goS D k)
/-- a dish that goes by its steps -/
def gD (D : Nat → Int32) (n mm : Nat) : Prop := wfD D n ∧ ∃ at_ g, plD D mm at_ g
theorem qR_N {b : Nat} (h : b ≤ 30) : qR (iN b) := ⟨by rw [li (by omega)]; omega, by rw [li (by omega)]; omega⟩
theorem plD_tick {D : Nat → Int32} {mm at_ g : Nat} {k q : Int32} (h : plD D mm at_ g) : plD (tickS k q D) mm at_ g := by
  obtain ⟨p1, p2, p3, p4, p5, p6, p7⟩ := h
  have e : ∀ p, p < 43 → tickS k q D p = D p := fun p hp => tickS_lo (by omega)
  refine ⟨by rw [e _ (by omega)]; exact p1, p2, by rw [e _ (by omega)]; exact p3, p4, by rw [e _ (by omega)]; exact p5, fun i hi => stOK_keep (p6 i hi) (by omega) (fun p hp => e p (by omega)), ?_⟩
  rcases p7 with h | ⟨h, a, c, h1, h2, h3, h4⟩
  · exact Or.inl h
  · exact Or.inr ⟨h, a, c, by rw [e _ (by omega)]; exact h1, h2, by rw [e _ (by omega)]; exact h3, h4⟩
theorem up_up {D : Nat → Int32} {p : Nat} {x y : Int32} : up (up D p x) p y = up D p y := by
  funext q
  unfold up
  split <;> rfl
/-- one tick by the steps, in its cases -/
theorem go1_cases {D : Nat → Int32} {n mm : Nat} (h : gD D n mm) : ∃ E at_ g, E = onceS 12 D ∧ wfD E n ∧ plD E mm at_ g ∧ mm ≤ 12 ∧
    ((at_ = mm ∧ go1 D = tickS (iN 4) (iN 0) E ∧ (iN at_ = iN mm) = True) ∨
     (at_ < mm ∧ ∃ a b c : Nat, E (5 + 3 * at_) = iN a ∧ E (5 + 3 * at_ + 1) = iN b ∧ E (5 + 3 * at_ + 2) = iN c ∧ 1 ≤ a ∧ a ≤ 4 ∧ b ≤ 30 ∧ c ≤ 60 ∧ g < c ∧ (iN at_ = iN mm) = False ∧
      go1 D = if g + 1 = c then up (up (tickS (iN a) (iN b) E) 42 (iN 0)) 41 (iN (at_ + 1)) else up (tickS (iN a) (iN b) E) 42 (iN (g + 1)))) := by
  obtain ⟨hw, at0, g, hp⟩ := h
  obtain ⟨at_, hp1, hc⟩ := once_end (f := 12) hp (by have := hp.2.1; omega)
  refine ⟨onceS 12 D, at_, g, rfl, wf_once hw, hp1, hp.2.1, ?_⟩
  unfold go1
  generalize hE : onceS 12 D = E at *
  obtain ⟨p1, p2, p3, p4, p5, p6, p7⟩ := hp1
  rcases hc with c | ⟨c, a, e1, e2, e3⟩
  · left
    refine ⟨c, ?_, by rw [c, eq_self]⟩
    rw [p1, p3, c, if_pos rfl]
  · right
    obtain ⟨a', b, c', h1, h2, h3, h4, h5, h6, h7, h8⟩ := p6 at_ c
    have ea : a' = a := (iN_inj (by omega) (by omega)).mp (h1.symm.trans e1)
    subst ea
    have hg : g < c' := by
      rcases p7 with h | ⟨-, a2, c2, -, -, h10, h11, h12⟩
      · have := h8 e3; omega
      · rw [h3, iN_inj (by omega) (by omega)] at h10
        omega
    have ef : (iN at_ = iN mm) = False := iN_eq_f (by omega) (by omega) (by omega)
    refine ⟨c, a', b, c', h1, h2, h3, e2, e3, h6, h7, hg, ef, ?_⟩
    rw [p1, p3, if_neg (of_eq_false ef), ix_iN (by omega), h1, h2, h3, p5, iN_add, iN_add]
    by_cases c9 : g + 1 = c'
    · rw [if_pos c9, if_pos (by rw [c9])]
    · rw [if_neg c9, if_neg (of_eq_false (iN_eq_f c9 (by omega) (by omega)))]
theorem gD_go1 {D : Nat → Int32} {n mm : Nat} (h : gD D n mm) : gD (go1 D) n mm := by
  obtain ⟨E, at_, g, eE, hw, hp, hm, ⟨c, e, -⟩ | ⟨c, a, b, c', h1, h2, h3, h4, h5, h6, h7, h8, -, e⟩⟩ := go1_cases h
  · rw [e]
    exact ⟨wf_tick hw qR_0, at_, g, plD_tick hp⟩
  · have hw1 := wf_tick (k := iN a) hw (qR_N h6)
    obtain ⟨p1, p2, p3, p4, p5, p6, p7⟩ := plD_tick (k := iN a) (q := iN b) hp
    have e0 : ∀ p, p < 43 → tickS (iN a) (iN b) E p = E p := fun p hp => tickS_lo (by omega)
    rw [e]
    by_cases c9 : g + 1 = c'
    · rw [if_pos c9]
      refine ⟨wf_up (wf_up hw1 (by omega) (by omega) (by omega)) (by omega) (by omega) (by omega), at_ + 1, 0, ?_, p2, up_eq, by omega, ?_, fun i hi => stOK_keep (p6 i hi) (by omega) (fun p hp => by rw [up_ne (by omega), up_ne (by omega)]), Or.inl rfl⟩
      · rw [up_ne (by omega), up_ne (by omega)]; exact p1
      · rw [up_ne (by omega), up_eq]
    · rw [if_neg c9]
      refine ⟨wf_up hw1 (by omega) (by omega) (by omega), at_, g + 1, ?_, p2, ?_, p4, up_eq, fun i hi => stOK_keep (p6 i hi) (by omega) (fun p hp => by rw [up_ne (by omega)]), Or.inr ⟨c, a, c', ?_, h5, ?_, by omega, h7⟩⟩
      · rw [up_ne (by omega)]; exact p1
      · rw [up_ne (by omega)]; exact p3
      · rw [up_ne (by omega), e0 _ (by omega)]; exact h1
      · rw [up_ne (by omega), e0 _ (by omega)]; exact h3
theorem gD_go {D : Nat → Int32} {n mm k : Nat} (h : gD D n mm) : gD (goS D k) n mm := by
  induction k with
  | zero => exact h
  | succ k ih => exact gD_go1 ih
theorem go1_lo {D : Nat → Int32} {n mm p : Nat} (h : gD D n mm) (hp : p < 41 ∨ 112 ≤ p) : go1 D p = D p := by
  obtain ⟨E, at_, g, eE, hw, hpl, hm, ⟨c, e, -⟩ | ⟨c, a, b, c', h1, h2, h3, h4, h5, h6, h7, h8, -, e⟩⟩ := go1_cases h
  · have e9 : E p = D p := by rw [eE, once_p (by omega) (by omega) (by omega) (by omega)]
    rw [e]
    rcases hp with h | h
    · rw [tickS_lo (by omega), e9]
    · rw [tickS_far hw.1 h, e9]
  · have e9 : E p = D p := by rw [eE, once_p (by omega) (by omega) (by omega) (by omega)]
    have e8 : tickS (iN a) (iN b) E p = D p := by
      rcases hp with h | h
      · rw [tickS_lo (by omega), e9]
      · rw [tickS_far hw.1 h, e9]
    rw [e]
    split
    · rw [up_ne (by omega), up_ne (by omega), e8]
    · rw [up_ne (by omega), e8]
theorem go_lo {D : Nat → Int32} {n mm p k : Nat} (h : gD D n mm) (hp : p < 41 ∨ 112 ≤ p) : goS D k p = D p := by
  induction k with
  | zero => rfl
  | succ k ih =>
    show go1 (goS D k) p = D p
    rw [go1_lo (gD_go h) hp, ih]
/-! the class: plans copied, what comes at once, going by steps, made by a plan, a dish copied -/
theorem phas_t {p mm i : Nat} {G : G_} (hp : kd p = 2) (hc : G.1 p 4 = iN mm) (hm : mm ≤ 12) (hi : i < mm) : f_X2_has p (iN i) G = some (iN 1) := by
  unfold f_X2_has
  simp (disch := omega) only [chk_t, beq_self_eq_true, nm_s, bj1_s, bj2_s, bj3_s, mo_1, mo_0, l_0, l_1, l_2, l_3, l_4, l_5, l_6, l_7, l_8, l_9, l_10, l_11, l_12, l_13, l_14, l_15, l_16, l_17, l_18, l_19, l_20, l_21, l_24, l_30, l_31, l_32, l_36, l_40, l_41, l_42, l_43, l_44, l_45, l_46, l_47, l_48, l_49, l_50, l_51, l_52, l_57, l_58, l_60, l_61, l_64, l_72, l_80, l_92, l_98, l_99, l_100, l_102, l_105, l_111, l_112, l_114, l_115, l_116, l_117, l_120, l_144, l_200, l_201, l_240, l_300, l_320, l_400, l_500, l_512, l_550, l_560, l_649, l_650, l_1000, l_1032, l_1400, l_2000, l_4000, l_10000, l_268435455, iN_add, iN_sub, iN_mul, iN_le_t, iN_le_f, iN_lt_t, iN_lt_f, iN_eq_f, inb_iN, ix_iN, isZ_0, isZ_1, ↓reduceIte, eq_self, kd_b hp, hc]
theorem phas_f {p mm i : Nat} {G : G_} (hp : kd p = 2) (hc : G.1 p 4 = iN mm) (hm : mm ≤ 12) (hi : mm ≤ i) (h2 : i ≤ 1000) : f_X2_has p (iN i) G = some (iN 0) := by
  unfold f_X2_has
  simp (disch := omega) only [chk_t, beq_self_eq_true, nm_s, bj1_s, bj2_s, bj3_s, mo_1, mo_0, l_0, l_1, l_2, l_3, l_4, l_5, l_6, l_7, l_8, l_9, l_10, l_11, l_12, l_13, l_14, l_15, l_16, l_17, l_18, l_19, l_20, l_21, l_24, l_30, l_31, l_32, l_36, l_40, l_41, l_42, l_43, l_44, l_45, l_46, l_47, l_48, l_49, l_50, l_51, l_52, l_57, l_58, l_60, l_61, l_64, l_72, l_80, l_92, l_98, l_99, l_100, l_102, l_105, l_111, l_112, l_114, l_115, l_116, l_117, l_120, l_144, l_200, l_201, l_240, l_300, l_320, l_400, l_500, l_512, l_550, l_560, l_649, l_650, l_1000, l_1032, l_1400, l_2000, l_4000, l_10000, l_268435455, iN_add, iN_sub, iN_mul, iN_le_t, iN_le_f, iN_lt_t, iN_lt_f, iN_eq_f, inb_iN, ix_iN, isZ_0, isZ_1, ↓reduceIte, eq_self, kd_b hp, hc]
theorem pkind_t {p mm i : Nat} {G : G_} (hp : kd p = 2) (hc : G.1 p 4 = iN mm) (hm : mm ≤ 12) (hi : i < mm) : f_X2_kindAt p (iN i) G = some (G.1 (p + 1) i) := by
  unfold f_X2_kindAt
  simp (disch := omega) only [chk_t, beq_self_eq_true, nm_s, bj1_s, bj2_s, bj3_s, mo_1, mo_0, l_0, l_1, l_2, l_3, l_4, l_5, l_6, l_7, l_8, l_9, l_10, l_11, l_12, l_13, l_14, l_15, l_16, l_17, l_18, l_19, l_20, l_21, l_24, l_30, l_31, l_32, l_36, l_40, l_41, l_42, l_43, l_44, l_45, l_46, l_47, l_48, l_49, l_50, l_51, l_52, l_57, l_58, l_60, l_61, l_64, l_72, l_80, l_92, l_98, l_99, l_100, l_102, l_105, l_111, l_112, l_114, l_115, l_116, l_117, l_120, l_144, l_200, l_201, l_240, l_300, l_320, l_400, l_500, l_512, l_550, l_560, l_649, l_650, l_1000, l_1032, l_1400, l_2000, l_4000, l_10000, l_268435455, iN_add, iN_sub, iN_mul, iN_le_t, iN_le_f, iN_lt_t, iN_lt_f, iN_eq_f, inb_iN, ix_iN, isZ_0, isZ_1, ↓reduceIte, eq_self, kd_b hp, phas_t hp hc hm hi]
theorem pkind_f {p mm i : Nat} {G : G_} (hp : kd p = 2) (hc : G.1 p 4 = iN mm) (hm : mm ≤ 12) (hi : mm ≤ i) (h2 : i ≤ 1000) : f_X2_kindAt p (iN i) G = some (iN 4) := by
  unfold f_X2_kindAt
  simp (disch := omega) only [chk_t, beq_self_eq_true, nm_s, bj1_s, bj2_s, bj3_s, mo_1, mo_0, l_0, l_1, l_2, l_3, l_4, l_5, l_6, l_7, l_8, l_9, l_10, l_11, l_12, l_13, l_14, l_15, l_16, l_17, l_18, l_19, l_20, l_21, l_24, l_30, l_31, l_32, l_36, l_40, l_41, l_42, l_43, l_44, l_45, l_46, l_47, l_48, l_49, l_50, l_51, l_52, l_57, l_58, l_60, l_61, l_64, l_72, l_80, l_92, l_98, l_99, l_100, l_102, l_105, l_111, l_112, l_114, l_115, l_116, l_117, l_120, l_144, l_200, l_201, l_240, l_300, l_320, l_400, l_500, l_512, l_550, l_560, l_649, l_650, l_1000, l_1032, l_1400, l_2000, l_4000, l_10000, l_268435455, iN_add, iN_sub, iN_mul, iN_le_t, iN_le_f, iN_lt_t, iN_lt_f, iN_eq_f, inb_iN, ix_iN, isZ_0, isZ_1, ↓reduceIte, eq_self, kd_b hp, phas_f hp hc hm hi h2]
theorem pheat_t {p mm i : Nat} {G : G_} (hp : kd p = 2) (hc : G.1 p 4 = iN mm) (hm : mm ≤ 12) (hi : i < mm) : f_X2_heatAt p (iN i) G = some (G.1 (p + 2) i) := by
  unfold f_X2_heatAt
  simp (disch := omega) only [chk_t, beq_self_eq_true, nm_s, bj1_s, bj2_s, bj3_s, mo_1, mo_0, l_0, l_1, l_2, l_3, l_4, l_5, l_6, l_7, l_8, l_9, l_10, l_11, l_12, l_13, l_14, l_15, l_16, l_17, l_18, l_19, l_20, l_21, l_24, l_30, l_31, l_32, l_36, l_40, l_41, l_42, l_43, l_44, l_45, l_46, l_47, l_48, l_49, l_50, l_51, l_52, l_57, l_58, l_60, l_61, l_64, l_72, l_80, l_92, l_98, l_99, l_100, l_102, l_105, l_111, l_112, l_114, l_115, l_116, l_117, l_120, l_144, l_200, l_201, l_240, l_300, l_320, l_400, l_500, l_512, l_550, l_560, l_649, l_650, l_1000, l_1032, l_1400, l_2000, l_4000, l_10000, l_268435455, iN_add, iN_sub, iN_mul, iN_le_t, iN_le_f, iN_lt_t, iN_lt_f, iN_eq_f, inb_iN, ix_iN, isZ_0, isZ_1, ↓reduceIte, eq_self, kd_b hp, phas_t hp hc hm hi]
theorem plen_t {p mm i : Nat} {G : G_} (hp : kd p = 2) (hc : G.1 p 4 = iN mm) (hm : mm ≤ 12) (hi : i < mm) : f_X2_lengthAt p (iN i) G = some (G.1 (p + 3) i) := by
  unfold f_X2_lengthAt
  simp (disch := omega) only [chk_t, beq_self_eq_true, nm_s, bj1_s, bj2_s, bj3_s, mo_1, mo_0, l_0, l_1, l_2, l_3, l_4, l_5, l_6, l_7, l_8, l_9, l_10, l_11, l_12, l_13, l_14, l_15, l_16, l_17, l_18, l_19, l_20, l_21, l_24, l_30, l_31, l_32, l_36, l_40, l_41, l_42, l_43, l_44, l_45, l_46, l_47, l_48, l_49, l_50, l_51, l_52, l_57, l_58, l_60, l_61, l_64, l_72, l_80, l_92, l_98, l_99, l_100, l_102, l_105, l_111, l_112, l_114, l_115, l_116, l_117, l_120, l_144, l_200, l_201, l_240, l_300, l_320, l_400, l_500, l_512, l_550, l_560, l_649, l_650, l_1000, l_1032, l_1400, l_2000, l_4000, l_10000, l_268435455, iN_add, iN_sub, iN_mul, iN_le_t, iN_le_f, iN_lt_t, iN_lt_f, iN_eq_f, inb_iN, ix_iN, isZ_0, isZ_1, ↓reduceIte, eq_self, kd_b hp, phas_t hp hc hm hi]
/-- a plan copied -/
theorem pbecome_ok {o a mm : Nat} {G : G_} (ho : kd o = 2) (ha : kd a = 2) (hd : a + 4 ≤ o ∨ o + 4 ≤ a) (hc : G.1 a 4 = iN mm) (hm : mm ≤ 12) :
    ∃ G', f_X2_become o a G = some G' ∧ G'.1 o 3 = iN 1 ∧ G'.1 o 4 = iN mm ∧ G'.1 o 5 = sumS (fun i => G.1 (a + 3) i) mm ∧ (∀ i, i < mm → G'.1 (o + 1) i = G.1 (a + 1) i ∧ G'.1 (o + 2) i = G.1 (a + 2) i ∧ G'.1 (o + 3) i = G.1 (a + 3) i) ∧ (∀ q, (q < o ∨ o + 4 ≤ q) → G'.1 q = G.1 q) ∧ G'.2 = G.2 := by
  have hL : ∃ G', f_X2_become_l6_5 o a FU (iN 0) (sI (sI (sI G o 3 (iN 1)) o 4 (iN 0)) o 5 (iN 0)) = some G' ∧ G'.1 o 3 = iN 1 ∧ G'.1 o 4 = iN mm ∧ G'.1 o 5 = sumS (fun i => G.1 (a + 3) i) mm ∧ (∀ i, i < mm → G'.1 (o + 1) i = G.1 (a + 1) i ∧ G'.1 (o + 2) i = G.1 (a + 2) i ∧ G'.1 (o + 3) i = G.1 (a + 3) i) ∧ (∀ q, (q < o ∨ o + 4 ≤ q) → G'.1 q = G.1 q) ∧ G'.2 = G.2 := by
    refine loop_h (fun n v s => f_X2_become_l6_5 o a n v s) (fun j G' => G'.1 o 3 = iN 1 ∧ G'.1 o 4 = iN j ∧ G'.1 o 5 = sumS (fun i => G.1 (a + 3) i) j ∧ (∀ i, i < j → G'.1 (o + 1) i = G.1 (a + 1) i ∧ G'.1 (o + 2) i = G.1 (a + 2) i ∧ G'.1 (o + 3) i = G.1 (a + 3) i) ∧ (∀ q, (q < o ∨ o + 4 ≤ q) → G'.1 q = G.1 q) ∧ G'.2 = G.2) _ 0 mm ?_ ?_ (by omega) (n := FU) (fu_lt (by omega)) ?_
    · intro f j G2 h3 h5 ⟨i0, i1, i2, i3, i4, i5⟩
      have c : G2.1 a 4 = iN mm := by rw [i4 a (by omega)]; exact hc
      refine ⟨sI (sI (sI (sI (sI G2 (o + 1) j (G.1 (a + 1) j)) (o + 2) j (G.1 (a + 2) j)) (o + 3) j (G.1 (a + 3) j)) o 4 (iN (j + 1))) o 5 (sumS (fun i => G.1 (a + 3) i) j + G.1 (a + 3) j), ⟨?_, ?_, ?_, fun i hi => ?_, fun q hq => ?_, i5⟩, ?_⟩
      · simp (disch := omega) only [chk_t, beq_self_eq_true, nm_s, bj1_s, bj2_s, bj3_s, mo_1, mo_0, l_0, l_1, l_2, l_3, l_4, l_5, l_6, l_7, l_8, l_9, l_10, l_11, l_12, l_13, l_14, l_15, l_16, l_17, l_18, l_19, l_20, l_21, l_24, l_30, l_31, l_32, l_36, l_40, l_41, l_42, l_43, l_44, l_45, l_46, l_47, l_48, l_49, l_50, l_51, l_52, l_57, l_58, l_60, l_61, l_64, l_72, l_80, l_92, l_98, l_99, l_100, l_102, l_105, l_111, l_112, l_114, l_115, l_116, l_117, l_120, l_144, l_200, l_201, l_240, l_300, l_320, l_400, l_500, l_512, l_550, l_560, l_649, l_650, l_1000, l_1032, l_1400, l_2000, l_4000, l_10000, l_268435455, iN_add, iN_sub, iN_mul, iN_le_t, iN_le_f, iN_lt_t, iN_lt_f, iN_eq_f, inb_iN, ix_iN, isZ_0, isZ_1, ↓reduceIte, eq_self, sI_eq, sI_j, sI_p]; exact i0
      · simp (disch := omega) only [chk_t, beq_self_eq_true, nm_s, bj1_s, bj2_s, bj3_s, mo_1, mo_0, l_0, l_1, l_2, l_3, l_4, l_5, l_6, l_7, l_8, l_9, l_10, l_11, l_12, l_13, l_14, l_15, l_16, l_17, l_18, l_19, l_20, l_21, l_24, l_30, l_31, l_32, l_36, l_40, l_41, l_42, l_43, l_44, l_45, l_46, l_47, l_48, l_49, l_50, l_51, l_52, l_57, l_58, l_60, l_61, l_64, l_72, l_80, l_92, l_98, l_99, l_100, l_102, l_105, l_111, l_112, l_114, l_115, l_116, l_117, l_120, l_144, l_200, l_201, l_240, l_300, l_320, l_400, l_500, l_512, l_550, l_560, l_649, l_650, l_1000, l_1032, l_1400, l_2000, l_4000, l_10000, l_268435455, iN_add, iN_sub, iN_mul, iN_le_t, iN_le_f, iN_lt_t, iN_lt_f, iN_eq_f, inb_iN, ix_iN, isZ_0, isZ_1, ↓reduceIte, eq_self, sI_eq, sI_j, sI_p]
      · simp (disch := omega) only [chk_t, beq_self_eq_true, nm_s, bj1_s, bj2_s, bj3_s, mo_1, mo_0, l_0, l_1, l_2, l_3, l_4, l_5, l_6, l_7, l_8, l_9, l_10, l_11, l_12, l_13, l_14, l_15, l_16, l_17, l_18, l_19, l_20, l_21, l_24, l_30, l_31, l_32, l_36, l_40, l_41, l_42, l_43, l_44, l_45, l_46, l_47, l_48, l_49, l_50, l_51, l_52, l_57, l_58, l_60, l_61, l_64, l_72, l_80, l_92, l_98, l_99, l_100, l_102, l_105, l_111, l_112, l_114, l_115, l_116, l_117, l_120, l_144, l_200, l_201, l_240, l_300, l_320, l_400, l_500, l_512, l_550, l_560, l_649, l_650, l_1000, l_1032, l_1400, l_2000, l_4000, l_10000, l_268435455, iN_add, iN_sub, iN_mul, iN_le_t, iN_le_f, iN_lt_t, iN_lt_f, iN_eq_f, inb_iN, ix_iN, isZ_0, isZ_1, ↓reduceIte, eq_self, sI_eq, sI_j, sI_p]; rfl
      · by_cases c : i = j
        · subst c
          simp (disch := omega) only [chk_t, beq_self_eq_true, nm_s, bj1_s, bj2_s, bj3_s, mo_1, mo_0, l_0, l_1, l_2, l_3, l_4, l_5, l_6, l_7, l_8, l_9, l_10, l_11, l_12, l_13, l_14, l_15, l_16, l_17, l_18, l_19, l_20, l_21, l_24, l_30, l_31, l_32, l_36, l_40, l_41, l_42, l_43, l_44, l_45, l_46, l_47, l_48, l_49, l_50, l_51, l_52, l_57, l_58, l_60, l_61, l_64, l_72, l_80, l_92, l_98, l_99, l_100, l_102, l_105, l_111, l_112, l_114, l_115, l_116, l_117, l_120, l_144, l_200, l_201, l_240, l_300, l_320, l_400, l_500, l_512, l_550, l_560, l_649, l_650, l_1000, l_1032, l_1400, l_2000, l_4000, l_10000, l_268435455, iN_add, iN_sub, iN_mul, iN_le_t, iN_le_f, iN_lt_t, iN_lt_f, iN_eq_f, inb_iN, ix_iN, isZ_0, isZ_1, ↓reduceIte, eq_self, sI_eq, sI_j, sI_p, and_self]
        · simp (disch := omega) only [chk_t, beq_self_eq_true, nm_s, bj1_s, bj2_s, bj3_s, mo_1, mo_0, l_0, l_1, l_2, l_3, l_4, l_5, l_6, l_7, l_8, l_9, l_10, l_11, l_12, l_13, l_14, l_15, l_16, l_17, l_18, l_19, l_20, l_21, l_24, l_30, l_31, l_32, l_36, l_40, l_41, l_42, l_43, l_44, l_45, l_46, l_47, l_48, l_49, l_50, l_51, l_52, l_57, l_58, l_60, l_61, l_64, l_72, l_80, l_92, l_98, l_99, l_100, l_102, l_105, l_111, l_112, l_114, l_115, l_116, l_117, l_120, l_144, l_200, l_201, l_240, l_300, l_320, l_400, l_500, l_512, l_550, l_560, l_649, l_650, l_1000, l_1032, l_1400, l_2000, l_4000, l_10000, l_268435455, iN_add, iN_sub, iN_mul, iN_le_t, iN_le_f, iN_lt_t, iN_lt_f, iN_eq_f, inb_iN, ix_iN, isZ_0, isZ_1, ↓reduceIte, eq_self, sI_j c, sI_p]
          exact i3 i (by omega)
      · rw [sI_p (by omega), sI_p (by omega), sI_p (by omega), sI_p (by omega), sI_p (by omega)]
        exact i4 q hq
      · show f_X2_become_l6_5 o a (f + 1) (iN j) G2 = _
        conv => lhs; unfold f_X2_become_l6_5
        unfold f_X2_add
        have r1 : G2.1 (a + 1) = G.1 (a + 1) := i4 _ (by omega)
        have r2 : G2.1 (a + 2) = G.1 (a + 2) := i4 _ (by omega)
        have r3 : G2.1 (a + 3) = G.1 (a + 3) := i4 _ (by omega)
        simp (disch := omega) only [chk_t, beq_self_eq_true, nm_s, bj1_s, bj2_s, bj3_s, mo_1, mo_0, l_0, l_1, l_2, l_3, l_4, l_5, l_6, l_7, l_8, l_9, l_10, l_11, l_12, l_13, l_14, l_15, l_16, l_17, l_18, l_19, l_20, l_21, l_24, l_30, l_31, l_32, l_36, l_40, l_41, l_42, l_43, l_44, l_45, l_46, l_47, l_48, l_49, l_50, l_51, l_52, l_57, l_58, l_60, l_61, l_64, l_72, l_80, l_92, l_98, l_99, l_100, l_102, l_105, l_111, l_112, l_114, l_115, l_116, l_117, l_120, l_144, l_200, l_201, l_240, l_300, l_320, l_400, l_500, l_512, l_550, l_560, l_649, l_650, l_1000, l_1032, l_1400, l_2000, l_4000, l_10000, l_268435455, iN_add, iN_sub, iN_mul, iN_le_t, iN_le_f, iN_lt_t, iN_lt_f, iN_eq_f, inb_iN, ix_iN, isZ_0, isZ_1, ↓reduceIte, eq_self, c, pkind_t ha c hm h5, pheat_t ha c hm h5, plen_t ha c hm h5, r1, r2, r3, kd_b ho, i1, i2, sI_eq, sI_j, sI_p]
    · intro f G2 ⟨i0, i1, i2, i3, i4, i5⟩
      refine ⟨G2, ?_, i0, i1, i2, i3, i4, i5⟩
      have c : G2.1 a 4 = iN mm := by rw [i4 a (by omega)]; exact hc
      show f_X2_become_l6_5 o a (f + 1) (iN mm) G2 = _
      unfold f_X2_become_l6_5
      simp (disch := omega) only [chk_t, beq_self_eq_true, nm_s, bj1_s, bj2_s, bj3_s, mo_1, mo_0, l_0, l_1, l_2, l_3, l_4, l_5, l_6, l_7, l_8, l_9, l_10, l_11, l_12, l_13, l_14, l_15, l_16, l_17, l_18, l_19, l_20, l_21, l_24, l_30, l_31, l_32, l_36, l_40, l_41, l_42, l_43, l_44, l_45, l_46, l_47, l_48, l_49, l_50, l_51, l_52, l_57, l_58, l_60, l_61, l_64, l_72, l_80, l_92, l_98, l_99, l_100, l_102, l_105, l_111, l_112, l_114, l_115, l_116, l_117, l_120, l_144, l_200, l_201, l_240, l_300, l_320, l_400, l_500, l_512, l_550, l_560, l_649, l_650, l_1000, l_1032, l_1400, l_2000, l_4000, l_10000, l_268435455, iN_add, iN_sub, iN_mul, iN_le_t, iN_le_f, iN_lt_t, iN_lt_f, iN_eq_f, inb_iN, ix_iN, isZ_0, isZ_1, ↓reduceIte, eq_self, c]
    · refine ⟨?_, ?_, ?_, fun i hi => by omega, fun q hq => by rw [sI_p (by omega), sI_p (by omega), sI_p (by omega)], rfl⟩
      · simp (disch := omega) only [chk_t, beq_self_eq_true, nm_s, bj1_s, bj2_s, bj3_s, mo_1, mo_0, l_0, l_1, l_2, l_3, l_4, l_5, l_6, l_7, l_8, l_9, l_10, l_11, l_12, l_13, l_14, l_15, l_16, l_17, l_18, l_19, l_20, l_21, l_24, l_30, l_31, l_32, l_36, l_40, l_41, l_42, l_43, l_44, l_45, l_46, l_47, l_48, l_49, l_50, l_51, l_52, l_57, l_58, l_60, l_61, l_64, l_72, l_80, l_92, l_98, l_99, l_100, l_102, l_105, l_111, l_112, l_114, l_115, l_116, l_117, l_120, l_144, l_200, l_201, l_240, l_300, l_320, l_400, l_500, l_512, l_550, l_560, l_649, l_650, l_1000, l_1032, l_1400, l_2000, l_4000, l_10000, l_268435455, iN_add, iN_sub, iN_mul, iN_le_t, iN_le_f, iN_lt_t, iN_lt_f, iN_eq_f, inb_iN, ix_iN, isZ_0, isZ_1, ↓reduceIte, eq_self, sI_eq, sI_j, sI_p]
      · simp (disch := omega) only [chk_t, beq_self_eq_true, nm_s, bj1_s, bj2_s, bj3_s, mo_1, mo_0, l_0, l_1, l_2, l_3, l_4, l_5, l_6, l_7, l_8, l_9, l_10, l_11, l_12, l_13, l_14, l_15, l_16, l_17, l_18, l_19, l_20, l_21, l_24, l_30, l_31, l_32, l_36, l_40, l_41, l_42, l_43, l_44, l_45, l_46, l_47, l_48, l_49, l_50, l_51, l_52, l_57, l_58, l_60, l_61, l_64, l_72, l_80, l_92, l_98, l_99, l_100, l_102, l_105, l_111, l_112, l_114, l_115, l_116, l_117, l_120, l_144, l_200, l_201, l_240, l_300, l_320, l_400, l_500, l_512, l_550, l_560, l_649, l_650, l_1000, l_1032, l_1400, l_2000, l_4000, l_10000, l_268435455, iN_add, iN_sub, iN_mul, iN_le_t, iN_le_f, iN_lt_t, iN_lt_f, iN_eq_f, inb_iN, ix_iN, isZ_0, isZ_1, ↓reduceIte, eq_self, sI_eq, sI_j, sI_p]
      · simp (disch := omega) only [chk_t, beq_self_eq_true, nm_s, bj1_s, bj2_s, bj3_s, mo_1, mo_0, l_0, l_1, l_2, l_3, l_4, l_5, l_6, l_7, l_8, l_9, l_10, l_11, l_12, l_13, l_14, l_15, l_16, l_17, l_18, l_19, l_20, l_21, l_24, l_30, l_31, l_32, l_36, l_40, l_41, l_42, l_43, l_44, l_45, l_46, l_47, l_48, l_49, l_50, l_51, l_52, l_57, l_58, l_60, l_61, l_64, l_72, l_80, l_92, l_98, l_99, l_100, l_102, l_105, l_111, l_112, l_114, l_115, l_116, l_117, l_120, l_144, l_200, l_201, l_240, l_300, l_320, l_400, l_500, l_512, l_550, l_560, l_649, l_650, l_1000, l_1032, l_1400, l_2000, l_4000, l_10000, l_268435455, iN_add, iN_sub, iN_mul, iN_le_t, iN_le_f, iN_lt_t, iN_lt_f, iN_eq_f, inb_iN, ix_iN, isZ_0, isZ_1, ↓reduceIte, eq_self, sI_eq, sI_j, sI_p]; rfl
  obtain ⟨G', g, r⟩ := hL
  refine ⟨G', ?_, r⟩
  unfold f_X2_become f_X2_begin
  simp (disch := omega) only [chk_t, beq_self_eq_true, nm_s, bj1_s, bj2_s, bj3_s, mo_1, mo_0, l_0, l_1, l_2, l_3, l_4, l_5, l_6, l_7, l_8, l_9, l_10, l_11, l_12, l_13, l_14, l_15, l_16, l_17, l_18, l_19, l_20, l_21, l_24, l_30, l_31, l_32, l_36, l_40, l_41, l_42, l_43, l_44, l_45, l_46, l_47, l_48, l_49, l_50, l_51, l_52, l_57, l_58, l_60, l_61, l_64, l_72, l_80, l_92, l_98, l_99, l_100, l_102, l_105, l_111, l_112, l_114, l_115, l_116, l_117, l_120, l_144, l_200, l_201, l_240, l_300, l_320, l_400, l_500, l_512, l_550, l_560, l_649, l_650, l_1000, l_1032, l_1400, l_2000, l_4000, l_10000, l_268435455, iN_add, iN_sub, iN_mul, iN_le_t, iN_le_f, iN_lt_t, iN_lt_f, iN_eq_f, inb_iN, ix_iN, isZ_0, isZ_1, ↓reduceIte, eq_self, kd_b ho, kd_b ha, g]
theorem mD_N {D : Nat → Int32} {mm : Nat} (h : D 4 = iN mm) (hm : mm ≤ 12) : mD D = mm := by
  unfold mD
  rw [h, ix_iN (by omega)]
theorem sumS_congr {f g : Nat → Int32} {n : Nat} (h : ∀ i, i < n → f i = g i) : sumS f n = sumS g n := by
  induction n with
  | zero => rfl
  | succ n ih =>
    show sumS f n + f n = sumS g n + g n
    rw [ih (fun i hi => h i (by omega)), h n (by omega)]
/-- the plan of a dish, at a place of its own -/
def tkS (X : Nat → Int32) : Int32 := sumS (fun i => X (5 + 3 * i + 2)) (mD X)
def cPl (p : Nat) (X : Nat → Int32) (G : G_) : Prop := G.1 p 4 = X 4 ∧ G.1 p 5 = tkS X ∧ ∀ i, i < mD X → G.1 (p + 1) i = X (5 + 3 * i) ∧ G.1 (p + 2) i = X (5 + 3 * i + 1) ∧ G.1 (p + 3) i = X (5 + 3 * i + 2)
theorem cturn_ok {o n mm at_ g : Nat} {D : Nat → Int32} {G : G_} (ho : kd o = 0) (hw : wfD D n) (hp : plD D mm at_ g) (h : cD o D G) : ∃ G', f_X0_turnAndDry o G = some G' ∧ cD o (onceS 12 D) G' ∧ fr o G G' := by
  have hk : kd (o + 7) = 2 := sh_X0_plan ho
  have key : ∀ (d k fu : Nat) (D : Nat → Int32) (at_ : Nat) (G : G_), k + d = 12 → d < fu → wfD D n → plD D mm at_ g → cD o D G → ∃ G', f_X0_turnAndDry_l2_3 o fu (iN k) G = some G' ∧ cD o (onceS d D) G' ∧ fr o G G' := by
    intro d
    induction d with
    | zero =>
      intro k fu D at_ G h1 h2 hw hp h
      obtain ⟨fu, rfl⟩ : ∃ k, fu = k + 1 := ⟨fu - 1, by omega⟩
      refine ⟨G, ?_, h, fr_refl⟩
      unfold f_X0_turnAndDry_l2_3
      simp (disch := omega) only [chk_t, beq_self_eq_true, nm_s, bj1_s, bj2_s, bj3_s, mo_1, mo_0, l_0, l_1, l_2, l_3, l_4, l_5, l_6, l_7, l_8, l_9, l_10, l_11, l_12, l_13, l_14, l_15, l_16, l_17, l_18, l_19, l_20, l_21, l_24, l_30, l_31, l_32, l_36, l_40, l_41, l_42, l_43, l_44, l_45, l_46, l_47, l_48, l_49, l_50, l_51, l_52, l_57, l_58, l_60, l_61, l_64, l_72, l_80, l_92, l_98, l_99, l_100, l_102, l_105, l_111, l_112, l_114, l_115, l_116, l_117, l_120, l_144, l_200, l_201, l_240, l_300, l_320, l_400, l_500, l_512, l_550, l_560, l_649, l_650, l_1000, l_1032, l_1400, l_2000, l_4000, l_10000, l_268435455, iN_add, iN_sub, iN_mul, iN_le_t, iN_le_f, iN_lt_t, iN_lt_f, iN_eq_f, inb_iN, ix_iN, isZ_0, isZ_1, ↓reduceIte, eq_self]
    | succ d ih =>
      intro k fu D at_ G h1 h2 hw hp h
      obtain ⟨fu, rfl⟩ : ∃ k, fu = k + 1 := ⟨fu - 1, by omega⟩
      have p1 := hp.1
      have p2 := hp.2.1
      have p3 := hp.2.2.1
      have p4 := hp.2.2.2.1
      have hz := dz_of hw.1 hw.2.1
      have r13 : G.1 o 13 = iN at_ := (c_13 h).trans p3
      have rc : G.1 (o + 7) 4 = iN mm := (c_cnt h).trans p1
      have em := mD_N p1 p2
      unfold f_X0_turnAndDry_l2_3
      rcases pl_cases hp with ⟨c, e⟩ | ⟨c, e, a, e1, e2, e3, e4⟩
      · have eo : onceS (d + 1) D = D := by
          unfold onceS
          rw [if_pos (of_eq_true e)]
        refine ⟨G, ?_, by rw [eo]; exact h, fr_refl⟩
        simp (disch := omega) only [chk_t, beq_self_eq_true, nm_s, bj1_s, bj2_s, bj3_s, mo_1, mo_0, l_0, l_1, l_2, l_3, l_4, l_5, l_6, l_7, l_8, l_9, l_10, l_11, l_12, l_13, l_14, l_15, l_16, l_17, l_18, l_19, l_20, l_21, l_24, l_30, l_31, l_32, l_36, l_40, l_41, l_42, l_43, l_44, l_45, l_46, l_47, l_48, l_49, l_50, l_51, l_52, l_57, l_58, l_60, l_61, l_64, l_72, l_80, l_92, l_98, l_99, l_100, l_102, l_105, l_111, l_112, l_114, l_115, l_116, l_117, l_120, l_144, l_200, l_201, l_240, l_300, l_320, l_400, l_500, l_512, l_550, l_560, l_649, l_650, l_1000, l_1032, l_1400, l_2000, l_4000, l_10000, l_268435455, iN_add, iN_sub, iN_mul, iN_le_t, iN_le_f, iN_lt_t, iN_lt_f, iN_eq_f, inb_iN, ix_iN, isZ_0, isZ_1, ↓reduceIte, eq_self, r13, pkind_f hk rc p2 (show mm ≤ at_ by omega) (show at_ ≤ 1000 by omega)]
      · have rk : G.1 (o + 7 + 1) at_ = iN a := (c_k h (by rw [em]; exact c)).trans e2
        by_cases c2 : a ≤ 4
        · have e5 : (iN a ≤ iN 4) = True := iN_le_t c2 (by omega)
          have eo : onceS (d + 1) D = D := by
            unfold onceS
            rw [if_neg (of_eq_false e), e1, if_pos (of_eq_true e5)]
          refine ⟨G, ?_, by rw [eo]; exact h, fr_refl⟩
          simp (disch := omega) only [chk_t, beq_self_eq_true, nm_s, bj1_s, bj2_s, bj3_s, mo_1, mo_0, l_0, l_1, l_2, l_3, l_4, l_5, l_6, l_7, l_8, l_9, l_10, l_11, l_12, l_13, l_14, l_15, l_16, l_17, l_18, l_19, l_20, l_21, l_24, l_30, l_31, l_32, l_36, l_40, l_41, l_42, l_43, l_44, l_45, l_46, l_47, l_48, l_49, l_50, l_51, l_52, l_57, l_58, l_60, l_61, l_64, l_72, l_80, l_92, l_98, l_99, l_100, l_102, l_105, l_111, l_112, l_114, l_115, l_116, l_117, l_120, l_144, l_200, l_201, l_240, l_300, l_320, l_400, l_500, l_512, l_550, l_560, l_649, l_650, l_1000, l_1032, l_1400, l_2000, l_4000, l_10000, l_268435455, iN_add, iN_sub, iN_mul, iN_le_t, iN_le_f, iN_lt_t, iN_lt_f, iN_eq_f, inb_iN, ix_iN, isZ_0, isZ_1, ↓reduceIte, eq_self, r13, pkind_t hk rc p2 c, rk, e5]
        · have e5 : (iN a ≤ iN 4) = False := iN_le_f (by omega) (by omega)
          have hp1 := (plD_onc1 hp c e2 (by omega) e4).1
          have eo : onceS (d + 1) D = onceS d (onc1 D) := by
            conv => lhs; unfold onceS
            rw [if_neg (of_eq_false e), e1, if_neg (of_eq_false e5)]
          rw [eo]
          by_cases c5 : a = 5
          · subst c5
            have e6 : onc1 D = up (up D 44 (iN 1 - D 44)) 41 (iN (at_ + 1)) := by
              unfold onc1
              rw [if_pos e1, p3, iN_add]
            have hc := cD_0 (dz_up (p := 44) (x := iN 1 - D 44) hz (by omega) (by omega)) (cD_0 hz h 11 44 (iN 1 - D 44) (by omega) rfl) 13 41 (iN (at_ + 1)) (by omega) rfl
            rw [← e6] at hc
            obtain ⟨G', g1, g2, g3⟩ := ih (k + 1) fu (onc1 D) (at_ + 1) _ (by omega) (by omega) (wf_onc1 hw) hp1 hc
            refine ⟨G', ?_, g2, fr_tr (fr_sI (fr_sI fr_refl (by omega) (by omega) (Or.inr (by omega))) (by omega) (by omega) (Or.inr (by omega))) g3⟩
            simp (disch := omega) only [chk_t, beq_self_eq_true, nm_s, bj1_s, bj2_s, bj3_s, mo_1, mo_0, l_0, l_1, l_2, l_3, l_4, l_5, l_6, l_7, l_8, l_9, l_10, l_11, l_12, l_13, l_14, l_15, l_16, l_17, l_18, l_19, l_20, l_21, l_24, l_30, l_31, l_32, l_36, l_40, l_41, l_42, l_43, l_44, l_45, l_46, l_47, l_48, l_49, l_50, l_51, l_52, l_57, l_58, l_60, l_61, l_64, l_72, l_80, l_92, l_98, l_99, l_100, l_102, l_105, l_111, l_112, l_114, l_115, l_116, l_117, l_120, l_144, l_200, l_201, l_240, l_300, l_320, l_400, l_500, l_512, l_550, l_560, l_649, l_650, l_1000, l_1032, l_1400, l_2000, l_4000, l_10000, l_268435455, iN_add, iN_sub, iN_mul, iN_le_t, iN_le_f, iN_lt_t, iN_lt_f, iN_eq_f, inb_iN, ix_iN, isZ_0, isZ_1, ↓reduceIte, eq_self, r13, pkind_t hk rc p2 c, rk, e5, c_11 h, sI_j, g1]
          · have e7 : (iN a = iN 5) = False := iN_eq_f c5 (by omega) (by omega)
            have e6 : onc1 D = up (up (up D 48 (iN 0)) 49 (iN 0)) 41 (iN (at_ + 1)) := by
              unfold onc1
              rw [e1, if_neg (of_eq_false e7), p3, iN_add]
            have hc := cD_0 (dz_up (p := 49) (x := iN 0) (dz_up (p := 48) (x := iN 0) hz (by omega) (by omega)) (by omega) (by omega)) (cD_wet (s := 1) (dz_up (p := 48) (x := iN 0) hz (by omega) (by omega)) (cD_wet (s := 0) hz h (iN 0) (by omega)) (iN 0) (by omega)) 13 41 (iN (at_ + 1)) (by omega) rfl
            rw [← e6] at hc
            obtain ⟨G', g1, g2, g3⟩ := ih (k + 1) fu (onc1 D) (at_ + 1) _ (by omega) (by omega) (wf_onc1 hw) hp1 hc
            refine ⟨G', ?_, g2, fr_tr (fr_sI (fr_sI (fr_sI fr_refl (by omega) (by omega) (Or.inl (by omega))) (by omega) (by omega) (Or.inl (by omega))) (by omega) (by omega) (Or.inr (by omega))) g3⟩
            simp (disch := omega) only [chk_t, beq_self_eq_true, nm_s, bj1_s, bj2_s, bj3_s, mo_1, mo_0, l_0, l_1, l_2, l_3, l_4, l_5, l_6, l_7, l_8, l_9, l_10, l_11, l_12, l_13, l_14, l_15, l_16, l_17, l_18, l_19, l_20, l_21, l_24, l_30, l_31, l_32, l_36, l_40, l_41, l_42, l_43, l_44, l_45, l_46, l_47, l_48, l_49, l_50, l_51, l_52, l_57, l_58, l_60, l_61, l_64, l_72, l_80, l_92, l_98, l_99, l_100, l_102, l_105, l_111, l_112, l_114, l_115, l_116, l_117, l_120, l_144, l_200, l_201, l_240, l_300, l_320, l_400, l_500, l_512, l_550, l_560, l_649, l_650, l_1000, l_1032, l_1400, l_2000, l_4000, l_10000, l_268435455, iN_add, iN_sub, iN_mul, iN_le_t, iN_le_f, iN_lt_t, iN_lt_f, iN_eq_f, inb_iN, ix_iN, isZ_0, isZ_1, ↓reduceIte, eq_self, r13, pkind_t hk rc p2 c, rk, e5, e7, sI_p, g1]
  obtain ⟨G', g1, g2, g3⟩ := key 12 0 FU D at_ G (by omega) (fu_lt (by omega)) hw hp h
  refine ⟨G', ?_, g2, g3⟩
  unfold f_X0_turnAndDry
  simp (disch := omega) only [chk_t, beq_self_eq_true, nm_s, bj1_s, bj2_s, bj3_s, mo_1, mo_0, l_0, l_1, l_2, l_3, l_4, l_5, l_6, l_7, l_8, l_9, l_10, l_11, l_12, l_13, l_14, l_15, l_16, l_17, l_18, l_19, l_20, l_21, l_24, l_30, l_31, l_32, l_36, l_40, l_41, l_42, l_43, l_44, l_45, l_46, l_47, l_48, l_49, l_50, l_51, l_52, l_57, l_58, l_60, l_61, l_64, l_72, l_80, l_92, l_98, l_99, l_100, l_102, l_105, l_111, l_112, l_114, l_115, l_116, l_117, l_120, l_144, l_200, l_201, l_240, l_300, l_320, l_400, l_500, l_512, l_550, l_560, l_649, l_650, l_1000, l_1032, l_1400, l_2000, l_4000, l_10000, l_268435455, iN_add, iN_sub, iN_mul, iN_le_t, iN_le_f, iN_lt_t, iN_lt_f, iN_eq_f, inb_iN, ix_iN, isZ_0, isZ_1, ↓reduceIte, eq_self, kd_b ho, g1]
theorem cgo_ok {o n mm c : Nat} {D : Nat → Int32} {G : G_} (ho : kd o = 0) (hg : gD D n mm) (hc : c ≤ 700) (h : cD o D G) : ∃ G', f_X0_goOn o (iN c) G = some G' ∧ cD o (goS D c) G' ∧ fr o G G' := by
  have hk : kd (o + 7) = 2 := sh_X0_plan ho
  have hL : ∃ A, f_X0_goOn_l2_3 o (iN c) FU (iN 0) G = some A ∧ cD o (goS D c) A ∧ fr o G A := by
    refine loop_h (fun n v s => f_X0_goOn_l2_3 o (iN c) n v s) (fun j G2 => cD o (goS D j) G2 ∧ fr o G G2) _ 0 c ?_ ?_ (by omega) (n := FU) (fu_lt (by omega)) ⟨h, fr_refl⟩
    · intro f j G2 h3 h5 ⟨i1, i2⟩
      have hgj := gD_go (k := j) hg
      obtain ⟨at0, g0, hp0⟩ := hgj.2
      obtain ⟨B, hB, cB, fB⟩ := cturn_ok ho hgj.1 hp0 i1
      obtain ⟨E, at_, g, eE, hw, hp, hm, ⟨c1, e, e2⟩ | ⟨c1, a, b, c', h1, h2, h4, h6, h7, h8, h9, h10, e2, e⟩⟩ := go1_cases hgj
      · obtain ⟨p1, p2, p3, p4, p5, p6, p7⟩ := hp
        rw [← eE] at cB
        obtain ⟨A, gA, cA, fA⟩ := heat_ok (k := iN 4) ho hw qR_0 cB
        rw [← e] at cA
        refine ⟨A, ⟨cA, fr_tr i2 (fr_tr fB fA)⟩, ?_⟩
        have r13 : B.1 o 13 = iN at_ := (c_13 cB).trans p3
        have rc : B.1 (o + 7) 4 = iN mm := (c_cnt cB).trans p1
        show f_X0_goOn_l2_3 o (iN c) (f + 1) (iN j) _ = _
        conv => lhs; unfold f_X0_goOn_l2_3
        simp (disch := omega) only [chk_t, beq_self_eq_true, nm_s, bj1_s, bj2_s, bj3_s, mo_1, mo_0, l_0, l_1, l_2, l_3, l_4, l_5, l_6, l_7, l_8, l_9, l_10, l_11, l_12, l_13, l_14, l_15, l_16, l_17, l_18, l_19, l_20, l_21, l_24, l_30, l_31, l_32, l_36, l_40, l_41, l_42, l_43, l_44, l_45, l_46, l_47, l_48, l_49, l_50, l_51, l_52, l_57, l_58, l_60, l_61, l_64, l_72, l_80, l_92, l_98, l_99, l_100, l_102, l_105, l_111, l_112, l_114, l_115, l_116, l_117, l_120, l_144, l_200, l_201, l_240, l_300, l_320, l_400, l_500, l_512, l_550, l_560, l_649, l_650, l_1000, l_1032, l_1400, l_2000, l_4000, l_10000, l_268435455, iN_add, iN_sub, iN_mul, iN_le_t, iN_le_f, iN_lt_t, iN_lt_f, iN_eq_f, inb_iN, ix_iN, isZ_0, isZ_1, ↓reduceIte, eq_self, hB, r13, phas_f hk rc p2 (show mm ≤ at_ by omega) (show at_ ≤ 1000 by omega), gA]
      · have hp' := plD_tick (k := iN a) (q := iN b) hp
        obtain ⟨p1, p2, p3, p4, p5, p6, p7⟩ := hp
        rw [← eE] at cB
        have em := mD_N p1 p2
        obtain ⟨A, gA, cA, fA⟩ := heat_ok (k := iN a) ho hw (qR_N h8) cB
        have wA := wf_tick (k := iN a) hw (qR_N h8)
        have zA := dz_of wA.1 wA.2.1
        have emA := mD_N hp'.1 p2
        have r13 : B.1 o 13 = iN at_ := (c_13 cB).trans p3
        have rc : B.1 (o + 7) 4 = iN mm := (c_cnt cB).trans p1
        have rk : B.1 (o + 7 + 1) at_ = iN a := (c_k cB (by rw [em]; exact c1)).trans h1
        have rq : B.1 (o + 7 + 2) at_ = iN b := (c_q cB (by rw [em]; exact c1)).trans h2
        have s13 : A.1 o 13 = iN at_ := (c_13 cA).trans hp'.2.2.1
        have s14 : A.1 o 14 = iN g := (c_14 cA).trans hp'.2.2.2.2.1
        have sc : A.1 (o + 7) 4 = iN mm := (c_cnt cA).trans hp'.1
        have sl : A.1 (o + 7 + 3) at_ = iN c' := (c_l cA (by rw [emA]; exact c1)).trans ((tickS_lo (by omega)).trans h4)
        have sc1 : (sI A o 14 (iN (g + 1))).1 (o + 7) 4 = iN mm := by rw [sI_p (by omega)]; exact sc
        have sl1 : (sI A o 14 (iN (g + 1))).1 (o + 7 + 3) at_ = iN c' := by rw [sI_p (by omega)]; exact sl
        by_cases c9 : g + 1 = c'
        · have e10 : (iN (g + 1) < iN c') = False := iN_lt_f (by omega) (by omega)
          refine ⟨sI (sI (sI A o 14 (iN (g + 1))) o 13 (iN (at_ + 1))) o 14 (iN 0), ⟨?_, fr_tr i2 (fr_tr fB (fr_tr fA (fr_sI (fr_sI (fr_sI fr_refl (by omega) (by omega) (Or.inr (by omega))) (by omega) (by omega) (Or.inr (by omega))) (by omega) (by omega) (Or.inr (by omega)))))⟩, ?_⟩
          · show cD o (go1 (goS D j)) _
            rw [e, if_pos c9, up_com (p := 42) (q := 41) (by omega), ← up_up (D := up (tickS (iN a) (iN b) E) 41 (iN (at_ + 1))) (p := 42) (x := iN (g + 1)), up_com (p := 41) (q := 42) (by omega)]
            exact cD_0 (dz_up (dz_up zA (by omega) (by omega)) (by omega) (by omega)) (cD_0 (dz_up zA (by omega) (by omega)) (cD_0 zA cA 14 42 (iN (g + 1)) (by omega) rfl) 13 41 (iN (at_ + 1)) (by omega) rfl) 14 42 (iN 0) (by omega) rfl
          · show f_X0_goOn_l2_3 o (iN c) (f + 1) (iN j) _ = _
            conv => lhs; unfold f_X0_goOn_l2_3
            simp (disch := omega) only [chk_t, beq_self_eq_true, nm_s, bj1_s, bj2_s, bj3_s, mo_1, mo_0, l_0, l_1, l_2, l_3, l_4, l_5, l_6, l_7, l_8, l_9, l_10, l_11, l_12, l_13, l_14, l_15, l_16, l_17, l_18, l_19, l_20, l_21, l_24, l_30, l_31, l_32, l_36, l_40, l_41, l_42, l_43, l_44, l_45, l_46, l_47, l_48, l_49, l_50, l_51, l_52, l_57, l_58, l_60, l_61, l_64, l_72, l_80, l_92, l_98, l_99, l_100, l_102, l_105, l_111, l_112, l_114, l_115, l_116, l_117, l_120, l_144, l_200, l_201, l_240, l_300, l_320, l_400, l_500, l_512, l_550, l_560, l_649, l_650, l_1000, l_1032, l_1400, l_2000, l_4000, l_10000, l_268435455, iN_add, iN_sub, iN_mul, iN_le_t, iN_le_f, iN_lt_t, iN_lt_f, iN_eq_f, inb_iN, ix_iN, isZ_0, isZ_1, ↓reduceIte, eq_self, hB, r13, phas_t hk rc p2 c1, pkind_t hk rc p2 c1, pheat_t hk rc p2 c1, rk, rq, gA, s14, s13, sI_eq, sI_j, plen_t hk sc1 p2 c1, sl1, e10]
        · have e10 : (iN (g + 1) < iN c') = True := iN_lt_t (by omega) (by omega)
          refine ⟨sI A o 14 (iN (g + 1)), ⟨?_, fr_tr i2 (fr_tr fB (fr_tr fA (fr_sI fr_refl (by omega) (by omega) (Or.inr (by omega)))))⟩, ?_⟩
          · show cD o (go1 (goS D j)) _
            rw [e, if_neg c9]
            exact cD_0 zA cA 14 42 (iN (g + 1)) (by omega) rfl
          · show f_X0_goOn_l2_3 o (iN c) (f + 1) (iN j) _ = _
            conv => lhs; unfold f_X0_goOn_l2_3
            simp (disch := omega) only [chk_t, beq_self_eq_true, nm_s, bj1_s, bj2_s, bj3_s, mo_1, mo_0, l_0, l_1, l_2, l_3, l_4, l_5, l_6, l_7, l_8, l_9, l_10, l_11, l_12, l_13, l_14, l_15, l_16, l_17, l_18, l_19, l_20, l_21, l_24, l_30, l_31, l_32, l_36, l_40, l_41, l_42, l_43, l_44, l_45, l_46, l_47, l_48, l_49, l_50, l_51, l_52, l_57, l_58, l_60, l_61, l_64, l_72, l_80, l_92, l_98, l_99, l_100, l_102, l_105, l_111, l_112, l_114, l_115, l_116, l_117, l_120, l_144, l_200, l_201, l_240, l_300, l_320, l_400, l_500, l_512, l_550, l_560, l_649, l_650, l_1000, l_1032, l_1400, l_2000, l_4000, l_10000, l_268435455, iN_add, iN_sub, iN_mul, iN_le_t, iN_le_f, iN_lt_t, iN_lt_f, iN_eq_f, inb_iN, ix_iN, isZ_0, isZ_1, ↓reduceIte, eq_self, hB, r13, phas_t hk rc p2 c1, pkind_t hk rc p2 c1, pheat_t hk rc p2 c1, rk, rq, gA, s14, s13, sI_eq, sI_j, plen_t hk sc1 p2 c1, sl1, e10]
    · intro f G2 ⟨i1, i2⟩
      refine ⟨G2, ?_, i1, i2⟩
      show f_X0_goOn_l2_3 o (iN c) (f + 1) (iN c) G2 = _
      unfold f_X0_goOn_l2_3
      simp (disch := omega) only [chk_t, beq_self_eq_true, nm_s, bj1_s, bj2_s, bj3_s, mo_1, mo_0, l_0, l_1, l_2, l_3, l_4, l_5, l_6, l_7, l_8, l_9, l_10, l_11, l_12, l_13, l_14, l_15, l_16, l_17, l_18, l_19, l_20, l_21, l_24, l_30, l_31, l_32, l_36, l_40, l_41, l_42, l_43, l_44, l_45, l_46, l_47, l_48, l_49, l_50, l_51, l_52, l_57, l_58, l_60, l_61, l_64, l_72, l_80, l_92, l_98, l_99, l_100, l_102, l_105, l_111, l_112, l_114, l_115, l_116, l_117, l_120, l_144, l_200, l_201, l_240, l_300, l_320, l_400, l_500, l_512, l_550, l_560, l_649, l_650, l_1000, l_1032, l_1400, l_2000, l_4000, l_10000, l_268435455, iN_add, iN_sub, iN_mul, iN_le_t, iN_le_f, iN_lt_t, iN_lt_f, iN_eq_f, inb_iN, ix_iN, isZ_0, isZ_1, ↓reduceIte, eq_self]
  obtain ⟨A, hA, cA, fA⟩ := hL
  refine ⟨A, ?_, cA, fA⟩
  unfold f_X0_goOn
  simp (disch := omega) only [chk_t, beq_self_eq_true, nm_s, bj1_s, bj2_s, bj3_s, mo_1, mo_0, l_0, l_1, l_2, l_3, l_4, l_5, l_6, l_7, l_8, l_9, l_10, l_11, l_12, l_13, l_14, l_15, l_16, l_17, l_18, l_19, l_20, l_21, l_24, l_30, l_31, l_32, l_36, l_40, l_41, l_42, l_43, l_44, l_45, l_46, l_47, l_48, l_49, l_50, l_51, l_52, l_57, l_58, l_60, l_61, l_64, l_72, l_80, l_92, l_98, l_99, l_100, l_102, l_105, l_111, l_112, l_114, l_115, l_116, l_117, l_120, l_144, l_200, l_201, l_240, l_300, l_320, l_400, l_500, l_512, l_550, l_560, l_649, l_650, l_1000, l_1032, l_1400, l_2000, l_4000, l_10000, l_268435455, iN_add, iN_sub, iN_mul, iN_le_t, iN_le_f, iN_lt_t, iN_lt_f, iN_eq_f, inb_iN, ix_iN, isZ_0, isZ_1, ↓reduceIte, eq_self, kd_b ho, hA]
/-- a plan by its row of numbers; what a dish is that is made by it -/
def plR (X : Nat → Int32) (mm : Nat) : Prop := X 4 = iN mm ∧ mm ≤ 12 ∧ (∀ i, i < mm → stOK X i) ∧ ∃ T : Nat, T ≤ 200 ∧ tkS X = iN T
def mkS (X : Nat → Int32) : Nat → Int32 := onceS 12 (goS (bgS X) (ix (tkS X)))
theorem pl_bg {X : Nat → Int32} {mm : Nat} (h : plR X mm) : plD (bgS X) mm 0 0 := by
  obtain ⟨h1, h2, h3, -⟩ := h
  exact ⟨(bg_lo (by omega)).trans h1, h2, bg_41 (by omega) (by omega), by omega, bg_41 (by omega) (by omega), fun i hi => stOK_keep (h3 i hi) (by omega) (fun p hp => bg_lo hp), Or.inl rfl⟩
theorem gD_bg {X : Nat → Int32} {n mm : Nat} (hs : slR X n) (h : plR X mm) : gD (bgS X) n mm := ⟨wf_bg hs (by rw [mD_N h.1 h.2.1]; exact h.2.1), 0, 0, pl_bg h⟩
theorem wf_mk {X : Nat → Int32} {n mm : Nat} (hs : slR X n) (h : plR X mm) : wfD (mkS X) n := wf_once (gD_go (gD_bg hs h)).1
theorem bg_x4 {X : Nat → Int32} {p : Nat} {x : Int32} (h : p ≠ 4) : bgS (up X 4 x) p = bgS X p := by
  have e : nD (up X 4 x) = nD X := nD_of (up_ne (by omega))
  unfold bgS
  rw [e, up_ne (show 2 ≠ 4 by omega), up_ne (show 1 ≠ 4 by omega), up_ne h]
/-- a dish begun, with a plan -/
theorem beginP_ok {o a b n mm : Nat} {X : Nat → Int32} {G : G_} (ho : kd o = 0) (ha : kd a = 5) (hd : a < o ∨ o + 11 ≤ a) (hb : kd b = 2) (hdb : b + 4 ≤ o ∨ o + 11 ≤ b) (hn : okN X n) (h1 : G.1 a 2 = X 1) (h3 : G.1 a 4 = X 3) (hp : X 4 = iN mm) (hm : mm ≤ 12) (hP : cPl b X G) :
    ∃ G1 G2, f_X0_begin o a (iN n) (X 2) G = some G1 ∧ f_X2_become (o + 7) b G1 = some G2 ∧ cD o (bgS X) G2 ∧ fr o G G1 ∧ fr o G1 G2 := by
  have hk : kd (o + 7) = 2 := sh_X0_plan ho
  have h2 := hn.2
  have hnn := okN_n hn
  obtain ⟨G1, g1, c1, f1⟩ := begin_ok (X := up X 4 (iN 0)) ho ha hd (okN_keep hn (up_ne (by omega))) (by rw [up_ne (by omega)]; exact h1) (by rw [up_ne (by omega)]; exact h3) up_eq
  rw [up_ne (by omega)] at g1
  have eb : ∀ q, q = b ∨ q = b + 1 ∨ q = b + 2 ∨ q = b + 3 → G1.1 q = G.1 q := fun q hq => f1.1.1 q (by omega)
  have hc : G1.1 b 4 = iN mm := by rw [eb b (by omega)]; exact hP.1.trans hp
  obtain ⟨G2, g2, -, d4, -, d6, d7, d8⟩ := pbecome_ok hk hb (by omega) hc hm
  refine ⟨G1, G2, g1, g2, ?_, f1, ⟨fun q hq => d7 q (by omega), d8⟩, by rw [d7 o (by omega)]⟩
  have em := mD_N hp hm
  have en2 : nD (bgS X) = n := by rw [nD_of (bg_lo (by omega))]; exact hnn
  have em2 : mD (bgS X) = mm := by rw [mD_of (bg_lo (by omega))]; exact em
  have en1 : nD (bgS (up X 4 (iN 0))) = n := by rw [nD_of (bg_lo (by omega)), nD_of (up_ne (by omega))]; exact hnn
  intro d j hcok
  rw [en2, em2] at hcok
  have stp : ∀ p, p < 41 → bgS X p = X p := fun p hp => bg_lo hp
  by_cases c : d ≤ 6
  · have e : cok (nD (bgS (up X 4 (iN 0)))) (mD (bgS (up X 4 (iN 0)))) d j := by
      rw [en1]
      unfold cok at hcok ⊢
      omega
    have hne : ci d j ≠ 4 := by
      intro e4
      have a := ci_inv h2.2 hm hcok
      rw [e4] at a
      have : icd 4 = 7 := rfl
      omega
    rw [d7 (o + d) (by omega), c1 d j e, bg_x4 hne]
  · have hcc : (d = 7 ∧ j = 4) ∨ (d = 8 ∧ j < mm) ∨ (d = 9 ∧ j < mm) ∨ (d = 10 ∧ j < mm) := by unfold cok at hcok; omega
    rcases hcc with ⟨rfl, rfl⟩ | ⟨rfl, hj⟩ | ⟨rfl, hj⟩ | ⟨rfl, hj⟩
    · show G2.1 (o + 7) 4 = bgS X 4
      rw [stp 4 (by omega), hp]; exact d4
    · show G2.1 (o + 7 + 1) j = bgS X (5 + 3 * j)
      rw [stp _ (by omega), (d6 j hj).1, eb _ (by omega)]
      exact (hP.2.2 j (by rw [em]; exact hj)).1
    · show G2.1 (o + 7 + 2) j = bgS X (5 + 3 * j + 1)
      rw [stp _ (by omega), (d6 j hj).2.1, eb _ (by omega)]
      exact (hP.2.2 j (by rw [em]; exact hj)).2.1
    · show G2.1 (o + 7 + 3) j = bgS X (5 + 3 * j + 2)
      rw [stp _ (by omega), (d6 j hj).2.2, eb _ (by omega)]
      exact (hP.2.2 j (by rw [em]; exact hj)).2.2
theorem mkPl_ok {o a b n mm : Nat} {X : Nat → Int32} {G : G_} (ho : kd o = 0) (ha : kd a = 5) (hd : a < o ∨ o + 11 ≤ a) (hb : kd b = 2) (hdb : b + 4 ≤ o ∨ o + 11 ≤ b) (hs : slR X n) (h1 : G.1 a 2 = X 1) (h3 : G.1 a 4 = X 3) (hp : plR X mm) (hP : cPl b X G) :
    ∃ G', f_X0_makeByPlan o a (iN n) (X 2) b G = some G' ∧ cD o (mkS X) G' ∧ fr o G G' := by
  obtain ⟨G1, G2, g1, g2, c2, f1, f2⟩ := beginP_ok ho ha hd hb hdb hs.1 h1 h3 hp.1 hp.2.1 hP
  obtain ⟨T, hT, eT⟩ := hp.2.2.2
  have hg := gD_bg hs hp
  have e5 : G2.1 b 5 = iN T := by
    rw [f2.1.1 b (by omega), f1.1.1 b (by omega), hP.2.1, eT]
  have eI : ix (tkS X) = T := by rw [eT, ix_iN (by omega)]
  obtain ⟨G3, g3, c3, f3⟩ := cgo_ok (c := T) ho hg (by omega) c2
  have hg3 := gD_go (k := T) hg
  obtain ⟨at_, g, hp3⟩ := hg3.2
  obtain ⟨G4, g4, c4, f4⟩ := cturn_ok ho hg3.1 hp3 c3
  refine ⟨G4, ?_, ?_, fr_tr f1 (fr_tr f2 (fr_tr f3 f4))⟩
  · unfold f_X0_makeByPlan
    simp (disch := omega) only [chk_t, beq_self_eq_true, nm_s, bj1_s, bj2_s, bj3_s, mo_1, mo_0, l_0, l_1, l_2, l_3, l_4, l_5, l_6, l_7, l_8, l_9, l_10, l_11, l_12, l_13, l_14, l_15, l_16, l_17, l_18, l_19, l_20, l_21, l_24, l_30, l_31, l_32, l_36, l_40, l_41, l_42, l_43, l_44, l_45, l_46, l_47, l_48, l_49, l_50, l_51, l_52, l_57, l_58, l_60, l_61, l_64, l_72, l_80, l_92, l_98, l_99, l_100, l_102, l_105, l_111, l_112, l_114, l_115, l_116, l_117, l_120, l_144, l_200, l_201, l_240, l_300, l_320, l_400, l_500, l_512, l_550, l_560, l_649, l_650, l_1000, l_1032, l_1400, l_2000, l_4000, l_10000, l_268435455, iN_add, iN_sub, iN_mul, iN_le_t, iN_le_f, iN_lt_t, iN_lt_f, iN_eq_f, inb_iN, ix_iN, isZ_0, isZ_1, ↓reduceIte, eq_self, kd_b ho, kd_b ha, kd_b hb, g1, g2, e5, g3, g4]
  · unfold mkS
    rw [eI]
    exact c4
/-- a dish copied -/
theorem become_ok {o a n mm : Nat} {D : Nat → Int32} {G : G_} (ho : kd o = 0) (ha : kd a = 0) (hd : a + 11 ≤ o ∨ o + 11 ≤ a) (hn : okN D n) (hm : D 4 = iN mm) (hm2 : mm ≤ 12) (hz : isZ (G.1 a 7) = true) (h : cD a D G) :
    ∃ G', f_X0_become o a G = some G' ∧ cD o D G' ∧ fr0 o G G' ∧ G'.1 o 7 = G.1 a 7 := by
  have hk : kd (o + 7) = 2 := sh_X0_plan ho
  have hka : kd (a + 7) = 2 := sh_X0_plan ha
  have h2 := hn.2
  have hnn := okN_n hn
  have em := mD_N hm hm2
  have hL : ∃ A, f_X0_become_l2_3 o a FU (iN 0) G = some A ∧ (∀ i, i < 20 → A.1 (o + 1) i = G.1 (a + 1) i ∧ A.1 (o + 3) i = G.1 (a + 3) i ∧ A.1 (o + 4) i = G.1 (a + 4) i) ∧ (∀ p, p ≠ o + 1 → p ≠ o + 3 → p ≠ o + 4 → A.1 p = G.1 p) ∧ A.2 = G.2 := by
    refine loop_h (fun n v s => f_X0_become_l2_3 o a n v s) (fun j G2 => (∀ i, i < j → G2.1 (o + 1) i = G.1 (a + 1) i ∧ G2.1 (o + 3) i = G.1 (a + 3) i ∧ G2.1 (o + 4) i = G.1 (a + 4) i) ∧ (∀ p, p ≠ o + 1 → p ≠ o + 3 → p ≠ o + 4 → G2.1 p = G.1 p) ∧ G2.2 = G.2) _ 0 20 ?_ ?_ (by omega) (n := FU) (fu_lt (by omega)) ⟨fun i h => by omega, fun _ _ _ _ => rfl, rfl⟩
    · intro f j G2 h3 h4 ⟨i1, i2, i3⟩
      have r1 : G2.1 (a + 1) = G.1 (a + 1) := i2 _ (by omega) (by omega) (by omega)
      have r3 : G2.1 (a + 3) = G.1 (a + 3) := i2 _ (by omega) (by omega) (by omega)
      have r4 : G2.1 (a + 4) = G.1 (a + 4) := i2 _ (by omega) (by omega) (by omega)
      refine ⟨sI (sI (sI G2 (o + 1) j (G.1 (a + 1) j)) (o + 3) j (G.1 (a + 3) j)) (o + 4) j (G.1 (a + 4) j), ⟨fun i h5 => ?_, fun p hp1 hp2 hp3 => ?_, i3⟩, ?_⟩
      · by_cases c : i = j
        · subst c
          simp (disch := omega) only [chk_t, beq_self_eq_true, nm_s, bj1_s, bj2_s, bj3_s, mo_1, mo_0, l_0, l_1, l_2, l_3, l_4, l_5, l_6, l_7, l_8, l_9, l_10, l_11, l_12, l_13, l_14, l_15, l_16, l_17, l_18, l_19, l_20, l_21, l_24, l_30, l_31, l_32, l_36, l_40, l_41, l_42, l_43, l_44, l_45, l_46, l_47, l_48, l_49, l_50, l_51, l_52, l_57, l_58, l_60, l_61, l_64, l_72, l_80, l_92, l_98, l_99, l_100, l_102, l_105, l_111, l_112, l_114, l_115, l_116, l_117, l_120, l_144, l_200, l_201, l_240, l_300, l_320, l_400, l_500, l_512, l_550, l_560, l_649, l_650, l_1000, l_1032, l_1400, l_2000, l_4000, l_10000, l_268435455, iN_add, iN_sub, iN_mul, iN_le_t, iN_le_f, iN_lt_t, iN_lt_f, iN_eq_f, inb_iN, ix_iN, isZ_0, isZ_1, ↓reduceIte, eq_self, sI_eq, sI_p, and_self]
        · simp (disch := omega) only [chk_t, beq_self_eq_true, nm_s, bj1_s, bj2_s, bj3_s, mo_1, mo_0, l_0, l_1, l_2, l_3, l_4, l_5, l_6, l_7, l_8, l_9, l_10, l_11, l_12, l_13, l_14, l_15, l_16, l_17, l_18, l_19, l_20, l_21, l_24, l_30, l_31, l_32, l_36, l_40, l_41, l_42, l_43, l_44, l_45, l_46, l_47, l_48, l_49, l_50, l_51, l_52, l_57, l_58, l_60, l_61, l_64, l_72, l_80, l_92, l_98, l_99, l_100, l_102, l_105, l_111, l_112, l_114, l_115, l_116, l_117, l_120, l_144, l_200, l_201, l_240, l_300, l_320, l_400, l_500, l_512, l_550, l_560, l_649, l_650, l_1000, l_1032, l_1400, l_2000, l_4000, l_10000, l_268435455, iN_add, iN_sub, iN_mul, iN_le_t, iN_le_f, iN_lt_t, iN_lt_f, iN_eq_f, inb_iN, ix_iN, isZ_0, isZ_1, ↓reduceIte, eq_self, sI_j c, sI_p]
          exact i1 i (by omega)
      · rw [sI_p hp3, sI_p hp2, sI_p hp1]; exact i2 p hp1 hp2 hp3
      · show f_X0_become_l2_3 o a (f + 1) (iN j) G2 = _
        conv => lhs; unfold f_X0_become_l2_3
        simp (disch := omega) only [chk_t, beq_self_eq_true, nm_s, bj1_s, bj2_s, bj3_s, mo_1, mo_0, l_0, l_1, l_2, l_3, l_4, l_5, l_6, l_7, l_8, l_9, l_10, l_11, l_12, l_13, l_14, l_15, l_16, l_17, l_18, l_19, l_20, l_21, l_24, l_30, l_31, l_32, l_36, l_40, l_41, l_42, l_43, l_44, l_45, l_46, l_47, l_48, l_49, l_50, l_51, l_52, l_57, l_58, l_60, l_61, l_64, l_72, l_80, l_92, l_98, l_99, l_100, l_102, l_105, l_111, l_112, l_114, l_115, l_116, l_117, l_120, l_144, l_200, l_201, l_240, l_300, l_320, l_400, l_500, l_512, l_550, l_560, l_649, l_650, l_1000, l_1032, l_1400, l_2000, l_4000, l_10000, l_268435455, iN_add, iN_sub, iN_mul, iN_le_t, iN_le_f, iN_lt_t, iN_lt_f, iN_eq_f, inb_iN, ix_iN, isZ_0, isZ_1, ↓reduceIte, eq_self, r1, r3, r4, sI_p]
    · intro f G2 ⟨i1, i2, i3⟩
      refine ⟨G2, ?_, i1, i2, i3⟩
      show f_X0_become_l2_3 o a (f + 1) (iN 20) G2 = _
      unfold f_X0_become_l2_3
      simp (disch := omega) only [chk_t, beq_self_eq_true, nm_s, bj1_s, bj2_s, bj3_s, mo_1, mo_0, l_0, l_1, l_2, l_3, l_4, l_5, l_6, l_7, l_8, l_9, l_10, l_11, l_12, l_13, l_14, l_15, l_16, l_17, l_18, l_19, l_20, l_21, l_24, l_30, l_31, l_32, l_36, l_40, l_41, l_42, l_43, l_44, l_45, l_46, l_47, l_48, l_49, l_50, l_51, l_52, l_57, l_58, l_60, l_61, l_64, l_72, l_80, l_92, l_98, l_99, l_100, l_102, l_105, l_111, l_112, l_114, l_115, l_116, l_117, l_120, l_144, l_200, l_201, l_240, l_300, l_320, l_400, l_500, l_512, l_550, l_560, l_649, l_650, l_1000, l_1032, l_1400, l_2000, l_4000, l_10000, l_268435455, iN_add, iN_sub, iN_mul, iN_le_t, iN_le_f, iN_lt_t, iN_lt_f, iN_eq_f, inb_iN, ix_iN, isZ_0, isZ_1, ↓reduceIte, eq_self]
  obtain ⟨A, hA, a1, a2, a3⟩ := hL
  have hL2 : ∃ B, f_X0_become_l52_16 o a FU (iN 0) A = some B ∧ (∀ i, i < 2 → B.1 (o + 5) i = G.1 (a + 5) i ∧ B.1 (o + 6) i = G.1 (a + 6) i) ∧ (∀ p, p ≠ o + 5 → p ≠ o + 6 → B.1 p = A.1 p) ∧ B.2 = A.2 := by
    refine loop_h (fun n v s => f_X0_become_l52_16 o a n v s) (fun j G2 => (∀ i, i < j → G2.1 (o + 5) i = G.1 (a + 5) i ∧ G2.1 (o + 6) i = G.1 (a + 6) i) ∧ (∀ p, p ≠ o + 5 → p ≠ o + 6 → G2.1 p = A.1 p) ∧ G2.2 = A.2) _ 0 2 ?_ ?_ (by omega) (n := FU) (fu_lt (by omega)) ⟨fun i h => by omega, fun _ _ _ => rfl, rfl⟩
    · intro f j G2 h3 h4 ⟨i1, i2, i3⟩
      have r5 : G2.1 (a + 5) = G.1 (a + 5) := by rw [i2 _ (by omega) (by omega), a2 _ (by omega) (by omega) (by omega)]
      have r6 : G2.1 (a + 6) = G.1 (a + 6) := by rw [i2 _ (by omega) (by omega), a2 _ (by omega) (by omega) (by omega)]
      refine ⟨sI (sI G2 (o + 5) j (G.1 (a + 5) j)) (o + 6) j (G.1 (a + 6) j), ⟨fun i h5 => ?_, fun p hp1 hp2 => ?_, i3⟩, ?_⟩
      · by_cases c : i = j
        · subst c
          simp (disch := omega) only [chk_t, beq_self_eq_true, nm_s, bj1_s, bj2_s, bj3_s, mo_1, mo_0, l_0, l_1, l_2, l_3, l_4, l_5, l_6, l_7, l_8, l_9, l_10, l_11, l_12, l_13, l_14, l_15, l_16, l_17, l_18, l_19, l_20, l_21, l_24, l_30, l_31, l_32, l_36, l_40, l_41, l_42, l_43, l_44, l_45, l_46, l_47, l_48, l_49, l_50, l_51, l_52, l_57, l_58, l_60, l_61, l_64, l_72, l_80, l_92, l_98, l_99, l_100, l_102, l_105, l_111, l_112, l_114, l_115, l_116, l_117, l_120, l_144, l_200, l_201, l_240, l_300, l_320, l_400, l_500, l_512, l_550, l_560, l_649, l_650, l_1000, l_1032, l_1400, l_2000, l_4000, l_10000, l_268435455, iN_add, iN_sub, iN_mul, iN_le_t, iN_le_f, iN_lt_t, iN_lt_f, iN_eq_f, inb_iN, ix_iN, isZ_0, isZ_1, ↓reduceIte, eq_self, sI_eq, sI_p, and_self]
        · simp (disch := omega) only [chk_t, beq_self_eq_true, nm_s, bj1_s, bj2_s, bj3_s, mo_1, mo_0, l_0, l_1, l_2, l_3, l_4, l_5, l_6, l_7, l_8, l_9, l_10, l_11, l_12, l_13, l_14, l_15, l_16, l_17, l_18, l_19, l_20, l_21, l_24, l_30, l_31, l_32, l_36, l_40, l_41, l_42, l_43, l_44, l_45, l_46, l_47, l_48, l_49, l_50, l_51, l_52, l_57, l_58, l_60, l_61, l_64, l_72, l_80, l_92, l_98, l_99, l_100, l_102, l_105, l_111, l_112, l_114, l_115, l_116, l_117, l_120, l_144, l_200, l_201, l_240, l_300, l_320, l_400, l_500, l_512, l_550, l_560, l_649, l_650, l_1000, l_1032, l_1400, l_2000, l_4000, l_10000, l_268435455, iN_add, iN_sub, iN_mul, iN_le_t, iN_le_f, iN_lt_t, iN_lt_f, iN_eq_f, inb_iN, ix_iN, isZ_0, isZ_1, ↓reduceIte, eq_self, sI_j c, sI_p]
          exact i1 i (by omega)
      · rw [sI_p hp2, sI_p hp1]; exact i2 p hp1 hp2
      · show f_X0_become_l52_16 o a (f + 1) (iN j) G2 = _
        conv => lhs; unfold f_X0_become_l52_16
        simp (disch := omega) only [chk_t, beq_self_eq_true, nm_s, bj1_s, bj2_s, bj3_s, mo_1, mo_0, l_0, l_1, l_2, l_3, l_4, l_5, l_6, l_7, l_8, l_9, l_10, l_11, l_12, l_13, l_14, l_15, l_16, l_17, l_18, l_19, l_20, l_21, l_24, l_30, l_31, l_32, l_36, l_40, l_41, l_42, l_43, l_44, l_45, l_46, l_47, l_48, l_49, l_50, l_51, l_52, l_57, l_58, l_60, l_61, l_64, l_72, l_80, l_92, l_98, l_99, l_100, l_102, l_105, l_111, l_112, l_114, l_115, l_116, l_117, l_120, l_144, l_200, l_201, l_240, l_300, l_320, l_400, l_500, l_512, l_550, l_560, l_649, l_650, l_1000, l_1032, l_1400, l_2000, l_4000, l_10000, l_268435455, iN_add, iN_sub, iN_mul, iN_le_t, iN_le_f, iN_lt_t, iN_lt_f, iN_eq_f, inb_iN, ix_iN, isZ_0, isZ_1, ↓reduceIte, eq_self, r5, r6, sI_p]
    · intro f G2 ⟨i1, i2, i3⟩
      refine ⟨G2, ?_, i1, i2, i3⟩
      show f_X0_become_l52_16 o a (f + 1) (iN 2) G2 = _
      unfold f_X0_become_l52_16
      simp (disch := omega) only [chk_t, beq_self_eq_true, nm_s, bj1_s, bj2_s, bj3_s, mo_1, mo_0, l_0, l_1, l_2, l_3, l_4, l_5, l_6, l_7, l_8, l_9, l_10, l_11, l_12, l_13, l_14, l_15, l_16, l_17, l_18, l_19, l_20, l_21, l_24, l_30, l_31, l_32, l_36, l_40, l_41, l_42, l_43, l_44, l_45, l_46, l_47, l_48, l_49, l_50, l_51, l_52, l_57, l_58, l_60, l_61, l_64, l_72, l_80, l_92, l_98, l_99, l_100, l_102, l_105, l_111, l_112, l_114, l_115, l_116, l_117, l_120, l_144, l_200, l_201, l_240, l_300, l_320, l_400, l_500, l_512, l_550, l_560, l_649, l_650, l_1000, l_1032, l_1400, l_2000, l_4000, l_10000, l_268435455, iN_add, iN_sub, iN_mul, iN_le_t, iN_le_f, iN_lt_t, iN_lt_f, iN_eq_f, inb_iN, ix_iN, isZ_0, isZ_1, ↓reduceIte, eq_self]
  obtain ⟨B, hB, b1, b2, b3⟩ := hL2
  have eB : ∀ q, q ≠ o + 1 → q ≠ o + 3 → q ≠ o + 4 → q ≠ o + 5 → q ≠ o + 6 → B.1 q = G.1 q := fun q q1 q3 q4 q5 q6 => by rw [b2 q q5 q6, a2 q q1 q3 q4]
  obtain ⟨C, hC, -, d4, -, d6, d7, d8⟩ := pbecome_ok (mm := mm) (G := B) hk hka (by omega) (by rw [eB (a + 7) (by omega) (by omega) (by omega) (by omega) (by omega), c_cnt h, hm]) hm2
  have eC : ∀ q, q ≠ o + 1 → q ≠ o + 3 → q ≠ o + 4 → q ≠ o + 5 → q ≠ o + 6 → (q < o + 7 ∨ o + 11 ≤ q) → C.1 q = G.1 q := fun q q1 q3 q4 q5 q6 q7 => by rw [d7 q (by omega), eB q q1 q3 q4 q5 q6]
  have ea : C.1 a = G.1 a := eC a (by omega) (by omega) (by omega) (by omega) (by omega) (by omega)
  have eo : C.1 o = G.1 o := eC o (by omega) (by omega) (by omega) (by omega) (by omega) (by omega)
  refine ⟨sI (sI (sI (sI (sI (sI (sI (sI (sI (sI C o 7 (G.1 a 7)) o 8 (G.1 a 8)) o 9 (G.1 a 9)) o 10 (G.1 a 10)) o 11 (G.1 a 11)) o 12 (G.1 a 12)) o 13 (G.1 a 13)) o 14 (G.1 a 14)) o 15 (G.1 a 15)) o 16 (G.1 a 16), ?_, ?_, ⟨fun q hq => ?_, d8.trans (b3.trans a3)⟩, ?_⟩
  · unfold f_X0_become
    simp (disch := omega) only [chk_t, beq_self_eq_true, nm_s, bj1_s, bj2_s, bj3_s, mo_1, mo_0, l_0, l_1, l_2, l_3, l_4, l_5, l_6, l_7, l_8, l_9, l_10, l_11, l_12, l_13, l_14, l_15, l_16, l_17, l_18, l_19, l_20, l_21, l_24, l_30, l_31, l_32, l_36, l_40, l_41, l_42, l_43, l_44, l_45, l_46, l_47, l_48, l_49, l_50, l_51, l_52, l_57, l_58, l_60, l_61, l_64, l_72, l_80, l_92, l_98, l_99, l_100, l_102, l_105, l_111, l_112, l_114, l_115, l_116, l_117, l_120, l_144, l_200, l_201, l_240, l_300, l_320, l_400, l_500, l_512, l_550, l_560, l_649, l_650, l_1000, l_1032, l_1400, l_2000, l_4000, l_10000, l_268435455, iN_add, iN_sub, iN_mul, iN_le_t, iN_le_f, iN_lt_t, iN_lt_f, iN_eq_f, inb_iN, ix_iN, isZ_0, isZ_1, ↓reduceIte, eq_self, kd_b ho, kd_b ha, hA, hB, hC, ea, hz, sI_p]
  · intro d j hc
    rw [hnn, em] at hc
    rcases hc with ⟨rfl, h5, h6⟩ | ⟨rfl, rfl⟩ | ⟨rfl, h5⟩ | ⟨rfl, h5⟩ | ⟨rfl, h5⟩ | ⟨rfl, h5⟩ | ⟨rfl, h5⟩ | ⟨h5, h6, h7⟩
    · rw [← h 0 j (by unfold cok; omega)]
      have : j = 8 ∨ j = 9 ∨ j = 10 ∨ j = 11 ∨ j = 12 ∨ j = 13 ∨ j = 14 ∨ j = 15 ∨ j = 16 := by omega
      rcases this with rfl | rfl | rfl | rfl | rfl | rfl | rfl | rfl | rfl <;> simp (disch := omega) only [chk_t, beq_self_eq_true, nm_s, bj1_s, bj2_s, bj3_s, mo_1, mo_0, l_0, l_1, l_2, l_3, l_4, l_5, l_6, l_7, l_8, l_9, l_10, l_11, l_12, l_13, l_14, l_15, l_16, l_17, l_18, l_19, l_20, l_21, l_24, l_30, l_31, l_32, l_36, l_40, l_41, l_42, l_43, l_44, l_45, l_46, l_47, l_48, l_49, l_50, l_51, l_52, l_57, l_58, l_60, l_61, l_64, l_72, l_80, l_92, l_98, l_99, l_100, l_102, l_105, l_111, l_112, l_114, l_115, l_116, l_117, l_120, l_144, l_200, l_201, l_240, l_300, l_320, l_400, l_500, l_512, l_550, l_560, l_649, l_650, l_1000, l_1032, l_1400, l_2000, l_4000, l_10000, l_268435455, iN_add, iN_sub, iN_mul, iN_le_t, iN_le_f, iN_lt_t, iN_lt_f, iN_eq_f, inb_iN, ix_iN, isZ_0, isZ_1, ↓reduceIte, eq_self, Nat.add_zero, sI_eq, sI_j]
    · show _ = D 4
      rw [hm, sI_p (by omega), sI_p (by omega), sI_p (by omega), sI_p (by omega), sI_p (by omega), sI_p (by omega), sI_p (by omega), sI_p (by omega), sI_p (by omega), sI_p (by omega)]
      exact d4
    · rw [sI_p (by omega), sI_p (by omega), sI_p (by omega), sI_p (by omega), sI_p (by omega), sI_p (by omega), sI_p (by omega), sI_p (by omega), sI_p (by omega), sI_p (by omega), d7 _ (by omega), (b1 j h5).1]
      exact c_wet h h5
    · rw [sI_p (by omega), sI_p (by omega), sI_p (by omega), sI_p (by omega), sI_p (by omega), sI_p (by omega), sI_p (by omega), sI_p (by omega), sI_p (by omega), sI_p (by omega), d7 _ (by omega), (b1 j h5).2]
      exact c_brn h h5
    · rw [sI_p (by omega), sI_p (by omega), sI_p (by omega), sI_p (by omega), sI_p (by omega), sI_p (by omega), sI_p (by omega), sI_p (by omega), sI_p (by omega), sI_p (by omega), d7 _ (by omega), b2 _ (by omega) (by omega), (a1 j (by omega)).1]
      exact c_w h (by omega)
    · rw [sI_p (by omega), sI_p (by omega), sI_p (by omega), sI_p (by omega), sI_p (by omega), sI_p (by omega), sI_p (by omega), sI_p (by omega), sI_p (by omega), sI_p (by omega), d7 _ (by omega), b2 _ (by omega) (by omega), (a1 j (by omega)).2.1]
      exact c_m h (by omega)
    · rw [sI_p (by omega), sI_p (by omega), sI_p (by omega), sI_p (by omega), sI_p (by omega), sI_p (by omega), sI_p (by omega), sI_p (by omega), sI_p (by omega), sI_p (by omega), d7 _ (by omega), b2 _ (by omega) (by omega), (a1 j (by omega)).2.2]
      exact c_j h (by omega)
    · rw [sI_p (by omega), sI_p (by omega), sI_p (by omega), sI_p (by omega), sI_p (by omega), sI_p (by omega), sI_p (by omega), sI_p (by omega), sI_p (by omega), sI_p (by omega)]
      have hcc : d = 8 ∨ d = 9 ∨ d = 10 := by omega
      rcases hcc with rfl | rfl | rfl
      · show C.1 (o + 7 + 1) j = D (5 + 3 * j)
        rw [(d6 j h7).1, eB _ (by omega) (by omega) (by omega) (by omega) (by omega)]
        exact c_k h (by rw [em]; exact h7)
      · show C.1 (o + 7 + 2) j = D (5 + 3 * j + 1)
        rw [(d6 j h7).2.1, eB _ (by omega) (by omega) (by omega) (by omega) (by omega)]
        exact c_q h (by rw [em]; exact h7)
      · show C.1 (o + 7 + 3) j = D (5 + 3 * j + 2)
        rw [(d6 j h7).2.2, eB _ (by omega) (by omega) (by omega) (by omega) (by omega)]
        exact c_l h (by rw [em]; exact h7)
  · rw [sI_p (by omega), sI_p (by omega), sI_p (by omega), sI_p (by omega), sI_p (by omega), sI_p (by omega), sI_p (by omega), sI_p (by omega), sI_p (by omega), sI_p (by omega)]
    exact eC q (by omega) (by omega) (by omega) (by omega) (by omega) (by omega)
  · simp (disch := omega) only [chk_t, beq_self_eq_true, nm_s, bj1_s, bj2_s, bj3_s, mo_1, mo_0, l_0, l_1, l_2, l_3, l_4, l_5, l_6, l_7, l_8, l_9, l_10, l_11, l_12, l_13, l_14, l_15, l_16, l_17, l_18, l_19, l_20, l_21, l_24, l_30, l_31, l_32, l_36, l_40, l_41, l_42, l_43, l_44, l_45, l_46, l_47, l_48, l_49, l_50, l_51, l_52, l_57, l_58, l_60, l_61, l_64, l_72, l_80, l_92, l_98, l_99, l_100, l_102, l_105, l_111, l_112, l_114, l_115, l_116, l_117, l_120, l_144, l_200, l_201, l_240, l_300, l_320, l_400, l_500, l_512, l_550, l_560, l_649, l_650, l_1000, l_1032, l_1400, l_2000, l_4000, l_10000, l_268435455, iN_add, iN_sub, iN_mul, iN_le_t, iN_le_f, iN_lt_t, iN_lt_f, iN_eq_f, inb_iN, ix_iN, isZ_0, isZ_1, ↓reduceIte, eq_self, sI_eq, sI_j]
/-! the reference: slabs and plans laid, dishes copied, made by a plan -/
theorem sI_self {G : G_} {p j : Nat} {v : Int32} (h : G.1 p j = v) : sI G p j v = G := by
  refine G_ext (fun q i => ?_) rfl
  show u2 G.1 p j v q i = _
  rw [u2_eq]
  split
  · next e =>
    split
    · next e2 => rw [e, e2, h]
    · rfl
  · rfl
def lsS (S D : Nat → Int32) : Nat → Int32 := up (spD D 0 4 S) 4 (iN 0)
theorem ls_lo {S D : Nat → Int32} {p : Nat} (h : p < 4) : lsS S D p = S p := by
  unfold lsS
  rw [up_ne (by omega), spD_in (by omega) h]
theorem ls_4 {S D : Nat → Int32} : lsS S D 4 = iN 0 := up_eq
theorem ls_hi {S D : Nat → Int32} {p : Nat} (h : 5 ≤ p) : lsS S D p = D p := by
  unfold lsS
  rw [up_ne (by omega), spD_out (by omega)]
def lpS (P D : Nat → Int32) : Nat → Int32 := spD (up D 4 (P 4)) 5 41 P
theorem lp_lo {P D : Nat → Int32} {p : Nat} (h : p < 4) : lpS P D p = D p := by
  unfold lpS
  rw [spD_out (by omega), up_ne (by omega)]
theorem lp_in {P D : Nat → Int32} {p : Nat} (h : 4 ≤ p) (h2 : p < 41) : lpS P D p = P p := by
  unfold lpS
  by_cases c : p = 4
  · subst c
    rw [spD_out (by omega), up_eq]
  · rw [spD_in (by omega) h2]
theorem lp_hi {P D : Nat → Int32} {p : Nat} (h : 41 ≤ p) : lpS P D p = D p := by
  unfold lpS
  rw [spD_out (by omega), up_ne (by omega)]
theorem tk_bg {X : Nat → Int32} {mm : Nat} (h : X 4 = iN mm) (hm : mm ≤ 12) : tkS (bgS X) = tkS X := by
  unfold tkS
  rw [mD_of (bg_lo (by omega)), mD_N h hm]
  exact sumS_congr (fun i hi => bg_lo (by omega))
def cpS (A B : Nat → Int32) : Nat → Int32 := spD B 0 112 A

/-! what is told of a dish, as numbers of its row; the class tells it so -/
def sumS (f : Nat → Int32) : Nat → Int32
  | 0 => iN 0
  | n + 1 => sumS f n + f n
theorem loop_sum (L : Nat → Int32 → Int32 → Option Int32) (f : Nat → Int32) (b : Nat)
    (step : ∀ n k s, k < b → L (n + 1) s (iN k) = L n (s + f k) (iN (k + 1)))
    (done : ∀ n s, L (n + 1) s (iN b) = some s) {n : Nat} (hb : b < n) : L n (iN 0) (iN 0) = some (sumS f b) := by
  have key := loop_cl (fun n v s => L n s v) (sumS f) 0 b (some (sumS f b)) (fun n k _ h => step n k _ h) (fun n => done n _) (Nat.zero_le b) (n := n) (by omega)
  exact key
def inS (a b x : Int32) : Int32 := if x < a then iN 0 else if b < x then iN 0 else iN 1
def justS (a b : Int32) (D : Nat → Int32) : Int32 := sumS (fun i => inS a b (D (72 + i))) (nD D)
def pinkS (D : Nat → Int32) : Int32 := justS (iN 500) (iN 649) D
def juicesS (D : Nat → Int32) : Int32 := sumS (fun i => D (92 + i)) (nD D)
def lossA (j w : Int32) : Int32 := if w - iN 400 ≤ iN 0 then iN 0 else if j < (j * ((w - iN 400) / iN 100)) / iN 20 then j else (j * ((w - iN 400) / iN 100)) / iN 20
def lossS (D : Nat → Int32) : Int32 := sumS (fun i => lossA (D (92 + i)) (D (52 + i))) (nD D)
def crustS (D : Nat → Int32) : Int32 := if D 50 < D 51 then D 50 else D 51
def midW (D : Nat → Int32) : Int32 := D (52 + nD D / 2)
def midM (D : Nat → Int32) : Int32 := D (72 + nD D / 2)
def colS (D : Nat → Int32) (i : Nat) : Int32 := if D (72 + i) < iN 650 then (if D (72 + i) < iN 500 then iN 0 else iN 1) else iN 2
def kindS (s : Nat) (D : Nat → Int32) : Int32 :=
  if D (50 + s) < iN 20 then (if D (48 + s) ≤ iN 0 then (if D 45 = iN 4 then iN 4 else if D 45 = iN 1 then (if D 44 = iN s then iN 0 else iN 2) else iN 0) else if D 2 ≤ iN 0 then iN 1 else iN 5) else if D (50 + s) ≤ iN 100 then iN 3 else iN 6
theorem in7 (x a b : Int32) : f_X7_within x a b = some (inS a b x) := by
  unfold f_X7_within inS
  split
  · rfl
  · split <;> rfl
theorem in8 (x a b : Int32) : f_X8_in x a b = some (inS a b x) := by
  unfold f_X8_in inS
  split
  · rfl
  · split <;> rfl
theorem inS_01 (a b x : Int32) : inS a b x = iN 0 ∨ inS a b x = iN 1 := by
  unfold inS
  split
  · exact Or.inl rfl
  · split
    · exact Or.inl rfl
    · exact Or.inr rfl
theorem one_0 (a b x : Int32) : (if inS a b x = iN 0 then some (iN 0) else some (iN 1)) = some (inS a b x) := by
  rcases inS_01 a b x with h | h <;> rw [h]
  · rw [if_pos rfl]
  · rw [if_neg (by decide)]
theorem mn_com (a b : Int32) : mn a b = if a < b then a else b := by
  rw [t_eq, mn_t]
  by_cases c : a < b
  · rw [if_pos c]
    have := t_lt.mp c
    rw [if_neg (by omega)]
  · rw [if_neg c]
    have : ¬ a.toInt < b.toInt := fun e => c (t_lt.mpr e)
    split
    · rfl
    · omega
theorem has_ok {o n i : Nat} {D : Nat → Int32} {G : G_} (ho : kd o = 0) (hn : okN D n) (h : cD o D G) (hi : i < n) : f_X0_has o (iN i) G = some (iN 1) := by
  have h2 := hn.2
  unfold f_X0_has
  simp (disch := omega) only [chk_t, beq_self_eq_true, nm_s, bj1_s, bj2_s, bj3_s, mo_1, mo_0, l_0, l_1, l_2, l_3, l_4, l_5, l_6, l_7, l_8, l_9, l_10, l_11, l_12, l_13, l_14, l_15, l_16, l_17, l_18, l_19, l_20, l_21, l_30, l_31, l_32, l_36, l_40, l_41, l_42, l_43, l_44, l_45, l_46, l_47, l_48, l_49, l_50, l_51, l_52, l_57, l_58, l_60, l_64, l_72, l_80, l_92, l_98, l_99, l_100, l_102, l_105, l_111, l_112, l_114, l_115, l_116, l_117, l_120, l_144, l_200, l_201, l_240, l_300, l_320, l_400, l_500, l_550, l_560, l_649, l_650, l_1000, l_1400, l_2000, l_4000, l_10000, iN_add, iN_sub, iN_mul, iN_le_t, iN_le_f, iN_lt_t, iN_lt_f, iN_eq_f, inb_iN, ix_iN, isZ_0, isZ_1, ↓reduceIte, eq_self, kd_b ho, c_8 h, hn.1]
theorem warmthAt_ok {o n i : Nat} {D : Nat → Int32} {G : G_} (ho : kd o = 0) (hn : okN D n) (h : cD o D G) (hi : i < n) : f_X0_warmthAt o (iN i) G = some (D (52 + i)) := by
  have h2 := hn.2
  have hnn := okN_n hn
  have e := c_w h (by rw [hnn]; exact hi)
  unfold f_X0_warmthAt
  simp (disch := omega) only [chk_t, beq_self_eq_true, nm_s, bj1_s, bj2_s, bj3_s, mo_1, mo_0, l_0, l_1, l_2, l_3, l_4, l_5, l_6, l_7, l_8, l_9, l_10, l_11, l_12, l_13, l_14, l_15, l_16, l_17, l_18, l_19, l_20, l_21, l_30, l_31, l_32, l_36, l_40, l_41, l_42, l_43, l_44, l_45, l_46, l_47, l_48, l_49, l_50, l_51, l_52, l_57, l_58, l_60, l_64, l_72, l_80, l_92, l_98, l_99, l_100, l_102, l_105, l_111, l_112, l_114, l_115, l_116, l_117, l_120, l_144, l_200, l_201, l_240, l_300, l_320, l_400, l_500, l_550, l_560, l_649, l_650, l_1000, l_1400, l_2000, l_4000, l_10000, iN_add, iN_sub, iN_mul, iN_le_t, iN_le_f, iN_lt_t, iN_lt_f, iN_eq_f, inb_iN, ix_iN, isZ_0, isZ_1, ↓reduceIte, eq_self, kd_b ho, has_ok ho hn h hi, e]
theorem mostAt_ok {o n i : Nat} {D : Nat → Int32} {G : G_} (ho : kd o = 0) (hn : okN D n) (h : cD o D G) (hi : i < n) : f_X0_mostAt o (iN i) G = some (D (72 + i)) := by
  have h2 := hn.2
  have hnn := okN_n hn
  have e := c_m h (by rw [hnn]; exact hi)
  unfold f_X0_mostAt
  simp (disch := omega) only [chk_t, beq_self_eq_true, nm_s, bj1_s, bj2_s, bj3_s, mo_1, mo_0, l_0, l_1, l_2, l_3, l_4, l_5, l_6, l_7, l_8, l_9, l_10, l_11, l_12, l_13, l_14, l_15, l_16, l_17, l_18, l_19, l_20, l_21, l_30, l_31, l_32, l_36, l_40, l_41, l_42, l_43, l_44, l_45, l_46, l_47, l_48, l_49, l_50, l_51, l_52, l_57, l_58, l_60, l_64, l_72, l_80, l_92, l_98, l_99, l_100, l_102, l_105, l_111, l_112, l_114, l_115, l_116, l_117, l_120, l_144, l_200, l_201, l_240, l_300, l_320, l_400, l_500, l_550, l_560, l_649, l_650, l_1000, l_1400, l_2000, l_4000, l_10000, iN_add, iN_sub, iN_mul, iN_le_t, iN_le_f, iN_lt_t, iN_lt_f, iN_eq_f, inb_iN, ix_iN, isZ_0, isZ_1, ↓reduceIte, eq_self, kd_b ho, has_ok ho hn h hi, e]
theorem juiceAt_ok {o n i : Nat} {D : Nat → Int32} {G : G_} (ho : kd o = 0) (hn : okN D n) (h : cD o D G) (hi : i < n) : f_X0_juiceAt o (iN i) G = some (D (92 + i)) := by
  have h2 := hn.2
  have hnn := okN_n hn
  have e := c_j h (by rw [hnn]; exact hi)
  unfold f_X0_juiceAt
  simp (disch := omega) only [chk_t, beq_self_eq_true, nm_s, bj1_s, bj2_s, bj3_s, mo_1, mo_0, l_0, l_1, l_2, l_3, l_4, l_5, l_6, l_7, l_8, l_9, l_10, l_11, l_12, l_13, l_14, l_15, l_16, l_17, l_18, l_19, l_20, l_21, l_30, l_31, l_32, l_36, l_40, l_41, l_42, l_43, l_44, l_45, l_46, l_47, l_48, l_49, l_50, l_51, l_52, l_57, l_58, l_60, l_64, l_72, l_80, l_92, l_98, l_99, l_100, l_102, l_105, l_111, l_112, l_114, l_115, l_116, l_117, l_120, l_144, l_200, l_201, l_240, l_300, l_320, l_400, l_500, l_550, l_560, l_649, l_650, l_1000, l_1400, l_2000, l_4000, l_10000, iN_add, iN_sub, iN_mul, iN_le_t, iN_le_f, iN_lt_t, iN_lt_f, iN_eq_f, inb_iN, ix_iN, isZ_0, isZ_1, ↓reduceIte, eq_self, kd_b ho, has_ok ho hn h hi, e]
theorem middle_ok {o n : Nat} {D : Nat → Int32} {G : G_} (ho : kd o = 0) (hn : okN D n) (h : cD o D G) : f_X0_middle o G = some (iN (n / 2)) := by
  have h2 := hn.2
  unfold f_X0_middle
  simp (disch := omega) only [chk_t, beq_self_eq_true, nm_s, bj1_s, bj2_s, bj3_s, mo_1, mo_0, l_0, l_1, l_2, l_3, l_4, l_5, l_6, l_7, l_8, l_9, l_10, l_11, l_12, l_13, l_14, l_15, l_16, l_17, l_18, l_19, l_20, l_21, l_30, l_31, l_32, l_36, l_40, l_41, l_42, l_43, l_44, l_45, l_46, l_47, l_48, l_49, l_50, l_51, l_52, l_57, l_58, l_60, l_64, l_72, l_80, l_92, l_98, l_99, l_100, l_102, l_105, l_111, l_112, l_114, l_115, l_116, l_117, l_120, l_144, l_200, l_201, l_240, l_300, l_320, l_400, l_500, l_550, l_560, l_649, l_650, l_1000, l_1400, l_2000, l_4000, l_10000, iN_add, iN_sub, iN_mul, iN_le_t, iN_le_f, iN_lt_t, iN_lt_f, iN_eq_f, inb_iN, ix_iN, isZ_0, isZ_1, ↓reduceIte, eq_self, kd_b ho, c_8 h, hn.1, iN_div]
theorem midW_ok {o n : Nat} {D : Nat → Int32} {G : G_} (ho : kd o = 0) (hn : okN D n) (h : cD o D G) : f_X0_middleWarmth o G = some (midW D) := by
  have h2 := hn.2
  unfold f_X0_middleWarmth midW
  rw [okN_n hn]
  simp (disch := omega) only [chk_t, beq_self_eq_true, nm_s, bj1_s, bj2_s, bj3_s, mo_1, mo_0, l_0, l_1, l_2, l_3, l_4, l_5, l_6, l_7, l_8, l_9, l_10, l_11, l_12, l_13, l_14, l_15, l_16, l_17, l_18, l_19, l_20, l_21, l_30, l_31, l_32, l_36, l_40, l_41, l_42, l_43, l_44, l_45, l_46, l_47, l_48, l_49, l_50, l_51, l_52, l_57, l_58, l_60, l_64, l_72, l_80, l_92, l_98, l_99, l_100, l_102, l_105, l_111, l_112, l_114, l_115, l_116, l_117, l_120, l_144, l_200, l_201, l_240, l_300, l_320, l_400, l_500, l_550, l_560, l_649, l_650, l_1000, l_1400, l_2000, l_4000, l_10000, iN_add, iN_sub, iN_mul, iN_le_t, iN_le_f, iN_lt_t, iN_lt_f, iN_eq_f, inb_iN, ix_iN, isZ_0, isZ_1, ↓reduceIte, eq_self, kd_b ho, middle_ok ho hn h, warmthAt_ok ho hn h (i := n / 2) (by omega)]
theorem midM_ok {o n : Nat} {D : Nat → Int32} {G : G_} (ho : kd o = 0) (hn : okN D n) (h : cD o D G) : f_X0_middleMost o G = some (midM D) := by
  have h2 := hn.2
  unfold f_X0_middleMost midM
  rw [okN_n hn]
  simp (disch := omega) only [chk_t, beq_self_eq_true, nm_s, bj1_s, bj2_s, bj3_s, mo_1, mo_0, l_0, l_1, l_2, l_3, l_4, l_5, l_6, l_7, l_8, l_9, l_10, l_11, l_12, l_13, l_14, l_15, l_16, l_17, l_18, l_19, l_20, l_21, l_30, l_31, l_32, l_36, l_40, l_41, l_42, l_43, l_44, l_45, l_46, l_47, l_48, l_49, l_50, l_51, l_52, l_57, l_58, l_60, l_64, l_72, l_80, l_92, l_98, l_99, l_100, l_102, l_105, l_111, l_112, l_114, l_115, l_116, l_117, l_120, l_144, l_200, l_201, l_240, l_300, l_320, l_400, l_500, l_550, l_560, l_649, l_650, l_1000, l_1400, l_2000, l_4000, l_10000, iN_add, iN_sub, iN_mul, iN_le_t, iN_le_f, iN_lt_t, iN_lt_f, iN_eq_f, inb_iN, ix_iN, isZ_0, isZ_1, ↓reduceIte, eq_self, kd_b ho, middle_ok ho hn h, mostAt_ok ho hn h (i := n / 2) (by omega)]
theorem cjust_ok {o n : Nat} {D : Nat → Int32} {G : G_} {a b : Int32} (ho : kd o = 0) (hn : okN D n) (h : cD o D G) : f_X0_justSo o a b G = some (justS a b D) := by
  have h2 := hn.2
  have key : f_X0_justSo_l5_3 o a b G FU (iN 0) (iN 0) = some (justS a b D) := by
    unfold justS
    rw [okN_n hn]
    refine loop_sum (fun n s v => f_X0_justSo_l5_3 o a b G n s v) _ n ?_ ?_ (fu_lt (by omega))
    · intro f k s hk
      show f_X0_justSo_l5_3 o a b G (f + 1) s (iN k) = f_X0_justSo_l5_3 o a b G f _ (iN (k + 1))
      conv => lhs; unfold f_X0_justSo_l5_3
      simp (disch := omega) only [chk_t, beq_self_eq_true, nm_s, bj1_s, bj2_s, bj3_s, mo_1, mo_0, l_0, l_1, l_2, l_3, l_4, l_5, l_6, l_7, l_8, l_9, l_10, l_11, l_12, l_13, l_14, l_15, l_16, l_17, l_18, l_19, l_20, l_21, l_30, l_31, l_32, l_36, l_40, l_41, l_42, l_43, l_44, l_45, l_46, l_47, l_48, l_49, l_50, l_51, l_52, l_57, l_58, l_60, l_64, l_72, l_80, l_92, l_98, l_99, l_100, l_102, l_105, l_111, l_112, l_114, l_115, l_116, l_117, l_120, l_144, l_200, l_201, l_240, l_300, l_320, l_400, l_500, l_550, l_560, l_649, l_650, l_1000, l_1400, l_2000, l_4000, l_10000, iN_add, iN_sub, iN_mul, iN_le_t, iN_le_f, iN_lt_t, iN_lt_f, iN_eq_f, inb_iN, ix_iN, isZ_0, isZ_1, ↓reduceIte, eq_self, c_8 h, hn.1, mostAt_ok ho hn h hk, in7, one_0]
    · intro f s
      show f_X0_justSo_l5_3 o a b G (f + 1) s (iN n) = _
      unfold f_X0_justSo_l5_3
      simp (disch := omega) only [chk_t, beq_self_eq_true, nm_s, bj1_s, bj2_s, bj3_s, mo_1, mo_0, l_0, l_1, l_2, l_3, l_4, l_5, l_6, l_7, l_8, l_9, l_10, l_11, l_12, l_13, l_14, l_15, l_16, l_17, l_18, l_19, l_20, l_21, l_30, l_31, l_32, l_36, l_40, l_41, l_42, l_43, l_44, l_45, l_46, l_47, l_48, l_49, l_50, l_51, l_52, l_57, l_58, l_60, l_64, l_72, l_80, l_92, l_98, l_99, l_100, l_102, l_105, l_111, l_112, l_114, l_115, l_116, l_117, l_120, l_144, l_200, l_201, l_240, l_300, l_320, l_400, l_500, l_550, l_560, l_649, l_650, l_1000, l_1400, l_2000, l_4000, l_10000, iN_add, iN_sub, iN_mul, iN_le_t, iN_le_f, iN_lt_t, iN_lt_f, iN_eq_f, inb_iN, ix_iN, isZ_0, isZ_1, ↓reduceIte, eq_self, c_8 h, hn.1]
  unfold f_X0_justSo
  simp (disch := omega) only [chk_t, beq_self_eq_true, nm_s, bj1_s, bj2_s, bj3_s, mo_1, mo_0, l_0, l_1, l_2, l_3, l_4, l_5, l_6, l_7, l_8, l_9, l_10, l_11, l_12, l_13, l_14, l_15, l_16, l_17, l_18, l_19, l_20, l_21, l_30, l_31, l_32, l_36, l_40, l_41, l_42, l_43, l_44, l_45, l_46, l_47, l_48, l_49, l_50, l_51, l_52, l_57, l_58, l_60, l_64, l_72, l_80, l_92, l_98, l_99, l_100, l_102, l_105, l_111, l_112, l_114, l_115, l_116, l_117, l_120, l_144, l_200, l_201, l_240, l_300, l_320, l_400, l_500, l_550, l_560, l_649, l_650, l_1000, l_1400, l_2000, l_4000, l_10000, iN_add, iN_sub, iN_mul, iN_le_t, iN_le_f, iN_lt_t, iN_lt_f, iN_eq_f, inb_iN, ix_iN, isZ_0, isZ_1, ↓reduceIte, eq_self, kd_b ho, key]
theorem cpink_ok {o n : Nat} {D : Nat → Int32} {G : G_} (ho : kd o = 0) (hn : okN D n) (h : cD o D G) : f_X0_pink o G = some (pinkS D) := by
  unfold f_X0_pink pinkS
  simp (disch := omega) only [chk_t, beq_self_eq_true, nm_s, bj1_s, bj2_s, bj3_s, mo_1, mo_0, l_0, l_1, l_2, l_3, l_4, l_5, l_6, l_7, l_8, l_9, l_10, l_11, l_12, l_13, l_14, l_15, l_16, l_17, l_18, l_19, l_20, l_21, l_30, l_31, l_32, l_36, l_40, l_41, l_42, l_43, l_44, l_45, l_46, l_47, l_48, l_49, l_50, l_51, l_52, l_57, l_58, l_60, l_64, l_72, l_80, l_92, l_98, l_99, l_100, l_102, l_105, l_111, l_112, l_114, l_115, l_116, l_117, l_120, l_144, l_200, l_201, l_240, l_300, l_320, l_400, l_500, l_550, l_560, l_649, l_650, l_1000, l_1400, l_2000, l_4000, l_10000, iN_add, iN_sub, iN_mul, iN_le_t, iN_le_f, iN_lt_t, iN_lt_f, iN_eq_f, inb_iN, ix_iN, isZ_0, isZ_1, ↓reduceIte, eq_self, kd_b ho, cjust_ok ho hn h]
theorem cjuice_ok {o n : Nat} {D : Nat → Int32} {G : G_} (ho : kd o = 0) (hn : okN D n) (h : cD o D G) : f_X0_allJuice o G = some (juicesS D) := by
  have h2 := hn.2
  have key : f_X0_allJuice_l4_3 o G FU (iN 0) (iN 0) = some (juicesS D) := by
    unfold juicesS
    rw [okN_n hn]
    refine loop_sum (fun n s v => f_X0_allJuice_l4_3 o G n s v) _ n ?_ ?_ (fu_lt (by omega))
    · intro f k s hk
      show f_X0_allJuice_l4_3 o G (f + 1) s (iN k) = f_X0_allJuice_l4_3 o G f _ (iN (k + 1))
      conv => lhs; unfold f_X0_allJuice_l4_3
      simp (disch := omega) only [chk_t, beq_self_eq_true, nm_s, bj1_s, bj2_s, bj3_s, mo_1, mo_0, l_0, l_1, l_2, l_3, l_4, l_5, l_6, l_7, l_8, l_9, l_10, l_11, l_12, l_13, l_14, l_15, l_16, l_17, l_18, l_19, l_20, l_21, l_30, l_31, l_32, l_36, l_40, l_41, l_42, l_43, l_44, l_45, l_46, l_47, l_48, l_49, l_50, l_51, l_52, l_57, l_58, l_60, l_64, l_72, l_80, l_92, l_98, l_99, l_100, l_102, l_105, l_111, l_112, l_114, l_115, l_116, l_117, l_120, l_144, l_200, l_201, l_240, l_300, l_320, l_400, l_500, l_550, l_560, l_649, l_650, l_1000, l_1400, l_2000, l_4000, l_10000, iN_add, iN_sub, iN_mul, iN_le_t, iN_le_f, iN_lt_t, iN_lt_f, iN_eq_f, inb_iN, ix_iN, isZ_0, isZ_1, ↓reduceIte, eq_self, c_8 h, hn.1, juiceAt_ok ho hn h hk]
    · intro f s
      show f_X0_allJuice_l4_3 o G (f + 1) s (iN n) = _
      unfold f_X0_allJuice_l4_3
      simp (disch := omega) only [chk_t, beq_self_eq_true, nm_s, bj1_s, bj2_s, bj3_s, mo_1, mo_0, l_0, l_1, l_2, l_3, l_4, l_5, l_6, l_7, l_8, l_9, l_10, l_11, l_12, l_13, l_14, l_15, l_16, l_17, l_18, l_19, l_20, l_21, l_30, l_31, l_32, l_36, l_40, l_41, l_42, l_43, l_44, l_45, l_46, l_47, l_48, l_49, l_50, l_51, l_52, l_57, l_58, l_60, l_64, l_72, l_80, l_92, l_98, l_99, l_100, l_102, l_105, l_111, l_112, l_114, l_115, l_116, l_117, l_120, l_144, l_200, l_201, l_240, l_300, l_320, l_400, l_500, l_550, l_560, l_649, l_650, l_1000, l_1400, l_2000, l_4000, l_10000, iN_add, iN_sub, iN_mul, iN_le_t, iN_le_f, iN_lt_t, iN_lt_f, iN_eq_f, inb_iN, ix_iN, isZ_0, isZ_1, ↓reduceIte, eq_self, c_8 h, hn.1]
  unfold f_X0_allJuice
  simp (disch := omega) only [chk_t, beq_self_eq_true, nm_s, bj1_s, bj2_s, bj3_s, mo_1, mo_0, l_0, l_1, l_2, l_3, l_4, l_5, l_6, l_7, l_8, l_9, l_10, l_11, l_12, l_13, l_14, l_15, l_16, l_17, l_18, l_19, l_20, l_21, l_30, l_31, l_32, l_36, l_40, l_41, l_42, l_43, l_44, l_45, l_46, l_47, l_48, l_49, l_50, l_51, l_52, l_57, l_58, l_60, l_64, l_72, l_80, l_92, l_98, l_99, l_100, l_102, l_105, l_111, l_112, l_114, l_115, l_116, l_117, l_120, l_144, l_200, l_201, l_240, l_300, l_320, l_400, l_500, l_550, l_560, l_649, l_650, l_1000, l_1400, l_2000, l_4000, l_10000, iN_add, iN_sub, iN_mul, iN_le_t, iN_le_f, iN_lt_t, iN_lt_f, iN_eq_f, inb_iN, ix_iN, isZ_0, isZ_1, ↓reduceIte, eq_self, kd_b ho, key]
theorem loss_eq {j w : Int32} (hj : 0 ≤ j.toInt) (hw : 0 ≤ w.toInt) (hw2 : w.toInt ≤ 3000) : mn j ((j * ((mx (w - iN 400) (iN 0)) / iN 100)) / iN 20) = lossA j w := by
  have e1 : (w - iN 400).toInt = w.toInt - 400 := t_sub (by rw [li (by omega)]; omega) (by rw [li (by omega)]; omega)
  unfold lossA
  by_cases c : w - iN 400 ≤ iN 0
  · rw [if_pos c]
    have c2 := t_le.mp c
    rw [e1, li (by omega)] at c2
    have e2 : mx (w - iN 400) (iN 0) = iN 0 := by
      rw [t_eq, mx_t, e1, li (by omega)]
      split <;> omega
    rw [e2, show iN 0 / iN 100 = iN 0 from rfl, show j * iN 0 = iN 0 from Int32.mul_zero, show iN 0 / iN 20 = iN 0 from rfl, t_eq, mn_t, li (by omega)]
    split <;> omega
  · rw [if_neg c]
    have c2 : ¬ (w - iN 400).toInt ≤ (iN 0).toInt := fun e => c (t_le.mpr e)
    rw [e1, li (by omega)] at c2
    have e2 : mx (w - iN 400) (iN 0) = w - iN 400 := by
      rw [t_eq, mx_t, e1, li (by omega)]
      split <;> omega
    rw [e2, mn_com]
theorem closs_ok {o n : Nat} {D : Nat → Int32} {G : G_} (ho : kd o = 0) (hn : okN D n) (hw : wR D) (hj : jR D) (h : cD o D G) : f_X0_lossNow o G = some (lossS D) := by
  have h2 := hn.2
  have hnn := okN_n hn
  have key : f_X0_lossNow_l4_3 o G FU (iN 0) (iN 0) = some (lossS D) := by
    unfold lossS
    rw [hnn]
    refine loop_sum (fun n s v => f_X0_lossNow_l4_3 o G n s v) _ n ?_ ?_ (fu_lt (by omega))
    · intro f k s hk
      have a := hw k (by rw [hnn]; exact hk)
      have b := hj k (by rw [hnn]; exact hk)
      show f_X0_lossNow_l4_3 o G (f + 1) s (iN k) = f_X0_lossNow_l4_3 o G f _ (iN (k + 1))
      conv => lhs; unfold f_X0_lossNow_l4_3
      simp (disch := omega) only [chk_t, beq_self_eq_true, nm_s, bj1_s, bj2_s, bj3_s, mo_1, mo_0, l_0, l_1, l_2, l_3, l_4, l_5, l_6, l_7, l_8, l_9, l_10, l_11, l_12, l_13, l_14, l_15, l_16, l_17, l_18, l_19, l_20, l_21, l_30, l_31, l_32, l_36, l_40, l_41, l_42, l_43, l_44, l_45, l_46, l_47, l_48, l_49, l_50, l_51, l_52, l_57, l_58, l_60, l_64, l_72, l_80, l_92, l_98, l_99, l_100, l_102, l_105, l_111, l_112, l_114, l_115, l_116, l_117, l_120, l_144, l_200, l_201, l_240, l_300, l_320, l_400, l_500, l_550, l_560, l_649, l_650, l_1000, l_1400, l_2000, l_4000, l_10000, iN_add, iN_sub, iN_mul, iN_le_t, iN_le_f, iN_lt_t, iN_lt_f, iN_eq_f, inb_iN, ix_iN, isZ_0, isZ_1, ↓reduceIte, eq_self, c_8 h, hn.1, juiceAt_ok ho hn h hk, warmthAt_ok ho hn h hk, loss_eq b a.1 a.2]
    · intro f s
      show f_X0_lossNow_l4_3 o G (f + 1) s (iN n) = _
      unfold f_X0_lossNow_l4_3
      simp (disch := omega) only [chk_t, beq_self_eq_true, nm_s, bj1_s, bj2_s, bj3_s, mo_1, mo_0, l_0, l_1, l_2, l_3, l_4, l_5, l_6, l_7, l_8, l_9, l_10, l_11, l_12, l_13, l_14, l_15, l_16, l_17, l_18, l_19, l_20, l_21, l_30, l_31, l_32, l_36, l_40, l_41, l_42, l_43, l_44, l_45, l_46, l_47, l_48, l_49, l_50, l_51, l_52, l_57, l_58, l_60, l_64, l_72, l_80, l_92, l_98, l_99, l_100, l_102, l_105, l_111, l_112, l_114, l_115, l_116, l_117, l_120, l_144, l_200, l_201, l_240, l_300, l_320, l_400, l_500, l_550, l_560, l_649, l_650, l_1000, l_1400, l_2000, l_4000, l_10000, iN_add, iN_sub, iN_mul, iN_le_t, iN_le_f, iN_lt_t, iN_lt_f, iN_eq_f, inb_iN, ix_iN, isZ_0, isZ_1, ↓reduceIte, eq_self, c_8 h, hn.1]
  unfold f_X0_lossNow
  simp (disch := omega) only [chk_t, beq_self_eq_true, nm_s, bj1_s, bj2_s, bj3_s, mo_1, mo_0, l_0, l_1, l_2, l_3, l_4, l_5, l_6, l_7, l_8, l_9, l_10, l_11, l_12, l_13, l_14, l_15, l_16, l_17, l_18, l_19, l_20, l_21, l_30, l_31, l_32, l_36, l_40, l_41, l_42, l_43, l_44, l_45, l_46, l_47, l_48, l_49, l_50, l_51, l_52, l_57, l_58, l_60, l_64, l_72, l_80, l_92, l_98, l_99, l_100, l_102, l_105, l_111, l_112, l_114, l_115, l_116, l_117, l_120, l_144, l_200, l_201, l_240, l_300, l_320, l_400, l_500, l_550, l_560, l_649, l_650, l_1000, l_1400, l_2000, l_4000, l_10000, iN_add, iN_sub, iN_mul, iN_le_t, iN_le_f, iN_lt_t, iN_lt_f, iN_eq_f, inb_iN, ix_iN, isZ_0, isZ_1, ↓reduceIte, eq_self, kd_b ho, key]
theorem ccrust_ok {o : Nat} {D : Nat → Int32} {G : G_} (ho : kd o = 0) (h : cD o D G) : f_X0_crust o G = some (crustS D) := by
  unfold f_X0_crust crustS
  simp (disch := omega) only [chk_t, beq_self_eq_true, nm_s, bj1_s, bj2_s, bj3_s, mo_1, mo_0, l_0, l_1, l_2, l_3, l_4, l_5, l_6, l_7, l_8, l_9, l_10, l_11, l_12, l_13, l_14, l_15, l_16, l_17, l_18, l_19, l_20, l_21, l_30, l_31, l_32, l_36, l_40, l_41, l_42, l_43, l_44, l_45, l_46, l_47, l_48, l_49, l_50, l_51, l_52, l_57, l_58, l_60, l_64, l_72, l_80, l_92, l_98, l_99, l_100, l_102, l_105, l_111, l_112, l_114, l_115, l_116, l_117, l_120, l_144, l_200, l_201, l_240, l_300, l_320, l_400, l_500, l_550, l_560, l_649, l_650, l_1000, l_1400, l_2000, l_4000, l_10000, iN_add, iN_sub, iN_mul, iN_le_t, iN_le_f, iN_lt_t, iN_lt_f, iN_eq_f, inb_iN, ix_iN, isZ_0, isZ_1, ↓reduceIte, eq_self, kd_b ho, c_brn h, mn_com]
theorem ccol_ok {o n i : Nat} {D : Nat → Int32} {G : G_} (ho : kd o = 0) (hn : okN D n) (h : cD o D G) (hi : i < n) : f_X0_colour o (iN i) G = some (colS D i) := by
  unfold f_X0_colour colS
  simp (disch := omega) only [chk_t, beq_self_eq_true, nm_s, bj1_s, bj2_s, bj3_s, mo_1, mo_0, l_0, l_1, l_2, l_3, l_4, l_5, l_6, l_7, l_8, l_9, l_10, l_11, l_12, l_13, l_14, l_15, l_16, l_17, l_18, l_19, l_20, l_21, l_30, l_31, l_32, l_36, l_40, l_41, l_42, l_43, l_44, l_45, l_46, l_47, l_48, l_49, l_50, l_51, l_52, l_57, l_58, l_60, l_64, l_72, l_80, l_92, l_98, l_99, l_100, l_102, l_105, l_111, l_112, l_114, l_115, l_116, l_117, l_120, l_144, l_200, l_201, l_240, l_300, l_320, l_400, l_500, l_550, l_560, l_649, l_650, l_1000, l_1400, l_2000, l_4000, l_10000, iN_add, iN_sub, iN_mul, iN_le_t, iN_le_f, iN_lt_t, iN_lt_f, iN_eq_f, inb_iN, ix_iN, isZ_0, isZ_1, ↓reduceIte, eq_self, kd_b ho, mostAt_ok ho hn h hi, ite_so]
theorem cwet_ok {o s : Nat} {D : Nat → Int32} {G : G_} (ho : kd o = 0) (h : cD o D G) (hs : s < 2) : f_X0_wetOf o (iN s) G = some (D (48 + s)) := by
  unfold f_X0_wetOf
  simp (disch := omega) only [chk_t, beq_self_eq_true, nm_s, bj1_s, bj2_s, bj3_s, mo_1, mo_0, l_0, l_1, l_2, l_3, l_4, l_5, l_6, l_7, l_8, l_9, l_10, l_11, l_12, l_13, l_14, l_15, l_16, l_17, l_18, l_19, l_20, l_21, l_30, l_31, l_32, l_36, l_40, l_41, l_42, l_43, l_44, l_45, l_46, l_47, l_48, l_49, l_50, l_51, l_52, l_57, l_58, l_60, l_64, l_72, l_80, l_92, l_98, l_99, l_100, l_102, l_105, l_111, l_112, l_114, l_115, l_116, l_117, l_120, l_144, l_200, l_201, l_240, l_300, l_320, l_400, l_500, l_550, l_560, l_649, l_650, l_1000, l_1400, l_2000, l_4000, l_10000, iN_add, iN_sub, iN_mul, iN_le_t, iN_le_f, iN_lt_t, iN_lt_f, iN_eq_f, inb_iN, ix_iN, isZ_0, isZ_1, ↓reduceIte, eq_self, kd_b ho, c_wet h hs]
theorem cbrn_ok {o s : Nat} {D : Nat → Int32} {G : G_} (ho : kd o = 0) (h : cD o D G) (hs : s < 2) : f_X0_brownOf o (iN s) G = some (D (50 + s)) := by
  unfold f_X0_brownOf
  simp (disch := omega) only [chk_t, beq_self_eq_true, nm_s, bj1_s, bj2_s, bj3_s, mo_1, mo_0, l_0, l_1, l_2, l_3, l_4, l_5, l_6, l_7, l_8, l_9, l_10, l_11, l_12, l_13, l_14, l_15, l_16, l_17, l_18, l_19, l_20, l_21, l_30, l_31, l_32, l_36, l_40, l_41, l_42, l_43, l_44, l_45, l_46, l_47, l_48, l_49, l_50, l_51, l_52, l_57, l_58, l_60, l_64, l_72, l_80, l_92, l_98, l_99, l_100, l_102, l_105, l_111, l_112, l_114, l_115, l_116, l_117, l_120, l_144, l_200, l_201, l_240, l_300, l_320, l_400, l_500, l_550, l_560, l_649, l_650, l_1000, l_1400, l_2000, l_4000, l_10000, iN_add, iN_sub, iN_mul, iN_le_t, iN_le_f, iN_lt_t, iN_lt_f, iN_eq_f, inb_iN, ix_iN, isZ_0, isZ_1, ↓reduceIte, eq_self, kd_b ho, c_brn h hs]
theorem ckind_ok {o s : Nat} {D : Nat → Int32} {G : G_} (ho : kd o = 0) (h : cD o D G) (hs : s < 2) : f_X0_kindOf o (iN s) G = some (kindS s D) := by
  unfold f_X0_kindOf kindS
  simp (disch := omega) only [chk_t, beq_self_eq_true, nm_s, bj1_s, bj2_s, bj3_s, mo_1, mo_0, l_0, l_1, l_2, l_3, l_4, l_5, l_6, l_7, l_8, l_9, l_10, l_11, l_12, l_13, l_14, l_15, l_16, l_17, l_18, l_19, l_20, l_21, l_30, l_31, l_32, l_36, l_40, l_41, l_42, l_43, l_44, l_45, l_46, l_47, l_48, l_49, l_50, l_51, l_52, l_57, l_58, l_60, l_64, l_72, l_80, l_92, l_98, l_99, l_100, l_102, l_105, l_111, l_112, l_114, l_115, l_116, l_117, l_120, l_144, l_200, l_201, l_240, l_300, l_320, l_400, l_500, l_550, l_560, l_649, l_650, l_1000, l_1400, l_2000, l_4000, l_10000, iN_add, iN_sub, iN_mul, iN_le_t, iN_le_f, iN_lt_t, iN_lt_f, iN_eq_f, inb_iN, ix_iN, isZ_0, isZ_1, ↓reduceIte, eq_self, kd_b ho, cbrn_ok ho h hs, cwet_ok ho h hs, c_15 h, c_11 h, c_9 h, ite_so]

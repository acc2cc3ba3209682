/-! the reference: slabs and plans laid, dishes copied, made by a plan -/
def LG (m : Nat) (G : G_) : G_ := sI G 124 23 (iN (112 * m))
theorem bM_LG {m : Nat} {G : G_} (h : m ≤ 4) : bM m (LG m G) := ⟨h, sI_eq⟩
theorem LG_o {m q : Nat} {G : G_} (h : q ≠ 124) : (LG m G).1 q = G.1 q := sI_p h
theorem LG_j {m j : Nat} {G : G_} (h : j ≠ 23) : (LG m G).1 124 j = G.1 124 j := sI_j h
theorem LG_2 {m : Nat} {G : G_} : (LG m G).2 = G.2 := rfl
theorem DM_LG {m m' : Nat} {G : G_} : DM m (LG m' G) = DM m G := by
  funext p
  unfold DM
  rw [LG_o (by omega)]
theorem WM_LG {m' : Nat} {G : G_} : WM (LG m' G) = WM G := by
  unfold WM
  rw [LG_o (by omega)]
/-- any world is one that the reference looks at -/
theorem LG_eta (m : Nat) (G : G_) : LG m G = stM m (DM m G) (WM G) (LG m G) := by
  have := stM_eta m (LG m G)
  rw [DM_LG, WM_LG] at this
  exact this.symm
theorem look_ok {m : Nat} {G : G_} : f_X8_look (iN m) G = some (LG m G) := by
  unfold f_X8_look LG
  simp (disch := omega) only [chk_t, beq_self_eq_true, nm_s, bj1_s, bj2_s, bj3_s, mo_1, mo_0, l_0, l_1, l_2, l_3, l_4, l_5, l_6, l_7, l_8, l_9, l_10, l_11, l_12, l_13, l_14, l_15, l_16, l_17, l_18, l_19, l_20, l_21, l_30, l_31, l_32, l_36, l_40, l_41, l_42, l_43, l_44, l_45, l_46, l_47, l_48, l_49, l_50, l_51, l_52, l_57, l_58, l_60, l_64, l_72, l_80, l_92, l_98, l_99, l_100, l_102, l_105, l_111, l_112, l_114, l_115, l_116, l_117, l_120, l_144, l_200, l_201, l_240, l_300, l_320, l_400, l_500, l_550, l_560, l_649, l_650, l_1000, l_1400, l_2000, l_4000, l_10000, iN_add, iN_sub, iN_mul, iN_le_t, iN_le_f, iN_lt_t, iN_lt_f, iN_eq_f, inb_iN, ix_iN, isZ_0, isZ_1, ↓reduceIte, eq_self]
theorem sI_self {G : G_} {p j : Nat} {v : Int32} (h : G.1 p j = v) : sI G p j v = G := by
  refine G_ext (fun q i => ?_) rfl
  show u2 G.1 p j v q i = _
  rw [u2_eq]
  split
  · next e =>
    split
    · next e2 => rw [e, e2, h]
    · rfl
  · rfl
theorem LG_st {m : Nat} {D W : Nat → Int32} {G : G_} (h : bM m G) : LG m (stM m D W G) = stM m D W G := sI_self (by rw [stM_o (by decide) (by decide)]; exact h.2)
def lsS (S D : Nat → Int32) : Nat → Int32 := up (spD D 0 4 S) 4 (iN 0)
theorem ls_lo {S D : Nat → Int32} {p : Nat} (h : p < 4) : lsS S D p = S p := by
  unfold lsS
  rw [up_ne (by omega), spD_in (by omega) h]
theorem ls_4 {S D : Nat → Int32} : lsS S D 4 = iN 0 := up_eq
theorem ls_hi {S D : Nat → Int32} {p : Nat} (h : 5 ≤ p) : lsS S D p = D p := by
  unfold lsS
  rw [up_ne (by omega), spD_out (by omega)]
def SL (k : Nat) (G : G_) : Nat → Int32 := fun p => G.1 132 (4 * k + p)
theorem laySlab_ok {m k : Nat} {D W : Nat → Int32} {G : G_} (h : bM m G) (hk : k < 4) : f_X8_laySlab (iN k) (stM m D W G) = some (stM m (lsS (SL k G) D) W G) := by
  have key := loop_cl (fun n v s => f_X8_laySlab_l2_3 (iN k) n v s) (fun j => stM m (spD D 0 j (SL k G)) W G) 0 4 (some (stM m (spD D 0 4 (SL k G)) W G)) ?_ ?_ (by omega) (n := FU) (fu_lt (by omega))
  · rw [spD_nil] at key
    have key : f_X8_laySlab_l2_3 (iN k) FU (iN 0) (stM m D W G) = some (stM m (spD D 0 4 (SL k G)) W G) := key
    unfold f_X8_laySlab lsS
    simp (disch := omega) only [chk_t, beq_self_eq_true, nm_s, bj1_s, bj2_s, bj3_s, mo_1, mo_0, l_0, l_1, l_2, l_3, l_4, l_5, l_6, l_7, l_8, l_9, l_10, l_11, l_12, l_13, l_14, l_15, l_16, l_17, l_18, l_19, l_20, l_21, l_30, l_31, l_32, l_36, l_40, l_41, l_42, l_43, l_44, l_45, l_46, l_47, l_48, l_49, l_50, l_51, l_52, l_57, l_58, l_60, l_64, l_72, l_80, l_92, l_98, l_99, l_100, l_102, l_105, l_111, l_112, l_114, l_115, l_116, l_117, l_120, l_144, l_200, l_201, l_240, l_300, l_320, l_400, l_500, l_550, l_560, l_649, l_650, l_1000, l_1400, l_2000, l_4000, l_10000, iN_add, iN_sub, iN_mul, iN_le_t, iN_le_f, iN_lt_t, iN_lt_f, iN_eq_f, inb_iN, ix_iN, isZ_0, isZ_1, ↓reduceIte, eq_self, key, put_ok h]
  · intro f j h3 h4
    show f_X8_laySlab_l2_3 (iN k) (f + 1) (iN j) _ = f_X8_laySlab_l2_3 (iN k) f (iN (j + 1)) _
    conv => lhs; unfold f_X8_laySlab_l2_3
    rw [← spD_up (b := j) (x := SL k G j) (by omega) rfl]
    simp (disch := omega) only [chk_t, beq_self_eq_true, nm_s, bj1_s, bj2_s, bj3_s, mo_1, mo_0, l_0, l_1, l_2, l_3, l_4, l_5, l_6, l_7, l_8, l_9, l_10, l_11, l_12, l_13, l_14, l_15, l_16, l_17, l_18, l_19, l_20, l_21, l_30, l_31, l_32, l_36, l_40, l_41, l_42, l_43, l_44, l_45, l_46, l_47, l_48, l_49, l_50, l_51, l_52, l_57, l_58, l_60, l_64, l_72, l_80, l_92, l_98, l_99, l_100, l_102, l_105, l_111, l_112, l_114, l_115, l_116, l_117, l_120, l_144, l_200, l_201, l_240, l_300, l_320, l_400, l_500, l_550, l_560, l_649, l_650, l_1000, l_1400, l_2000, l_4000, l_10000, iN_add, iN_sub, iN_mul, iN_le_t, iN_le_f, iN_lt_t, iN_lt_f, iN_eq_f, inb_iN, ix_iN, isZ_0, isZ_1, ↓reduceIte, eq_self, put_ok h, stM_o1]
    rfl
  · intro f
    show f_X8_laySlab_l2_3 (iN k) (f + 1) (iN 4) _ = _
    unfold f_X8_laySlab_l2_3
    simp (disch := omega) only [chk_t, beq_self_eq_true, nm_s, bj1_s, bj2_s, bj3_s, mo_1, mo_0, l_0, l_1, l_2, l_3, l_4, l_5, l_6, l_7, l_8, l_9, l_10, l_11, l_12, l_13, l_14, l_15, l_16, l_17, l_18, l_19, l_20, l_21, l_30, l_31, l_32, l_36, l_40, l_41, l_42, l_43, l_44, l_45, l_46, l_47, l_48, l_49, l_50, l_51, l_52, l_57, l_58, l_60, l_64, l_72, l_80, l_92, l_98, l_99, l_100, l_102, l_105, l_111, l_112, l_114, l_115, l_116, l_117, l_120, l_144, l_200, l_201, l_240, l_300, l_320, l_400, l_500, l_550, l_560, l_649, l_650, l_1000, l_1400, l_2000, l_4000, l_10000, iN_add, iN_sub, iN_mul, iN_le_t, iN_le_f, iN_lt_t, iN_lt_f, iN_eq_f, inb_iN, ix_iN, isZ_0, isZ_1, ↓reduceIte, eq_self]
def lpS (P D : Nat → Int32) : Nat → Int32 := spD (up D 4 (P 4)) 5 41 P
def PL (k : Nat) (G : G_) : Nat → Int32 := fun p => if p = 4 then G.1 134 k else G.1 135 (36 * k + (p - 5))
theorem lp_lo {P D : Nat → Int32} {p : Nat} (h : p < 4) : lpS P D p = D p := by
  unfold lpS
  rw [spD_out (by omega), up_ne (by omega)]
theorem lp_in {P D : Nat → Int32} {p : Nat} (h : 4 ≤ p) (h2 : p < 41) : lpS P D p = P p := by
  unfold lpS
  by_cases c : p = 4
  · subst c
    rw [spD_out (by omega), up_eq]
  · rw [spD_in (by omega) h2]
theorem lp_hi {P D : Nat → Int32} {p : Nat} (h : 41 ≤ p) : lpS P D p = D p := by
  unfold lpS
  rw [spD_out (by omega), up_ne (by omega)]
theorem layPlan_ok {m k : Nat} {D W : Nat → Int32} {G : G_} (h : bM m G) (hk : k < 4) : f_X8_layPlan (iN k) (stM m D W G) = some (stM m (lpS (PL k G) D) W G) := by
  have e4 : PL k G 4 = G.1 134 k := if_pos rfl
  have key := loop_cl (fun n v s => f_X8_layPlan_l13_6 (iN k) n v s) (fun j => stM m (spD (up D 4 (PL k G 4)) 5 (5 + j) (PL k G)) W G) 0 36 (some (stM m (lpS (PL k G) D) W G)) ?_ ?_ (by omega) (n := FU) (fu_lt (by omega))
  · rw [show 5 + 0 = 5 from rfl, spD_nil] at key
    have key : f_X8_layPlan_l13_6 (iN k) FU (iN 0) (stM m (up D 4 (PL k G 4)) W G) = some (stM m (lpS (PL k G) D) W G) := key
    rw [e4] at key
    unfold f_X8_layPlan
    simp (disch := omega) only [chk_t, beq_self_eq_true, nm_s, bj1_s, bj2_s, bj3_s, mo_1, mo_0, l_0, l_1, l_2, l_3, l_4, l_5, l_6, l_7, l_8, l_9, l_10, l_11, l_12, l_13, l_14, l_15, l_16, l_17, l_18, l_19, l_20, l_21, l_30, l_31, l_32, l_36, l_40, l_41, l_42, l_43, l_44, l_45, l_46, l_47, l_48, l_49, l_50, l_51, l_52, l_57, l_58, l_60, l_64, l_72, l_80, l_92, l_98, l_99, l_100, l_102, l_105, l_111, l_112, l_114, l_115, l_116, l_117, l_120, l_144, l_200, l_201, l_240, l_300, l_320, l_400, l_500, l_550, l_560, l_649, l_650, l_1000, l_1400, l_2000, l_4000, l_10000, iN_add, iN_sub, iN_mul, iN_le_t, iN_le_f, iN_lt_t, iN_lt_f, iN_eq_f, inb_iN, ix_iN, isZ_0, isZ_1, ↓reduceIte, eq_self, stM_o1, put_ok h, key]
  · intro f j h3 h4
    show f_X8_layPlan_l13_6 (iN k) (f + 1) (iN j) _ = f_X8_layPlan_l13_6 (iN k) f (iN (j + 1)) _
    conv => lhs; unfold f_X8_layPlan_l13_6
    have e : PL k G (5 + j) = G.1 135 (36 * k + j) := by
      unfold PL
      rw [if_neg (by omega), show 5 + j - 5 = j by omega]
    rw [show 5 + (j + 1) = 5 + j + 1 by omega, ← spD_up (b := 5 + j) (x := G.1 135 (36 * k + j)) (by omega) e.symm]
    simp (disch := omega) only [chk_t, beq_self_eq_true, nm_s, bj1_s, bj2_s, bj3_s, mo_1, mo_0, l_0, l_1, l_2, l_3, l_4, l_5, l_6, l_7, l_8, l_9, l_10, l_11, l_12, l_13, l_14, l_15, l_16, l_17, l_18, l_19, l_20, l_21, l_30, l_31, l_32, l_36, l_40, l_41, l_42, l_43, l_44, l_45, l_46, l_47, l_48, l_49, l_50, l_51, l_52, l_57, l_58, l_60, l_64, l_72, l_80, l_92, l_98, l_99, l_100, l_102, l_105, l_111, l_112, l_114, l_115, l_116, l_117, l_120, l_144, l_200, l_201, l_240, l_300, l_320, l_400, l_500, l_550, l_560, l_649, l_650, l_1000, l_1400, l_2000, l_4000, l_10000, iN_add, iN_sub, iN_mul, iN_le_t, iN_le_f, iN_lt_t, iN_lt_f, iN_eq_f, inb_iN, ix_iN, isZ_0, isZ_1, ↓reduceIte, eq_self, put_ok h, stM_o1]
  · intro f
    show f_X8_layPlan_l13_6 (iN k) (f + 1) (iN 36) _ = _
    unfold f_X8_layPlan_l13_6
    simp (disch := omega) only [chk_t, beq_self_eq_true, nm_s, bj1_s, bj2_s, bj3_s, mo_1, mo_0, l_0, l_1, l_2, l_3, l_4, l_5, l_6, l_7, l_8, l_9, l_10, l_11, l_12, l_13, l_14, l_15, l_16, l_17, l_18, l_19, l_20, l_21, l_30, l_31, l_32, l_36, l_40, l_41, l_42, l_43, l_44, l_45, l_46, l_47, l_48, l_49, l_50, l_51, l_52, l_57, l_58, l_60, l_64, l_72, l_80, l_92, l_98, l_99, l_100, l_102, l_105, l_111, l_112, l_114, l_115, l_116, l_117, l_120, l_144, l_200, l_201, l_240, l_300, l_320, l_400, l_500, l_550, l_560, l_649, l_650, l_1000, l_1400, l_2000, l_4000, l_10000, iN_add, iN_sub, iN_mul, iN_le_t, iN_le_f, iN_lt_t, iN_lt_f, iN_eq_f, inb_iN, ix_iN, isZ_0, isZ_1, ↓reduceIte, eq_self]
    rfl
theorem layNew_ok {k : Nat} {G : G_} (hk : k < 4) : f_X8_layNew (iN k) G = some (stM 4 (lsS (SL k G) (DM 4 G)) (WM G) (LG 4 G)) := by
  have e : SL k (LG 4 G) = SL k G := by
    funext p
    unfold SL
    rw [LG_o (by omega)]
  have h := laySlab_ok (m := 4) (k := k) (D := DM 4 G) (W := WM G) (bM_LG (m := 4) (G := G) (by omega)) hk
  rw [← LG_eta, e] at h
  unfold f_X8_layNew
  simp (disch := omega) only [chk_t, beq_self_eq_true, nm_s, bj1_s, bj2_s, bj3_s, mo_1, mo_0, l_0, l_1, l_2, l_3, l_4, l_5, l_6, l_7, l_8, l_9, l_10, l_11, l_12, l_13, l_14, l_15, l_16, l_17, l_18, l_19, l_20, l_21, l_30, l_31, l_32, l_36, l_40, l_41, l_42, l_43, l_44, l_45, l_46, l_47, l_48, l_49, l_50, l_51, l_52, l_57, l_58, l_60, l_64, l_72, l_80, l_92, l_98, l_99, l_100, l_102, l_105, l_111, l_112, l_114, l_115, l_116, l_117, l_120, l_144, l_200, l_201, l_240, l_300, l_320, l_400, l_500, l_550, l_560, l_649, l_650, l_1000, l_1400, l_2000, l_4000, l_10000, iN_add, iN_sub, iN_mul, iN_le_t, iN_le_f, iN_lt_t, iN_lt_f, iN_eq_f, inb_iN, ix_iN, isZ_0, isZ_1, ↓reduceIte, eq_self, look_ok, h]
theorem layNew2_ok {k : Nat} {D W : Nat → Int32} {G : G_} (h : bM 4 G) (hk : k < 4) : f_X8_layNew (iN k) (stM 4 D W G) = some (stM 4 (lsS (SL k G) D) W G) := by
  unfold f_X8_layNew
  simp (disch := omega) only [chk_t, beq_self_eq_true, nm_s, bj1_s, bj2_s, bj3_s, mo_1, mo_0, l_0, l_1, l_2, l_3, l_4, l_5, l_6, l_7, l_8, l_9, l_10, l_11, l_12, l_13, l_14, l_15, l_16, l_17, l_18, l_19, l_20, l_21, l_30, l_31, l_32, l_36, l_40, l_41, l_42, l_43, l_44, l_45, l_46, l_47, l_48, l_49, l_50, l_51, l_52, l_57, l_58, l_60, l_64, l_72, l_80, l_92, l_98, l_99, l_100, l_102, l_105, l_111, l_112, l_114, l_115, l_116, l_117, l_120, l_144, l_200, l_201, l_240, l_300, l_320, l_400, l_500, l_550, l_560, l_649, l_650, l_1000, l_1400, l_2000, l_4000, l_10000, iN_add, iN_sub, iN_mul, iN_le_t, iN_le_f, iN_lt_t, iN_lt_f, iN_eq_f, inb_iN, ix_iN, isZ_0, isZ_1, ↓reduceIte, eq_self, look_ok, LG_st h, laySlab_ok h hk]
theorem mticks_ok {m mm : Nat} {D W : Nat → Int32} {G : G_} (h : bM m G) (hm : D 4 = iN mm) (hm2 : mm ≤ 12) : f_X8_ticksAll (stM m D W G) = some (tkS D) := by
  have key : f_X8_ticksAll_l4_3 (stM m D W G) FU (iN 0) (iN 0) = some (tkS D) := by
    unfold tkS
    rw [mD_N hm hm2]
    refine loop_sum (fun n s v => f_X8_ticksAll_l4_3 (stM m D W G) n s v) _ mm ?_ ?_ (fu_lt (by omega))
    · intro f k s hk
      show f_X8_ticksAll_l4_3 (stM m D W G) (f + 1) s (iN k) = f_X8_ticksAll_l4_3 (stM m D W G) f _ (iN (k + 1))
      conv => lhs; unfold f_X8_ticksAll_l4_3
      simp (disch := omega) only [chk_t, beq_self_eq_true, nm_s, bj1_s, bj2_s, bj3_s, mo_1, mo_0, l_0, l_1, l_2, l_3, l_4, l_5, l_6, l_7, l_8, l_9, l_10, l_11, l_12, l_13, l_14, l_15, l_16, l_17, l_18, l_19, l_20, l_21, l_30, l_31, l_32, l_36, l_40, l_41, l_42, l_43, l_44, l_45, l_46, l_47, l_48, l_49, l_50, l_51, l_52, l_57, l_58, l_60, l_64, l_72, l_80, l_92, l_98, l_99, l_100, l_102, l_105, l_111, l_112, l_114, l_115, l_116, l_117, l_120, l_144, l_200, l_201, l_240, l_300, l_320, l_400, l_500, l_550, l_560, l_649, l_650, l_1000, l_1400, l_2000, l_4000, l_10000, iN_add, iN_sub, iN_mul, iN_le_t, iN_le_f, iN_lt_t, iN_lt_f, iN_eq_f, inb_iN, ix_iN, isZ_0, isZ_1, ↓reduceIte, eq_self, v_ok h, hm]
    · intro f s
      show f_X8_ticksAll_l4_3 (stM m D W G) (f + 1) s (iN mm) = _
      unfold f_X8_ticksAll_l4_3
      simp (disch := omega) only [chk_t, beq_self_eq_true, nm_s, bj1_s, bj2_s, bj3_s, mo_1, mo_0, l_0, l_1, l_2, l_3, l_4, l_5, l_6, l_7, l_8, l_9, l_10, l_11, l_12, l_13, l_14, l_15, l_16, l_17, l_18, l_19, l_20, l_21, l_30, l_31, l_32, l_36, l_40, l_41, l_42, l_43, l_44, l_45, l_46, l_47, l_48, l_49, l_50, l_51, l_52, l_57, l_58, l_60, l_64, l_72, l_80, l_92, l_98, l_99, l_100, l_102, l_105, l_111, l_112, l_114, l_115, l_116, l_117, l_120, l_144, l_200, l_201, l_240, l_300, l_320, l_400, l_500, l_550, l_560, l_649, l_650, l_1000, l_1400, l_2000, l_4000, l_10000, iN_add, iN_sub, iN_mul, iN_le_t, iN_le_f, iN_lt_t, iN_lt_f, iN_eq_f, inb_iN, ix_iN, isZ_0, isZ_1, ↓reduceIte, eq_self, v_ok h, hm]
  unfold f_X8_ticksAll
  simp (disch := omega) only [chk_t, beq_self_eq_true, nm_s, bj1_s, bj2_s, bj3_s, mo_1, mo_0, l_0, l_1, l_2, l_3, l_4, l_5, l_6, l_7, l_8, l_9, l_10, l_11, l_12, l_13, l_14, l_15, l_16, l_17, l_18, l_19, l_20, l_21, l_30, l_31, l_32, l_36, l_40, l_41, l_42, l_43, l_44, l_45, l_46, l_47, l_48, l_49, l_50, l_51, l_52, l_57, l_58, l_60, l_64, l_72, l_80, l_92, l_98, l_99, l_100, l_102, l_105, l_111, l_112, l_114, l_115, l_116, l_117, l_120, l_144, l_200, l_201, l_240, l_300, l_320, l_400, l_500, l_550, l_560, l_649, l_650, l_1000, l_1400, l_2000, l_4000, l_10000, iN_add, iN_sub, iN_mul, iN_le_t, iN_le_f, iN_lt_t, iN_lt_f, iN_eq_f, inb_iN, ix_iN, isZ_0, isZ_1, ↓reduceIte, eq_self, key]
theorem tk_bg {X : Nat → Int32} {mm : Nat} (h : X 4 = iN mm) (hm : mm ≤ 12) : tkS (bgS X) = tkS X := by
  unfold tkS
  rw [mD_of (bg_lo (by omega)), mD_N h hm]
  exact sumS_congr (fun i hi => bg_lo (by omega))
theorem mmk_ok {m n mm : Nat} {D W : Nat → Int32} {G : G_} (h : bM m G) (hs : slR D n) (hp : plR D mm) : ∃ W', f_X8_makesPlan (stM m D W G) = some (stM m (mkS D) W' G) := by
  obtain ⟨T, hT, eT⟩ := hp.2.2.2
  have eI : ix (tkS D) = T := by rw [eT, ix_iN (by omega)]
  have hg := gD_bg hs hp
  obtain ⟨W1, g1⟩ := mgo_ok (W := W) (c := T) h hg (by omega)
  obtain ⟨at_, g, hp3⟩ := (gD_go (k := T) hg).2
  have g2 := monce_ok (W := W1) h hp3
  refine ⟨W1, ?_⟩
  unfold f_X8_makesPlan mkS
  rw [eI]
  simp (disch := omega) only [chk_t, beq_self_eq_true, nm_s, bj1_s, bj2_s, bj3_s, mo_1, mo_0, l_0, l_1, l_2, l_3, l_4, l_5, l_6, l_7, l_8, l_9, l_10, l_11, l_12, l_13, l_14, l_15, l_16, l_17, l_18, l_19, l_20, l_21, l_30, l_31, l_32, l_36, l_40, l_41, l_42, l_43, l_44, l_45, l_46, l_47, l_48, l_49, l_50, l_51, l_52, l_57, l_58, l_60, l_64, l_72, l_80, l_92, l_98, l_99, l_100, l_102, l_105, l_111, l_112, l_114, l_115, l_116, l_117, l_120, l_144, l_200, l_201, l_240, l_300, l_320, l_400, l_500, l_550, l_560, l_649, l_650, l_1000, l_1400, l_2000, l_4000, l_10000, iN_add, iN_sub, iN_mul, iN_le_t, iN_le_f, iN_lt_t, iN_lt_f, iN_eq_f, inb_iN, ix_iN, isZ_0, isZ_1, ↓reduceIte, eq_self, mbegins_ok h hs.1, mticks_ok (D := bgS D) h ((bg_lo (by omega)).trans hp.1) hp.2.1, tk_bg hp.1 hp.2.1, eT, g1, g2]
def cpS (A B : Nat → Int32) : Nat → Int32 := spD B 0 112 A
theorem copyDish_ok {a b : Nat} {G : G_} (ha : a ≤ 4) (hb : b ≤ 4) (hab : a ≠ b) : f_X8_copyDish (iN a) (iN b) G = some (stM b (cpS (DM a G) (DM b G)) (WM G) G) := by
  have key := loop_cl (fun n v s => f_X8_copyDish_l2_3 (iN a) (iN b) n v s) (fun j => stM b (spD (DM b G) 0 j (DM a G)) (WM G) G) 0 112 (some (stM b (cpS (DM a G) (DM b G)) (WM G) G)) ?_ ?_ (by omega) (n := FU) (fu_lt (by omega))
  · rw [spD_nil, stM_eta] at key
    have key : f_X8_copyDish_l2_3 (iN a) (iN b) FU (iN 0) G = some (stM b (cpS (DM a G) (DM b G)) (WM G) G) := key
    unfold f_X8_copyDish
    simp (disch := omega) only [chk_t, beq_self_eq_true, nm_s, bj1_s, bj2_s, bj3_s, mo_1, mo_0, l_0, l_1, l_2, l_3, l_4, l_5, l_6, l_7, l_8, l_9, l_10, l_11, l_12, l_13, l_14, l_15, l_16, l_17, l_18, l_19, l_20, l_21, l_30, l_31, l_32, l_36, l_40, l_41, l_42, l_43, l_44, l_45, l_46, l_47, l_48, l_49, l_50, l_51, l_52, l_57, l_58, l_60, l_64, l_72, l_80, l_92, l_98, l_99, l_100, l_102, l_105, l_111, l_112, l_114, l_115, l_116, l_117, l_120, l_144, l_200, l_201, l_240, l_300, l_320, l_400, l_500, l_550, l_560, l_649, l_650, l_1000, l_1400, l_2000, l_4000, l_10000, iN_add, iN_sub, iN_mul, iN_le_t, iN_le_f, iN_lt_t, iN_lt_f, iN_eq_f, inb_iN, ix_iN, isZ_0, isZ_1, ↓reduceIte, eq_self, key]
  · intro f j h3 h4
    show f_X8_copyDish_l2_3 (iN a) (iN b) (f + 1) (iN j) _ = f_X8_copyDish_l2_3 (iN a) (iN b) f (iN (j + 1)) _
    conv => lhs; unfold f_X8_copyDish_l2_3
    have e : (stM b (spD (DM b G) 0 j (DM a G)) (WM G) G).1 139 (112 * a + j) = DM a G j := by
      rw [stM_139]
      split
      · rw [spD_out (by omega)]
        unfold DM
        rw [show 112 * b + (112 * a + j - 112 * b) = 112 * a + j by omega]
      · rfl
    have e2 : sI (stM b (spD (DM b G) 0 j (DM a G)) (WM G) G) 139 (112 * b + j) (DM a G j) = stM b (spD (DM b G) 0 (j + 1) (DM a G)) (WM G) G := by
      rw [← spD_up (b := j) (x := DM a G j) (by omega) rfl]
      refine G_ext (fun q i => ?_) rfl
      show u2 (stM b (spD (DM b G) 0 j (DM a G)) (WM G) G).1 139 (112 * b + j) (DM a G j) q i = _
      rw [u2_eq]
      by_cases hq : q = 139
      · subst hq
        rw [if_pos rfl, stM_139, stM_139]
        unfold up
        by_cases hj : i = 112 * b + j
        · rw [if_pos hj, if_pos (by omega), if_pos (by omega)]
        · rw [if_neg hj]
          split
          · rw [if_neg (by omega)]
          · rfl
      · rw [if_neg hq]
        by_cases h2 : q = 140
        · subst h2
          rw [stM_140, stM_140]
        · rw [stM_o hq h2, stM_o hq h2]
    simp (disch := omega) only [chk_t, beq_self_eq_true, nm_s, bj1_s, bj2_s, bj3_s, mo_1, mo_0, l_0, l_1, l_2, l_3, l_4, l_5, l_6, l_7, l_8, l_9, l_10, l_11, l_12, l_13, l_14, l_15, l_16, l_17, l_18, l_19, l_20, l_21, l_30, l_31, l_32, l_36, l_40, l_41, l_42, l_43, l_44, l_45, l_46, l_47, l_48, l_49, l_50, l_51, l_52, l_57, l_58, l_60, l_64, l_72, l_80, l_92, l_98, l_99, l_100, l_102, l_105, l_111, l_112, l_114, l_115, l_116, l_117, l_120, l_144, l_200, l_201, l_240, l_300, l_320, l_400, l_500, l_550, l_560, l_649, l_650, l_1000, l_1400, l_2000, l_4000, l_10000, iN_add, iN_sub, iN_mul, iN_le_t, iN_le_f, iN_lt_t, iN_lt_f, iN_eq_f, inb_iN, ix_iN, isZ_0, isZ_1, ↓reduceIte, eq_self, e, e2]
  · intro f
    show f_X8_copyDish_l2_3 (iN a) (iN b) (f + 1) (iN 112) _ = _
    unfold f_X8_copyDish_l2_3
    simp (disch := omega) only [chk_t, beq_self_eq_true, nm_s, bj1_s, bj2_s, bj3_s, mo_1, mo_0, l_0, l_1, l_2, l_3, l_4, l_5, l_6, l_7, l_8, l_9, l_10, l_11, l_12, l_13, l_14, l_15, l_16, l_17, l_18, l_19, l_20, l_21, l_30, l_31, l_32, l_36, l_40, l_41, l_42, l_43, l_44, l_45, l_46, l_47, l_48, l_49, l_50, l_51, l_52, l_57, l_58, l_60, l_64, l_72, l_80, l_92, l_98, l_99, l_100, l_102, l_105, l_111, l_112, l_114, l_115, l_116, l_117, l_120, l_144, l_200, l_201, l_240, l_300, l_320, l_400, l_500, l_550, l_560, l_649, l_650, l_1000, l_1400, l_2000, l_4000, l_10000, iN_add, iN_sub, iN_mul, iN_le_t, iN_le_f, iN_lt_t, iN_lt_f, iN_eq_f, inb_iN, ix_iN, isZ_0, isZ_1, ↓reduceIte, eq_self]
    rfl

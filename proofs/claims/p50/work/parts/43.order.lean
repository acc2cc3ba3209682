/-! one on the fire -/
theorem okC_1 : ∀ b, b < 4 → okC b 1 1 = true → b = 0 := by decide +kernel
theorem okC_0 : okC 0 1 1 = true := by decide +kernel
theorem sb_0 : ∀ s, s < 16 → sb s 0 = true → s = 0 := by decide +kernel
theorem order_c {n mm : Nat} {X : Nat → Int32} {G : G_} (hs : SL 0 n X G) (hp : PL 0 mm X G) (z17 : isZ (G.1 17 7) = true) : ∃ x A, f_X7_order (iN 1) (iN 4) G = some (iN x, A) ∧ x ≤ 2000 ∧ A.1 59 1 = iN 1 ∧ A.1 60 0 = iN 0 ∧ (∀ q, ¬ scr q → q ≠ 59 → q ≠ 60 → A.1 q = G.1 q) := by
  have k59 : kd 59 = 4 := rfl
  have k71 : kd 71 = 5 := rfl
  have k75 : kd 75 = 2 := rfl
  have r4 : f_X7_rowAt (iN 4) G = some (some 59) := (rowAt_t (k := 4) (by omega) G).1
  have s0 : f_X7_slabAt (iN 0) G = some (some 71) := (slabAt_t (k := 0) (by omega) G).1
  have p0 : f_X7_planAt (iN 0) G = some (some 75) := (planAt_t (k := 0) (by omega) G).1
  have w : f_X7_within (iN 1) (iN 1) (iN 15) = some (iN 1) := in_1 (by omega) (by omega)
  have q1 : G.1 71 0 = iN 1 := hs.1
  have t1 : G.1 75 3 = iN 1 := hp.1
  have x1 : G.1 71 1 = iN n := hs.2.1.1.trans hs.2.2.1.1
  have x3 : G.1 71 3 = X 2 := hs.2.1.2.2.1
  have hb : f_X7_hasBoth (iN 0) G = some (iN 1) := by
    unfold f_X7_hasBoth
    simp (disch := omega) only [chk_t, beq_self_eq_true, nm_s, bj1_s, bj2_s, bj3_s, mo_1, mo_0, l_0, l_1, l_2, l_3, l_4, l_5, l_6, l_7, l_8, l_9, l_10, l_11, l_12, l_13, l_14, l_15, l_16, l_17, l_18, l_19, l_20, l_21, l_24, l_30, l_31, l_32, l_36, l_40, l_41, l_42, l_43, l_44, l_45, l_46, l_47, l_48, l_49, l_50, l_51, l_52, l_57, l_58, l_60, l_61, l_64, l_72, l_80, l_92, l_98, l_99, l_100, l_102, l_105, l_111, l_112, l_114, l_115, l_116, l_117, l_120, l_144, l_200, l_201, l_240, l_300, l_320, l_400, l_500, l_512, l_550, l_560, l_649, l_650, l_1000, l_1032, l_1400, l_2000, l_4000, l_10000, l_268435455, iN_add, iN_sub, iN_mul, iN_le_t, iN_le_f, iN_lt_t, iN_lt_f, iN_eq_f, inb_iN, ix_iN, isZ_0, isZ_1, ↓reduceIte, eq_self, s0, p0, kd_b k71, kd_b k75, q1, t1]
  have isI : ∀ x, x < 4 → f_X7_isIn (iN x) (iN 1) = some (iN (1 / 2 ^ x % 2)) := fun x hx => t_isIn x hx 1 (by omega)
  have i0 : f_X7_isIn (iN 0) (iN 1) = some (iN 1) := isI 0 (by omega)
  have i1 : f_X7_isIn (iN 1) (iN 1) = some (iN 0) := isI 1 (by omega)
  have i2 : f_X7_isIn (iN 2) (iN 1) = some (iN 0) := isI 2 (by omega)
  have i3 : f_X7_isIn (iN 3) (iN 1) = some (iN 0) := isI 3 (by omega)
  -- what it loses
  obtain ⟨A, hA, cA, fA⟩ := mkPl_ok (o := 17) (a := 71) (b := 75) (G := G) rfl k71 (by omega) k75 (by omega) hs.2.2 hs.2.1.2.1 hs.2.1.2.2.2 hp.2.2 hp.2.1
  have wm := wf_mk hs.2.2 hp.2.2
  have jm := jB_mk hs.2.2 hp.2.2
  obtain ⟨T, eT⟩ : ∃ T : Nat → Nat, T = fun _ => 0 := ⟨_, rfl⟩
  have T0 : ∀ s, s < 16 → tkN T s = 0 := fun s _ => by
    rw [tkN_eq, eT]
    have z : ∀ b, bt b 0 = 0 := fun b => by unfold bt; split <;> rfl
    simp only [z]
  have ccA : cc G A := cc_fr fA (by omega) (by omega)
  obtain ⟨B, hB, ccB, vB⟩ := tell61 (T := T) (k := 0) (o := 0) (F := fun j => lossS (restS (mkS X) j)) (G := G) (A := A) (by omega) (by omega) (by rw [T0 0 (by omega)]; omega) (fun i _ h => by rw [Nat.zero_div] at h; exact absurd h (by omega)) wm (fun _ => rfl) cA ccA
  rw [T0 0 (by omega)] at hB
  have to : f_X7_ticksOf (iN 0) A = some (iN 0) := by
    have := ticksOf_ok (T := T) (s := 0) (G := A) (by omega) (fun k _ h => by rw [Nat.zero_div] at h; exact absurd h (by omega))
    rw [T0 0 (by omega)] at this
    exact this
  have rm : iN 1 &&& ((iN 1 <<< (iN 0 &&& iN 31)) ^^^ (-iN 1)) = iN 0 := t_rmN 0 (by omega) 1 (by omega)
  have tl : f_X7_tellLosses (iN 0) (iN 1) G = some B := by
    unfold f_X7_tellLosses
    simp (disch := omega) only [chk_t, beq_self_eq_true, nm_s, bj1_s, bj2_s, bj3_s, mo_1, mo_0, l_0, l_1, l_2, l_3, l_4, l_5, l_6, l_7, l_8, l_9, l_10, l_11, l_12, l_13, l_14, l_15, l_16, l_17, l_18, l_19, l_20, l_21, l_24, l_30, l_31, l_32, l_36, l_40, l_41, l_42, l_43, l_44, l_45, l_46, l_47, l_48, l_49, l_50, l_51, l_52, l_57, l_58, l_60, l_61, l_64, l_72, l_80, l_92, l_98, l_99, l_100, l_102, l_105, l_111, l_112, l_114, l_115, l_116, l_117, l_120, l_144, l_200, l_201, l_240, l_300, l_320, l_400, l_500, l_512, l_550, l_560, l_649, l_650, l_1000, l_1032, l_1400, l_2000, l_4000, l_10000, l_268435455, iN_add, iN_sub, iN_mul, iN_le_t, iN_le_f, iN_lt_t, iN_lt_f, iN_eq_f, inb_iN, ix_iN, isZ_0, isZ_1, ↓reduceIte, eq_self, s0, p0, kd_b k71, kd_b k75, x1, x3, hA, rm, to, hB]
  obtain ⟨k0, b0, e0⟩ := loss_R wm jm
  have v0 : B.1 46 0 = iN k0 := by
    have := vB 0 0 (by omega) (by omega)
    rw [if_pos ⟨rfl, by decide, by rw [T0 0 (by omega)]; omega⟩, T0 0 (by omega)] at this
    exact this.trans e0
  -- the loops
  have l64 : f_X7_order_l64_11 (iN 1) 59 FU (iN 0) G = some B := by
    show f_X7_order_l64_11 (iN 1) 59 (995 + 1 + 1 + 1 + 1 + 1) (iN 0) G = some B
    unfold f_X7_order_l64_11
    simp (disch := omega) only [chk_t, beq_self_eq_true, nm_s, bj1_s, bj2_s, bj3_s, mo_1, mo_0, l_0, l_1, l_2, l_3, l_4, l_5, l_6, l_7, l_8, l_9, l_10, l_11, l_12, l_13, l_14, l_15, l_16, l_17, l_18, l_19, l_20, l_21, l_24, l_30, l_31, l_32, l_36, l_40, l_41, l_42, l_43, l_44, l_45, l_46, l_47, l_48, l_49, l_50, l_51, l_52, l_57, l_58, l_60, l_61, l_64, l_72, l_80, l_92, l_98, l_99, l_100, l_102, l_105, l_111, l_112, l_114, l_115, l_116, l_117, l_120, l_144, l_200, l_201, l_240, l_300, l_320, l_400, l_500, l_512, l_550, l_560, l_649, l_650, l_1000, l_1032, l_1400, l_2000, l_4000, l_10000, l_268435455, iN_add, iN_sub, iN_mul, iN_le_t, iN_le_f, iN_lt_t, iN_lt_f, iN_eq_f, inb_iN, ix_iN, isZ_0, isZ_1, ↓reduceIte, eq_self, i0, tl]
    unfold f_X7_order_l64_11
    simp (disch := omega) only [chk_t, beq_self_eq_true, nm_s, bj1_s, bj2_s, bj3_s, mo_1, mo_0, l_0, l_1, l_2, l_3, l_4, l_5, l_6, l_7, l_8, l_9, l_10, l_11, l_12, l_13, l_14, l_15, l_16, l_17, l_18, l_19, l_20, l_21, l_24, l_30, l_31, l_32, l_36, l_40, l_41, l_42, l_43, l_44, l_45, l_46, l_47, l_48, l_49, l_50, l_51, l_52, l_57, l_58, l_60, l_61, l_64, l_72, l_80, l_92, l_98, l_99, l_100, l_102, l_105, l_111, l_112, l_114, l_115, l_116, l_117, l_120, l_144, l_200, l_201, l_240, l_300, l_320, l_400, l_500, l_512, l_550, l_560, l_649, l_650, l_1000, l_1032, l_1400, l_2000, l_4000, l_10000, l_268435455, iN_add, iN_sub, iN_mul, iN_le_t, iN_le_f, iN_lt_t, iN_lt_f, iN_eq_f, inb_iN, ix_iN, isZ_0, isZ_1, ↓reduceIte, eq_self, i1]
    unfold f_X7_order_l64_11
    simp (disch := omega) only [chk_t, beq_self_eq_true, nm_s, bj1_s, bj2_s, bj3_s, mo_1, mo_0, l_0, l_1, l_2, l_3, l_4, l_5, l_6, l_7, l_8, l_9, l_10, l_11, l_12, l_13, l_14, l_15, l_16, l_17, l_18, l_19, l_20, l_21, l_24, l_30, l_31, l_32, l_36, l_40, l_41, l_42, l_43, l_44, l_45, l_46, l_47, l_48, l_49, l_50, l_51, l_52, l_57, l_58, l_60, l_61, l_64, l_72, l_80, l_92, l_98, l_99, l_100, l_102, l_105, l_111, l_112, l_114, l_115, l_116, l_117, l_120, l_144, l_200, l_201, l_240, l_300, l_320, l_400, l_500, l_512, l_550, l_560, l_649, l_650, l_1000, l_1032, l_1400, l_2000, l_4000, l_10000, l_268435455, iN_add, iN_sub, iN_mul, iN_le_t, iN_le_f, iN_lt_t, iN_lt_f, iN_eq_f, inb_iN, ix_iN, isZ_0, isZ_1, ↓reduceIte, eq_self, i2]
    unfold f_X7_order_l64_11
    simp (disch := omega) only [chk_t, beq_self_eq_true, nm_s, bj1_s, bj2_s, bj3_s, mo_1, mo_0, l_0, l_1, l_2, l_3, l_4, l_5, l_6, l_7, l_8, l_9, l_10, l_11, l_12, l_13, l_14, l_15, l_16, l_17, l_18, l_19, l_20, l_21, l_24, l_30, l_31, l_32, l_36, l_40, l_41, l_42, l_43, l_44, l_45, l_46, l_47, l_48, l_49, l_50, l_51, l_52, l_57, l_58, l_60, l_61, l_64, l_72, l_80, l_92, l_98, l_99, l_100, l_102, l_105, l_111, l_112, l_114, l_115, l_116, l_117, l_120, l_144, l_200, l_201, l_240, l_300, l_320, l_400, l_500, l_512, l_550, l_560, l_649, l_650, l_1000, l_1032, l_1400, l_2000, l_4000, l_10000, l_268435455, iN_add, iN_sub, iN_mul, iN_le_t, iN_le_f, iN_lt_t, iN_lt_f, iN_eq_f, inb_iN, ix_iN, isZ_0, isZ_1, ↓reduceIte, eq_self, i3]
    unfold f_X7_order_l64_11
    simp (disch := omega) only [chk_t, beq_self_eq_true, nm_s, bj1_s, bj2_s, bj3_s, mo_1, mo_0, l_0, l_1, l_2, l_3, l_4, l_5, l_6, l_7, l_8, l_9, l_10, l_11, l_12, l_13, l_14, l_15, l_16, l_17, l_18, l_19, l_20, l_21, l_24, l_30, l_31, l_32, l_36, l_40, l_41, l_42, l_43, l_44, l_45, l_46, l_47, l_48, l_49, l_50, l_51, l_52, l_57, l_58, l_60, l_61, l_64, l_72, l_80, l_92, l_98, l_99, l_100, l_102, l_105, l_111, l_112, l_114, l_115, l_116, l_117, l_120, l_144, l_200, l_201, l_240, l_300, l_320, l_400, l_500, l_512, l_550, l_560, l_649, l_650, l_1000, l_1032, l_1400, l_2000, l_4000, l_10000, l_268435455, iN_add, iN_sub, iN_mul, iN_le_t, iN_le_f, iN_lt_t, iN_lt_f, iN_eq_f, inb_iN, ix_iN, isZ_0, isZ_1, ↓reduceIte, eq_self]
  obtain ⟨C, r, hC, hr, fC, -, -, vC⟩ := cbest_ok (T := T) (ls := fun _ _ => k0) (a := 1) (G := B) (by omega) (fun _ _ => b0) (fun k hk hb s hs' hsb => by
    have : k = 0 := by
      rcases (by omega : k = 0 ∨ k = 1 ∨ k = 2 ∨ k = 3) with h | h | h | h
      · exact h
      · subst h; exact absurd hb (by decide)
      · subst h; exact absurd hb (by decide)
      · subst h; exact absurd hb (by decide)
    subst this
    have e : s = 0 := sb_0 s hs' hsb
    subst e
    exact v0)
  have p1 : pcS 1 = 1 := by decide
  rw [p1] at hr vC
  obtain ⟨b, eb, b4, ob, -, -⟩ := hr.resolve_left (fun h => h.2 0 (by omega) okC_0)
  have z := okC_1 b b4 ob
  subst z
  obtain ⟨l0, l1⟩ := vC 0 eb
  have ml := mu_le (T := T) (ls := fun _ _ => k0) (c := 0) (fun _ _ => b0) 1
  have l1 : C.1 47 0 = iN 0 := l1 0 (by omega)
  have bc : f_J6_bitCount_0f7a4 (iN 1) = some (iN 1) := t_bc 1 (by omega)
  obtain ⟨D, hD, d1, d2, d3, -⟩ := rbegin_ok (o := 59) (z := 1) (G := C) k59 (by omega)
  obtain ⟨E, hE, e1, e2, e3, -⟩ := l111_ok (p := 59) (n := 1) (F := fun _ => iN 0) (G := D) k59 (by omega) (by omega) d1 d2 (fun i hi => by
    rw [d3 47 (by omega) (by omega), show i = 0 by omega]
    exact l1)
  have l45 : E.1 45 2 = iN (muN T (fun _ _ => k0) 0 1) := by
    rw [e3 45 (by omega), d3 45 (by omega) (by omega)]
    exact l0
  have l25 : f_X7_order_l25_8 (iN 1) 59 G FU (iN 0) = some (iN (muN T (fun _ _ => k0) 0 1), E) := by
    show f_X7_order_l25_8 (iN 1) 59 G (995 + 1 + 1 + 1 + 1 + 1) (iN 0) = _
    unfold f_X7_order_l25_8
    simp (disch := omega) only [chk_t, beq_self_eq_true, nm_s, bj1_s, bj2_s, bj3_s, mo_1, mo_0, l_0, l_1, l_2, l_3, l_4, l_5, l_6, l_7, l_8, l_9, l_10, l_11, l_12, l_13, l_14, l_15, l_16, l_17, l_18, l_19, l_20, l_21, l_24, l_30, l_31, l_32, l_36, l_40, l_41, l_42, l_43, l_44, l_45, l_46, l_47, l_48, l_49, l_50, l_51, l_52, l_57, l_58, l_60, l_61, l_64, l_72, l_80, l_92, l_98, l_99, l_100, l_102, l_105, l_111, l_112, l_114, l_115, l_116, l_117, l_120, l_144, l_200, l_201, l_240, l_300, l_320, l_400, l_500, l_512, l_550, l_560, l_649, l_650, l_1000, l_1032, l_1400, l_2000, l_4000, l_10000, l_268435455, iN_add, iN_sub, iN_mul, iN_le_t, iN_le_f, iN_lt_t, iN_lt_f, iN_eq_f, inb_iN, ix_iN, isZ_0, isZ_1, ↓reduceIte, eq_self, i0, hb]
    unfold f_X7_order_l25_8
    simp (disch := omega) only [chk_t, beq_self_eq_true, nm_s, bj1_s, bj2_s, bj3_s, mo_1, mo_0, l_0, l_1, l_2, l_3, l_4, l_5, l_6, l_7, l_8, l_9, l_10, l_11, l_12, l_13, l_14, l_15, l_16, l_17, l_18, l_19, l_20, l_21, l_24, l_30, l_31, l_32, l_36, l_40, l_41, l_42, l_43, l_44, l_45, l_46, l_47, l_48, l_49, l_50, l_51, l_52, l_57, l_58, l_60, l_61, l_64, l_72, l_80, l_92, l_98, l_99, l_100, l_102, l_105, l_111, l_112, l_114, l_115, l_116, l_117, l_120, l_144, l_200, l_201, l_240, l_300, l_320, l_400, l_500, l_512, l_550, l_560, l_649, l_650, l_1000, l_1032, l_1400, l_2000, l_4000, l_10000, l_268435455, iN_add, iN_sub, iN_mul, iN_le_t, iN_le_f, iN_lt_t, iN_lt_f, iN_eq_f, inb_iN, ix_iN, isZ_0, isZ_1, ↓reduceIte, eq_self, i1]
    unfold f_X7_order_l25_8
    simp (disch := omega) only [chk_t, beq_self_eq_true, nm_s, bj1_s, bj2_s, bj3_s, mo_1, mo_0, l_0, l_1, l_2, l_3, l_4, l_5, l_6, l_7, l_8, l_9, l_10, l_11, l_12, l_13, l_14, l_15, l_16, l_17, l_18, l_19, l_20, l_21, l_24, l_30, l_31, l_32, l_36, l_40, l_41, l_42, l_43, l_44, l_45, l_46, l_47, l_48, l_49, l_50, l_51, l_52, l_57, l_58, l_60, l_61, l_64, l_72, l_80, l_92, l_98, l_99, l_100, l_102, l_105, l_111, l_112, l_114, l_115, l_116, l_117, l_120, l_144, l_200, l_201, l_240, l_300, l_320, l_400, l_500, l_512, l_550, l_560, l_649, l_650, l_1000, l_1032, l_1400, l_2000, l_4000, l_10000, l_268435455, iN_add, iN_sub, iN_mul, iN_le_t, iN_le_f, iN_lt_t, iN_lt_f, iN_eq_f, inb_iN, ix_iN, isZ_0, isZ_1, ↓reduceIte, eq_self, i2]
    unfold f_X7_order_l25_8
    simp (disch := omega) only [chk_t, beq_self_eq_true, nm_s, bj1_s, bj2_s, bj3_s, mo_1, mo_0, l_0, l_1, l_2, l_3, l_4, l_5, l_6, l_7, l_8, l_9, l_10, l_11, l_12, l_13, l_14, l_15, l_16, l_17, l_18, l_19, l_20, l_21, l_24, l_30, l_31, l_32, l_36, l_40, l_41, l_42, l_43, l_44, l_45, l_46, l_47, l_48, l_49, l_50, l_51, l_52, l_57, l_58, l_60, l_61, l_64, l_72, l_80, l_92, l_98, l_99, l_100, l_102, l_105, l_111, l_112, l_114, l_115, l_116, l_117, l_120, l_144, l_200, l_201, l_240, l_300, l_320, l_400, l_500, l_512, l_550, l_560, l_649, l_650, l_1000, l_1032, l_1400, l_2000, l_4000, l_10000, l_268435455, iN_add, iN_sub, iN_mul, iN_le_t, iN_le_f, iN_lt_t, iN_lt_f, iN_eq_f, inb_iN, ix_iN, isZ_0, isZ_1, ↓reduceIte, eq_self, i3]
    unfold f_X7_order_l25_8
    simp (disch := omega) only [chk_t, beq_self_eq_true, nm_s, bj1_s, bj2_s, bj3_s, mo_1, mo_0, l_0, l_1, l_2, l_3, l_4, l_5, l_6, l_7, l_8, l_9, l_10, l_11, l_12, l_13, l_14, l_15, l_16, l_17, l_18, l_19, l_20, l_21, l_24, l_30, l_31, l_32, l_36, l_40, l_41, l_42, l_43, l_44, l_45, l_46, l_47, l_48, l_49, l_50, l_51, l_52, l_57, l_58, l_60, l_61, l_64, l_72, l_80, l_92, l_98, l_99, l_100, l_102, l_105, l_111, l_112, l_114, l_115, l_116, l_117, l_120, l_144, l_200, l_201, l_240, l_300, l_320, l_400, l_500, l_512, l_550, l_560, l_649, l_650, l_1000, l_1032, l_1400, l_2000, l_4000, l_10000, l_268435455, iN_add, iN_sub, iN_mul, iN_le_t, iN_le_f, iN_lt_t, iN_lt_f, iN_eq_f, inb_iN, ix_iN, isZ_0, isZ_1, ↓reduceIte, eq_self, l64, hC, bc, hD, hE, l45]
  refine ⟨_, E, ?_, by omega, e1, ?_, fun q h1 h2 h3 => ?_⟩
  · unfold f_X7_order
    simp (disch := omega) only [chk_t, beq_self_eq_true, nm_s, bj1_s, bj2_s, bj3_s, mo_1, mo_0, l_0, l_1, l_2, l_3, l_4, l_5, l_6, l_7, l_8, l_9, l_10, l_11, l_12, l_13, l_14, l_15, l_16, l_17, l_18, l_19, l_20, l_21, l_24, l_30, l_31, l_32, l_36, l_40, l_41, l_42, l_43, l_44, l_45, l_46, l_47, l_48, l_49, l_50, l_51, l_52, l_57, l_58, l_60, l_61, l_64, l_72, l_80, l_92, l_98, l_99, l_100, l_102, l_105, l_111, l_112, l_114, l_115, l_116, l_117, l_120, l_144, l_200, l_201, l_240, l_300, l_320, l_400, l_500, l_512, l_550, l_560, l_649, l_650, l_1000, l_1032, l_1400, l_2000, l_4000, l_10000, l_268435455, iN_add, iN_sub, iN_mul, iN_le_t, iN_le_f, iN_lt_t, iN_lt_f, iN_eq_f, inb_iN, ix_iN, isZ_0, isZ_1, ↓reduceIte, eq_self, r4, kd_b k59, w, l25]
  · have := e2 0 (by omega)
    rw [if_pos (by omega)] at this
    exact this
  · unfold scr at h1
    rw [e3 q h3, d3 q h2 h3, fC q (by omega) (by omega), ccB.1 q (by omega)]
/-! salt -/
theorem up2 {D : Nat → Int32} {x : Int32} {p : Nat} (h : p ≠ 2) : up D 2 x p = D p := up_ne h
theorem nD_2 {D : Nat → Int32} {x : Int32} : nD (up D 2 x) = nD D := nD_of (up2 (by omega))
theorem sp_2 {D : Nat → Int32} {a b : Nat} {f g : Nat → Int32} {x : Int32} (ha : 2 < a) (h : ∀ p, a ≤ p → p < b → f p = g p) : spD (up D 2 x) a b f = up (spD D a b g) 2 x := by
  funext p
  by_cases c : p = 2
  · subst c
    rw [spD_out (by omega), up_eq, up_eq]
  · rw [up2 c]
    by_cases c2 : a ≤ p ∧ p < b
    · rw [spD_in c2.1 c2.2, spD_in c2.1 c2.2]
      exact h p c2.1 c2.2
    · rw [spD_out (by omega), spD_out (by omega), up2 c]
theorem warm_2 {k q : Int32} {D : Nat → Int32} {x : Int32} {i : Nat} : warmS k q (up D 2 x) i = warmS k q D i := by
  unfold warmS
  rw [nD_2]
  simp (disch := omega) only [up2]
theorem warms_2 {k q : Int32} {D : Nat → Int32} {x : Int32} : warmsS k q (up D 2 x) = up (warmsS k q D) 2 x := by
  unfold warmsS
  rw [nD_2]
  exact sp_2 (by omega) (fun p _ _ => warm_2)
theorem dry_2 {s i : Nat} {D : Nat → Int32} {x : Int32} : dryS s i (up D 2 x) = up (dryS s i D) 2 x := by
  unfold dryS
  rw [up2 (p := 48 + s) (by omega), up2 (p := 52 + i) (by omega)]
  split
  · rfl
  · split
    · rfl
    · rw [up_com (p := 2) (q := 48 + s) (by omega), up_com (p := 2) (q := 52 + i) (by omega)]
theorem bath_2 {s : Nat} {k : Int32} {D : Nat → Int32} {x : Int32} : bathS k s (up D 2 x) = up (bathS k s D) 2 x := by
  unfold bathS
  split
  · rw [up_com (p := 2) (q := 48 + s) (by omega)]
  · rfl
theorem most_2 {n : Nat} {D : Nat → Int32} {x : Int32} : mostS (up D 2 x) n = up (mostS D n) 2 x := by
  unfold mostS
  rw [sp_2 (g := fun p => if D (p - 20) < D p then D p else D (p - 20)) (by omega) (fun p h1 h2 => by rw [up2 (by omega), up2 (by omega)])]
  exact sp_2 (by omega) (fun p h1 h2 => by rw [up2 (by omega), up2 (by omega)])
theorem brown_2 {s i : Nat} {D : Nat → Int32} {x : Int32} : brownS s i (up D 2 x) = up (brownS s i D) 2 x := by
  unfold brownS
  rw [up2 (p := 48 + s) (by omega), up2 (p := 52 + i) (by omega), up2 (p := 50 + s) (by omega), up2 (p := 3) (by omega)]
  split
  · split
    · rfl
    · rw [up_com (p := 2) (q := 50 + s) (by omega)]
  · rfl
theorem end_2 {k : Int32} {D : Nat → Int32} {x : Int32} : endS k (up D 2 x) = up (endS k D) 2 x := by
  unfold endS
  rw [up2 (p := 44) (by omega), up2 (p := 47) (by omega), up2 (p := 43) (by omega), up_com (p := 2) (q := 45) (by omega), up_com (p := 2) (q := 46) (by omega), up_com (p := 2) (q := 47) (by omega), up_com (p := 2) (q := 43) (by omega)]
theorem tick_2 {k q : Int32} {D : Nat → Int32} {x : Int32} : tickS k q (up D 2 x) = up (tickS k q D) 2 x := by
  unfold tickS
  rw [nD_2, warms_2, dry_2, bath_2, dry_2, bath_2, most_2, brown_2, brown_2, end_2]
theorem onc1_2 {D : Nat → Int32} {x : Int32} : onc1 (up D 2 x) = up (onc1 D) 2 x := by
  unfold onc1
  rw [up2 (p := 41) (by omega), up2 (p := 44) (by omega), up2 (p := 5 + 3 * ix (D 41)) (by omega)]
  split
  · rw [up_com (p := 2) (q := 44) (by omega), up_com (p := 2) (q := 41) (by omega)]
  · rw [up_com (p := 2) (q := 48) (by omega), up_com (p := 2) (q := 49) (by omega), up_com (p := 2) (q := 41) (by omega)]
theorem once_2 {x : Int32} : ∀ (f : Nat) (D : Nat → Int32), onceS f (up D 2 x) = up (onceS f D) 2 x := by
  intro f
  induction f with
  | zero => intro D; rfl
  | succ f ih =>
    intro D
    unfold onceS
    rw [up2 (p := 4) (by omega), up2 (p := 41) (by omega), up2 (p := 5 + 3 * ix (D 41)) (by omega)]
    split
    · rfl
    · split
      · rfl
      · rw [onc1_2, ih]
theorem go1_2 {D : Nat → Int32} {x : Int32} : go1 (up D 2 x) = up (go1 D) 2 x := by
  unfold go1
  rw [once_2]
  generalize onceS 12 D = E
  rw [up2 (p := 41) (by omega), up2 (p := 4) (by omega), up2 (p := 42) (by omega), up2 (p := 5 + 3 * ix (E 41) + 2) (by omega), up2 (p := 5 + 3 * ix (E 41)) (by omega), up2 (p := 5 + 3 * ix (E 41) + 1) (by omega), tick_2, tick_2]
  split
  · rfl
  · split
    · rw [up_com (p := 2) (q := 42) (by omega), up_com (p := 2) (q := 41) (by omega)]
    · rw [up_com (p := 2) (q := 42) (by omega)]
theorem go_2 {D : Nat → Int32} {x : Int32} (k : Nat) : goS (up D 2 x) k = up (goS D k) 2 x := by
  induction k with
  | zero => rfl
  | succ k ih =>
    show go1 (goS (up D 2 x) k) = up (go1 (goS D k)) 2 x
    rw [ih, go1_2]
theorem bg_2 {X : Nat → Int32} {a b : Int32} (h : wetS a = wetS b) : bgS (up X 2 a) = up (bgS (up X 2 b)) 2 a := by
  funext p
  have e : ∀ z q, q ≠ 2 → up X 2 z q = X q := fun z q hq => up_ne hq
  by_cases c : p = 2
  · subst c
    rw [bg_lo (by omega), up_eq, up_eq]
  · rw [up2 c]
    unfold bgS
    rw [nD_2, nD_2, e a p c, e b p c, up_eq, up_eq, e a 1 (by omega), e b 1 (by omega), h]
theorem tk_2 {X : Nat → Int32} {a : Int32} {mm : Nat} (h4 : X 4 = iN mm) (hm : mm ≤ 12) : tkS (up X 2 a) = tkS X := by
  unfold tkS
  rw [mD_of (up2 (by omega))]
  exact sumS_congr (fun i _ => up2 (by omega))
theorem crust_2 {X : Nat → Int32} {a b : Int32} {mm : Nat} (h4 : X 4 = iN mm) (hm : mm ≤ 12) (h : wetS a = wetS b) : crustS (mkS (up X 2 a)) = crustS (mkS (up X 2 b)) := by
  have e : mkS (up X 2 a) = up (mkS (up X 2 b)) 2 a := by
    unfold mkS
    rw [tk_2 h4 hm, tk_2 h4 hm, bg_2 h, go_2, once_2]
  rw [e]
  unfold crustS
  rw [up2 (by omega), up2 (by omega)]
theorem wet_50 {s : Nat} (h : 50 ≤ s) (h2 : s ≤ 1000) : wetS (iN s) = wetS (iN 50) := by
  unfold wetS
  rw [if_pos ((iN_lt (by omega) (by omega)).mpr (by omega : 10 < s)), if_pos ((iN_lt (by omega) (by omega)).mpr (by omega : 10 < 50))]
  by_cases c : s = 50
  · rw [c]
  · rw [if_pos (t_lt.mpr (by rw [t_sub (by rw [li (by omega), li (by omega)]; omega) (by rw [li (by omega), li (by omega)]; omega), li (by omega), li (by omega), li (by omega)]; omega))]
    decide

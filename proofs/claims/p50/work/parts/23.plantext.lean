/-! plans that the law writes, and what is read in them -/
def stc (k : Nat) : Nat := if k = 1 then 105 else if k = 2 then 111 else if k = 3 then 98 else if k = 4 then 114 else if k = 5 then 117 else 100
def stl (s : Nat × Nat × Nat) : List Nat := stc s.1 :: ((if s.1 ≤ 3 then dg s.2.1 ++ [58] else []) ++ (if s.1 ≤ 4 then dg s.2.2 else []))
def stg (s : Nat × Nat × Nat) : Prop := 1 ≤ s.1 ∧ s.1 ≤ 6 ∧ (s.1 ≤ 3 → 2 ≤ s.2.1 ∧ s.2.1 ≤ 30) ∧ (3 < s.1 → s.2.1 = 0) ∧ (s.1 ≤ 4 → 1 ≤ s.2.2 ∧ s.2.2 ≤ 60) ∧ (4 < s.1 → s.2.2 = 0)
theorem stc_r {k : Nat} (h : 1 ≤ k ∧ k ≤ 6) : 98 ≤ stc k ∧ stc k < 128 := by
  unfold stc
  repeat (first | omega | split)
theorem stl_len {s : Nat × Nat × Nat} : 1 ≤ (stl s).length ∧ (stl s).length ≤ 6 := by
  have d1 := dg_len s.2.1
  have d2 := dg_len s.2.2
  unfold stl
  split <;> split <;> (simp; try omega)
/-- one step written -/
theorem lplan_s {a1 : Int32} {a2 n z i m : Nat} {s : Nat × Nat × Nat} {l : List Nat} {G : G_} (h : TX z l G) (hl : l.length + 6 ≤ z) (him : i < m) (hm : m ≤ 12) (ha : a2 ≠ 70) (h0 : G.1 a2 0 = iN m) (hk : G.1 a2 (1 + 3 * i) = iN s.1) (hq : G.1 a2 (2 + 3 * i) = iN s.2.1) (ht : G.1 a2 (3 + 3 * i) = iN s.2.2) (hs : stg s) : ∃ A, f_L_plan_l19_7 a1 a2 (n + 1) (iN l.length) (iN i) G = f_L_plan_l19_7 a1 a2 n (iN (l ++ stl s).length) (iN (i + 1)) A ∧ TX z (l ++ stl s) A ∧ (∀ q, q ≠ 70 → A.1 q = G.1 q) ∧ A.2 = G.2 := by
  have hz := h.2.2.2.1
  obtain ⟨k, q, t⟩ := s
  obtain ⟨s1, s2, s3, s4, s5, s6⟩ := hs
  have hk : G.1 a2 (1 + 3 * i) = iN k := hk
  have hq : G.1 a2 (2 + 3 * i) = iN q := hq
  have ht : G.1 a2 (3 + 3 * i) = iN t := ht
  have s1 : 1 ≤ k := s1
  have s2 : k ≤ 6 := s2
  have s3 : k ≤ 3 → 2 ≤ q ∧ q ≤ 30 := s3
  have s5 : k ≤ 4 → 1 ≤ t ∧ t ≤ 60 := s5
  have hc := stc_r (k := k) ⟨s1, s2⟩
  obtain ⟨h1, h2⟩ := lput_c (c := stc k) h (by omega) hc.2
  have hl2 : (l ++ [stc k]).length = l.length + 1 := by rw [List.length_append]; rfl
  have d1 := dg_len q
  have d2 := dg_len t
  by_cases c3 : k ≤ 3
  · obtain ⟨A, h3, h4, h5, h6⟩ := lnum_c (v := q) h2 (by have := s3 c3; omega) (by rw [hl2]; omega)
    have hl3 : (l ++ [stc k] ++ dg q).length = l.length + 1 + (dg q).length := by rw [List.length_append, hl2]
    obtain ⟨h7, h8⟩ := lput_c (c := 58) h4 (by rw [hl3]; omega) (by omega)
    have hl4 : (l ++ [stc k] ++ dg q ++ [58]).length = (l ++ [stc k] ++ dg q).length + 1 := by rw [List.length_append]; rfl
    obtain ⟨B, g3, g4, g5, g6⟩ := lnum_c (v := t) h8 (by have := s5 (by omega); omega) (by rw [hl4, hl3]; omega)
    have el : l ++ [stc k] ++ dg q ++ [58] ++ dg t = l ++ stl (k, q, t) := by
      show _ = l ++ (stc k :: ((if k ≤ 3 then dg q ++ [58] else []) ++ (if k ≤ 4 then dg t else [])))
      rw [if_pos c3, if_pos (by omega)]
      simp only [List.append_assoc, List.cons_append, List.nil_append]
    rw [el] at g3 g4
    rw [hl2] at h3
    rw [hl4] at g3
    have v1 : (sI G 70 l.length (iN (stc k))).1 a2 (2 + 3 * i) = iN q := by rw [sI_p ha]; exact hq
    have v2 : (sI A 70 (l ++ [stc k] ++ dg q).length (iN 58)).1 a2 (3 + 3 * i) = iN t := by rw [sI_p ha, h5 a2 ha, sI_p ha]; exact ht
    refine ⟨B, ?_, g4, fun q hq => by rw [g5 q hq, sI_p hq, h5 q hq, sI_p hq], g6.trans h6⟩
    generalize (l ++ stl (k, q, t)).length = m4 at *
    generalize (l ++ [stc k] ++ dg q).length = m3 at *
    generalize l.length = m1 at *
    conv => lhs; unfold f_L_plan_l19_7
    have : k = 1 ∨ k = 2 ∨ k = 3 := by omega
    unfold stc at *
    rcases this with rfl | rfl | rfl
    · simp only [↓reduceIte, Nat.reduceEqDiff] at *
      simp (maxSteps := 4000000) (disch := omega) only [chk_t, beq_self_eq_true, nm_s, bj1_s, bj2_s, bj3_s, mo_1, mo_0, l_0, l_1, l_2, l_3, l_4, l_5, l_6, l_7, l_8, l_9, l_10, l_11, l_12, l_13, l_14, l_15, l_16, l_17, l_18, l_19, l_20, l_21, l_24, l_30, l_31, l_32, l_36, l_40, l_41, l_42, l_43, l_44, l_45, l_46, l_47, l_48, l_49, l_50, l_51, l_52, l_57, l_58, l_60, l_61, l_64, l_72, l_80, l_92, l_98, l_99, l_100, l_102, l_105, l_111, l_112, l_114, l_115, l_116, l_117, l_120, l_144, l_200, l_201, l_240, l_300, l_320, l_400, l_500, l_512, l_550, l_560, l_649, l_650, l_1000, l_1032, l_1400, l_2000, l_4000, l_10000, l_268435455, iN_add, iN_sub, iN_mul, iN_le_t, iN_le_f, iN_lt_t, iN_lt_f, iN_eq_f, inb_iN, ix_iN, isZ_0, isZ_1, ↓reduceIte, eq_self, h0, hk, h1, v1, h3, h7, v2, g3]
    · simp only [↓reduceIte, Nat.reduceEqDiff] at *
      simp (maxSteps := 4000000) (disch := omega) only [chk_t, beq_self_eq_true, nm_s, bj1_s, bj2_s, bj3_s, mo_1, mo_0, l_0, l_1, l_2, l_3, l_4, l_5, l_6, l_7, l_8, l_9, l_10, l_11, l_12, l_13, l_14, l_15, l_16, l_17, l_18, l_19, l_20, l_21, l_24, l_30, l_31, l_32, l_36, l_40, l_41, l_42, l_43, l_44, l_45, l_46, l_47, l_48, l_49, l_50, l_51, l_52, l_57, l_58, l_60, l_61, l_64, l_72, l_80, l_92, l_98, l_99, l_100, l_102, l_105, l_111, l_112, l_114, l_115, l_116, l_117, l_120, l_144, l_200, l_201, l_240, l_300, l_320, l_400, l_500, l_512, l_550, l_560, l_649, l_650, l_1000, l_1032, l_1400, l_2000, l_4000, l_10000, l_268435455, iN_add, iN_sub, iN_mul, iN_le_t, iN_le_f, iN_lt_t, iN_lt_f, iN_eq_f, inb_iN, ix_iN, isZ_0, isZ_1, ↓reduceIte, eq_self, h0, hk, h1, v1, h3, h7, v2, g3]
    · simp only [↓reduceIte, Nat.reduceEqDiff] at *
      simp (maxSteps := 4000000) (disch := omega) only [chk_t, beq_self_eq_true, nm_s, bj1_s, bj2_s, bj3_s, mo_1, mo_0, l_0, l_1, l_2, l_3, l_4, l_5, l_6, l_7, l_8, l_9, l_10, l_11, l_12, l_13, l_14, l_15, l_16, l_17, l_18, l_19, l_20, l_21, l_24, l_30, l_31, l_32, l_36, l_40, l_41, l_42, l_43, l_44, l_45, l_46, l_47, l_48, l_49, l_50, l_51, l_52, l_57, l_58, l_60, l_61, l_64, l_72, l_80, l_92, l_98, l_99, l_100, l_102, l_105, l_111, l_112, l_114, l_115, l_116, l_117, l_120, l_144, l_200, l_201, l_240, l_300, l_320, l_400, l_500, l_512, l_550, l_560, l_649, l_650, l_1000, l_1032, l_1400, l_2000, l_4000, l_10000, l_268435455, iN_add, iN_sub, iN_mul, iN_le_t, iN_le_f, iN_lt_t, iN_lt_f, iN_eq_f, inb_iN, ix_iN, isZ_0, isZ_1, ↓reduceIte, eq_self, h0, hk, h1, v1, h3, h7, v2, g3]
  · by_cases c4 : k = 4
    · subst c4
      obtain ⟨B, g3, g4, g5, g6⟩ := lnum_c (v := t) h2 (by have := s5 (by omega); omega) (by rw [hl2]; omega)
      have el : l ++ [stc 4] ++ dg t = l ++ stl (4, q, t) := by
        show _ = l ++ (stc 4 :: ((if 4 ≤ 3 then dg q ++ [58] else []) ++ (if 4 ≤ 4 then dg t else [])))
        rw [if_neg (by omega), if_pos (by omega)]
        simp only [List.append_assoc, List.cons_append, List.nil_append]
      rw [el] at g3 g4
      rw [hl2] at g3
      have v2 : (sI G 70 l.length (iN (stc 4))).1 a2 (3 + 3 * i) = iN t := by rw [sI_p ha]; exact ht
      refine ⟨B, ?_, g4, fun q hq => by rw [g5 q hq, sI_p hq], g6⟩
      generalize (l ++ stl (4, q, t)).length = m4 at *
      generalize l.length = m1 at *
      rw [show stc 4 = 114 from rfl] at h1 v2 g3
      conv => lhs; unfold f_L_plan_l19_7
      simp (maxSteps := 4000000) (disch := omega) only [chk_t, beq_self_eq_true, nm_s, bj1_s, bj2_s, bj3_s, mo_1, mo_0, l_0, l_1, l_2, l_3, l_4, l_5, l_6, l_7, l_8, l_9, l_10, l_11, l_12, l_13, l_14, l_15, l_16, l_17, l_18, l_19, l_20, l_21, l_24, l_30, l_31, l_32, l_36, l_40, l_41, l_42, l_43, l_44, l_45, l_46, l_47, l_48, l_49, l_50, l_51, l_52, l_57, l_58, l_60, l_61, l_64, l_72, l_80, l_92, l_98, l_99, l_100, l_102, l_105, l_111, l_112, l_114, l_115, l_116, l_117, l_120, l_144, l_200, l_201, l_240, l_300, l_320, l_400, l_500, l_512, l_550, l_560, l_649, l_650, l_1000, l_1032, l_1400, l_2000, l_4000, l_10000, l_268435455, iN_add, iN_sub, iN_mul, iN_le_t, iN_le_f, iN_lt_t, iN_lt_f, iN_eq_f, inb_iN, ix_iN, isZ_0, isZ_1, ↓reduceIte, eq_self, h0, hk, h1, v2, g3]
    · have el : l ++ [stc k] = l ++ stl (k, q, t) := by
        show _ = l ++ (stc k :: ((if k ≤ 3 then dg q ++ [58] else []) ++ (if k ≤ 4 then dg t else [])))
        rw [if_neg c3, if_neg (by omega)]
        rfl
      rw [← el]
      refine ⟨_, ?_, h2, fun q hq => sI_p hq, rfl⟩
      rw [hl2]
      generalize l.length = m1 at *
      conv => lhs; unfold f_L_plan_l19_7
      have : k = 5 ∨ k = 6 := by omega
      rcases this with rfl | rfl
      · rw [show stc 5 = 117 from rfl] at h1 ⊢
        simp (maxSteps := 4000000) (disch := omega) only [chk_t, beq_self_eq_true, nm_s, bj1_s, bj2_s, bj3_s, mo_1, mo_0, l_0, l_1, l_2, l_3, l_4, l_5, l_6, l_7, l_8, l_9, l_10, l_11, l_12, l_13, l_14, l_15, l_16, l_17, l_18, l_19, l_20, l_21, l_24, l_30, l_31, l_32, l_36, l_40, l_41, l_42, l_43, l_44, l_45, l_46, l_47, l_48, l_49, l_50, l_51, l_52, l_57, l_58, l_60, l_61, l_64, l_72, l_80, l_92, l_98, l_99, l_100, l_102, l_105, l_111, l_112, l_114, l_115, l_116, l_117, l_120, l_144, l_200, l_201, l_240, l_300, l_320, l_400, l_500, l_512, l_550, l_560, l_649, l_650, l_1000, l_1032, l_1400, l_2000, l_4000, l_10000, l_268435455, iN_add, iN_sub, iN_mul, iN_le_t, iN_le_f, iN_lt_t, iN_lt_f, iN_eq_f, inb_iN, ix_iN, isZ_0, isZ_1, ↓reduceIte, eq_self, h0, hk, h1]
      · rw [show stc 6 = 100 from rfl] at h1 ⊢
        simp (maxSteps := 4000000) (disch := omega) only [chk_t, beq_self_eq_true, nm_s, bj1_s, bj2_s, bj3_s, mo_1, mo_0, l_0, l_1, l_2, l_3, l_4, l_5, l_6, l_7, l_8, l_9, l_10, l_11, l_12, l_13, l_14, l_15, l_16, l_17, l_18, l_19, l_20, l_21, l_24, l_30, l_31, l_32, l_36, l_40, l_41, l_42, l_43, l_44, l_45, l_46, l_47, l_48, l_49, l_50, l_51, l_52, l_57, l_58, l_60, l_61, l_64, l_72, l_80, l_92, l_98, l_99, l_100, l_102, l_105, l_111, l_112, l_114, l_115, l_116, l_117, l_120, l_144, l_200, l_201, l_240, l_300, l_320, l_400, l_500, l_512, l_550, l_560, l_649, l_650, l_1000, l_1032, l_1400, l_2000, l_4000, l_10000, l_268435455, iN_add, iN_sub, iN_mul, iN_le_t, iN_le_f, iN_lt_t, iN_lt_f, iN_eq_f, inb_iN, ix_iN, isZ_0, isZ_1, ↓reduceIte, eq_self, h0, hk, h1]
def plW (s : Nat → Nat × Nat × Nat) : Nat → List Nat
  | 0 => []
  | i + 1 => plW s i ++ stl (s i)
theorem plW_len (s : Nat → Nat × Nat × Nat) (i : Nat) : (plW s i).length ≤ 6 * i := by
  induction i with
  | zero => exact Nat.le_refl 0
  | succ i ih =>
    have := stl_len (s := s i)
    show (plW s i ++ stl (s i)).length ≤ _
    rw [List.length_append]
    omega
/-- the rows of steps that the law keeps -/
def stR (a2 m : Nat) (s : Nat → Nat × Nat × Nat) (G : G_) : Prop := G.1 a2 0 = iN m ∧ ∀ i, i < m → G.1 a2 (1 + 3 * i) = iN (s i).1 ∧ G.1 a2 (2 + 3 * i) = iN (s i).2.1 ∧ G.1 a2 (3 + 3 * i) = iN (s i).2.2
theorem stR_fr {a2 m : Nat} {s : Nat → Nat × Nat × Nat} {G A : G_} (h : stR a2 m s G) (e : A.1 a2 = G.1 a2) : stR a2 m s A := by
  unfold stR
  rw [e]
  exact h
theorem lplan_w {a1 : Int32} {a2 m : Nat} {s : Nat → Nat × Nat × Nat} {G : G_} (h : TX 80 [] G) (ha : a2 ≠ 70) (hm : m ≤ 12) (hR : stR a2 m s G) (hs : ∀ i, i < m → stg (s i)) : ∃ A, f_L_plan_l19_7 a1 a2 FU (iN 0) (iN 0) G = some (iN (plW s m).length, A) ∧ TX 80 (plW s m) A ∧ (∀ q, q ≠ 70 → A.1 q = G.1 q) ∧ A.2 = G.2 := by
  have key : ∀ (d i n : Nat) (B : G_), i + d = m → TX 80 (plW s i) B → (∀ q, q ≠ 70 → B.1 q = G.1 q) → B.2 = G.2 → ∃ A, f_L_plan_l19_7 a1 a2 (n + d + 1) (iN (plW s i).length) (iN i) B = some (iN (plW s m).length, A) ∧ TX 80 (plW s m) A ∧ (∀ q, q ≠ 70 → A.1 q = G.1 q) ∧ A.2 = G.2 := by
    intro d
    induction d with
    | zero =>
      intro i n B e hT hq h2
      have e : i = m := by omega
      subst e
      refine ⟨B, ?_, hT, hq, h2⟩
      have h0 : B.1 a2 0 = iN i := by rw [hq a2 ha]; exact hR.1
      generalize (plW s i).length = x
      unfold f_L_plan_l19_7
      simp (disch := omega) only [chk_t, beq_self_eq_true, nm_s, bj1_s, bj2_s, bj3_s, mo_1, mo_0, l_0, l_1, l_2, l_3, l_4, l_5, l_6, l_7, l_8, l_9, l_10, l_11, l_12, l_13, l_14, l_15, l_16, l_17, l_18, l_19, l_20, l_21, l_24, l_30, l_31, l_32, l_36, l_40, l_41, l_42, l_43, l_44, l_45, l_46, l_47, l_48, l_49, l_50, l_51, l_52, l_57, l_58, l_60, l_61, l_64, l_72, l_80, l_92, l_98, l_99, l_100, l_102, l_105, l_111, l_112, l_114, l_115, l_116, l_117, l_120, l_144, l_200, l_201, l_240, l_300, l_320, l_400, l_500, l_512, l_550, l_560, l_649, l_650, l_1000, l_1032, l_1400, l_2000, l_4000, l_10000, l_268435455, iN_add, iN_sub, iN_mul, iN_le_t, iN_le_f, iN_lt_t, iN_lt_f, iN_eq_f, inb_iN, ix_iN, isZ_0, isZ_1, ↓reduceIte, eq_self, h0]
    | succ d ih =>
      intro i n B e hT hq h2
      have hi : i < m := by omega
      obtain ⟨r1, r2, r3⟩ := hR.2 i hi
      have hl := plW_len s i
      obtain ⟨C, c1, c2, c3, c4⟩ := lplan_s (a1 := a1) (a2 := a2) (n := n + d + 1) (i := i) (m := m) (s := s i) hT (by omega) hi hm ha (by rw [hq a2 ha]; exact hR.1) (by rw [hq a2 ha]; exact r1) (by rw [hq a2 ha]; exact r2) (by rw [hq a2 ha]; exact r3) (hs i hi)
      obtain ⟨A, a1', a2', a3', a4'⟩ := ih (i + 1) n C (by omega) c2 (fun q hq' => by rw [c3 q hq', hq q hq']) (c4.trans h2)
      exact ⟨A, c1.trans a1', a2', a3', a4'⟩
  obtain ⟨A, h1, h2, h3, h4⟩ := key m 0 (999 - m) G (by omega) h (fun _ _ => rfl) rfl
  rw [show 999 - m + m + 1 = 1000 by omega] at h1
  exact ⟨A, h1, h2, h3, h4⟩
def adS (c k q t T : Nat) (G : G_) : G_ := sI (sI (sI (sI (sI G 42 c (iN k)) 43 c (iN q)) 44 c (iN t)) 41 4 (iN (c + 1))) 41 5 (iN (T + t))
theorem cadd_ok {c T l : Nat} {x y : Int32} {G : G_} (hc : c < 12) (h4 : G.1 41 4 = iN c) (h5 : G.1 41 5 = iN T) : f_X2_add 41 x y (iN l) G = some (sI (sI (sI (sI (sI G 42 c x) 43 c y) 44 c (iN l)) 41 4 (iN (c + 1))) 41 5 (iN (T + l))) := by
  have hk : kd 41 = 2 := rfl
  unfold f_X2_add
  simp (disch := omega) only [chk_t, beq_self_eq_true, nm_s, bj1_s, bj2_s, bj3_s, mo_1, mo_0, l_0, l_1, l_2, l_3, l_4, l_5, l_6, l_7, l_8, l_9, l_10, l_11, l_12, l_13, l_14, l_15, l_16, l_17, l_18, l_19, l_20, l_21, l_24, l_30, l_31, l_32, l_36, l_40, l_41, l_42, l_43, l_44, l_45, l_46, l_47, l_48, l_49, l_50, l_51, l_52, l_57, l_58, l_60, l_61, l_64, l_72, l_80, l_92, l_98, l_99, l_100, l_102, l_105, l_111, l_112, l_114, l_115, l_116, l_117, l_120, l_144, l_200, l_201, l_240, l_300, l_320, l_400, l_500, l_512, l_550, l_560, l_649, l_650, l_1000, l_1032, l_1400, l_2000, l_4000, l_10000, l_268435455, iN_add, iN_sub, iN_mul, iN_le_t, iN_le_f, iN_lt_t, iN_lt_f, iN_eq_f, inb_iN, ix_iN, isZ_0, isZ_1, ↓reduceIte, eq_self, kd_b hk, h4, sI_p, sI_j, h5]
theorem rdstep_c {z p c T : Nat} {s : Nat × Nat × Nat} {l r : List Nat} {G : G_} (h : TX z l G) (h39 : G.1 39 0 = iN p) (h9 : G.1 39 1 = -iN 9) (hd : l.drop p = stl s ++ r) (hr : noD r) (hs : stg s) (h4 : G.1 41 4 = iN c) (hc : c < 12) (h5 : G.1 41 5 = iN T) (hT : T + s.2.2 ≤ 200) : f_X3_readStep 69 41 G = some (adS c s.1 s.2.1 s.2.2 T (sI G 39 0 (iN (p + (stl s).length)))) := by
  obtain ⟨k, q, t⟩ := s
  obtain ⟨s1, s2, s3, s4, s5, s6⟩ := hs
  have s1 : 1 ≤ k := s1
  have s2 : k ≤ 6 := s2
  have s3 : k ≤ 3 → 2 ≤ q ∧ q ≤ 30 := s3
  have s4 : 3 < k → q = 0 := s4
  have s5 : k ≤ 4 → 1 ≤ t ∧ t ≤ 60 := s5
  have s6 : 4 < k → t = 0 := s6
  have hT : T + t ≤ 200 := hT
  have hd : l.drop p = stc k :: (((if k ≤ 3 then dg q ++ [58] else []) ++ (if k ≤ 4 then dg t else [])) ++ r) := hd
  obtain ⟨e1, e2, e3⟩ := gD_drop hd
  have hz := h.2.2.2.1
  have hl := h.2.2.1
  have ho : kd 69 = 6 := rfl
  have ho2 : kd 41 = 2 := rfl
  have hx := tval_c (p := p) h (by omega)
  rw [if_pos (by omega), e1] at hx
  show f_X3_readStep 69 41 G = some (adS c k q t T (sI G 39 0 (iN (p + (stl (k, q, t)).length))))
  have el : (stl (k, q, t)).length = 1 + ((if k ≤ 3 then dg q ++ [58] else []) ++ (if k ≤ 4 then dg t else [])).length := by
    show (stc k :: ((if k ≤ 3 then dg q ++ [58] else []) ++ (if k ≤ 4 then dg t else []))).length = _
    rw [List.length_cons]
    omega
  have ad : ∀ p', f_X2_add 41 (iN k) (iN q) (iN t) (sI G 39 0 (iN p')) = some (adS c k q t T (sI G 39 0 (iN p'))) := fun p' => cadd_ok hc (by rw [sI_p (by omega)]; exact h4) (by rw [sI_p (by omega)]; exact h5)
  have y9 : ∀ p', (sI G 39 0 (iN p')).1 39 1 = -iN 9 := fun p' => by rw [sI_j (by omega)]; exact h9
  have y0 : ∀ p', (sI G 39 0 (iN p')).1 39 0 = iN p' := fun p' => sI_eq
  have y5 : ∀ p', (sI G 39 0 (iN p')).1 41 5 = iN T := fun p' => by rw [sI_p (by omega)]; exact h5
  have y4 : ∀ p', (sI G 39 0 (iN p')).1 41 4 = iN c := fun p' => by rw [sI_p (by omega)]; exact h4
  by_cases c3 : k ≤ 3
  · rw [if_pos c3, if_pos (by omega), List.append_assoc, List.append_assoc] at e2
    rw [if_pos c3, if_pos (by omega)] at el
    have n1 := rdnum_c (lo := 2) (hi := 30) h h39 e2 (noD_c (by omega)) (s3 c3) (by omega)
    have e4 : l.drop (p + 1 + (dg q).length) = 58 :: (dg t ++ r) := by rw [← List.drop_drop, e2, List.drop_left]; rfl
    obtain ⟨f1, f2, f3⟩ := gD_drop e4
    have hT1 : TX z l (sI G 39 0 (iN (p + 1 + (dg q).length))) := TX_fr h (sI_p (by omega)) (sI_p (by omega))
    have hx2 := tval_c (p := p + 1 + (dg q).length) hT1 (by omega)
    rw [if_pos (by omega), f1] at hx2
    have n2 := rdnum_c (lo := 1) (hi := 60) hT1 sI_eq f2 hr (s5 (by omega)) (by omega)
    rw [sI_sI] at n2
    rw [show p + (stl (k, q, t)).length = p + 1 + (dg q).length + 1 + (dg t).length by rw [el, List.length_append, List.length_append]; show _ = _; simp; omega]
    have a := ad (p + 1 + (dg q).length + 1 + (dg t).length)
    have y0' := y0 (p + 1 + (dg q).length)
    have y9' := y9 (p + 1 + (dg q).length)
    have z9' := y9 (p + 1 + (dg q).length + 1 + (dg t).length)
    have z5' := y5 (p + 1 + (dg q).length + 1 + (dg t).length)
    generalize p + 1 + (dg q).length + 1 + (dg t).length = p2 at *
    generalize p + 1 + (dg q).length = p1 at *
    generalize adS c k q t T (sI G 39 0 (iN p2)) = fin at *
    unfold f_X3_readStep f_X3_stepKind
    have : k = 1 ∨ k = 2 ∨ k = 3 := by omega
    unfold stc at *
    rcases this with rfl | rfl | rfl
    · simp only [↓reduceIte, Nat.reduceEqDiff] at *
      simp (maxSteps := 4000000) (disch := omega) only [chk_t, beq_self_eq_true, nm_s, bj1_s, bj2_s, bj3_s, mo_1, mo_0, l_0, l_1, l_2, l_3, l_4, l_5, l_6, l_7, l_8, l_9, l_10, l_11, l_12, l_13, l_14, l_15, l_16, l_17, l_18, l_19, l_20, l_21, l_24, l_30, l_31, l_32, l_36, l_40, l_41, l_42, l_43, l_44, l_45, l_46, l_47, l_48, l_49, l_50, l_51, l_52, l_57, l_58, l_60, l_61, l_64, l_72, l_80, l_92, l_98, l_99, l_100, l_102, l_105, l_111, l_112, l_114, l_115, l_116, l_117, l_120, l_144, l_200, l_201, l_240, l_300, l_320, l_400, l_500, l_512, l_550, l_560, l_649, l_650, l_1000, l_1032, l_1400, l_2000, l_4000, l_10000, l_268435455, iN_add, iN_sub, iN_mul, iN_le_t, iN_le_f, iN_lt_t, iN_lt_f, iN_eq_f, inb_iN, ix_iN, isZ_0, isZ_1, ↓reduceIte, eq_self, kd_b ho, kd_b ho2, h39, hx, h4, n1, y9', y0', hx2, n2, z9', z5', a]
    · simp only [↓reduceIte, Nat.reduceEqDiff] at *
      simp (maxSteps := 4000000) (disch := omega) only [chk_t, beq_self_eq_true, nm_s, bj1_s, bj2_s, bj3_s, mo_1, mo_0, l_0, l_1, l_2, l_3, l_4, l_5, l_6, l_7, l_8, l_9, l_10, l_11, l_12, l_13, l_14, l_15, l_16, l_17, l_18, l_19, l_20, l_21, l_24, l_30, l_31, l_32, l_36, l_40, l_41, l_42, l_43, l_44, l_45, l_46, l_47, l_48, l_49, l_50, l_51, l_52, l_57, l_58, l_60, l_61, l_64, l_72, l_80, l_92, l_98, l_99, l_100, l_102, l_105, l_111, l_112, l_114, l_115, l_116, l_117, l_120, l_144, l_200, l_201, l_240, l_300, l_320, l_400, l_500, l_512, l_550, l_560, l_649, l_650, l_1000, l_1032, l_1400, l_2000, l_4000, l_10000, l_268435455, iN_add, iN_sub, iN_mul, iN_le_t, iN_le_f, iN_lt_t, iN_lt_f, iN_eq_f, inb_iN, ix_iN, isZ_0, isZ_1, ↓reduceIte, eq_self, kd_b ho, kd_b ho2, h39, hx, h4, n1, y9', y0', hx2, n2, z9', z5', a]
    · simp only [↓reduceIte, Nat.reduceEqDiff] at *
      simp (maxSteps := 4000000) (disch := omega) only [chk_t, beq_self_eq_true, nm_s, bj1_s, bj2_s, bj3_s, mo_1, mo_0, l_0, l_1, l_2, l_3, l_4, l_5, l_6, l_7, l_8, l_9, l_10, l_11, l_12, l_13, l_14, l_15, l_16, l_17, l_18, l_19, l_20, l_21, l_24, l_30, l_31, l_32, l_36, l_40, l_41, l_42, l_43, l_44, l_45, l_46, l_47, l_48, l_49, l_50, l_51, l_52, l_57, l_58, l_60, l_61, l_64, l_72, l_80, l_92, l_98, l_99, l_100, l_102, l_105, l_111, l_112, l_114, l_115, l_116, l_117, l_120, l_144, l_200, l_201, l_240, l_300, l_320, l_400, l_500, l_512, l_550, l_560, l_649, l_650, l_1000, l_1032, l_1400, l_2000, l_4000, l_10000, l_268435455, iN_add, iN_sub, iN_mul, iN_le_t, iN_le_f, iN_lt_t, iN_lt_f, iN_eq_f, inb_iN, ix_iN, isZ_0, isZ_1, ↓reduceIte, eq_self, kd_b ho, kd_b ho2, h39, hx, h4, n1, y9', y0', hx2, n2, z9', z5', a]
  · have q0 : q = 0 := s4 (by omega)
    by_cases c4 : k = 4
    · subst c4
      rw [if_neg c3, if_pos (by omega), List.nil_append] at e2
      rw [if_neg c3, if_pos (by omega), List.nil_append] at el
      have n1 := rdnum_c (lo := 1) (hi := 60) h h39 e2 hr (s5 (by omega)) (by omega)
      rw [show p + (stl (4, q, t)).length = p + 1 + (dg t).length by rw [el]; omega]
      have a := ad (p + 1 + (dg t).length)
      have y9' := y9 (p + 1 + (dg t).length)
      have y5' := y5 (p + 1 + (dg t).length)
      generalize p + 1 + (dg t).length = p1 at *
      subst q0
      generalize adS c 4 0 t T (sI G 39 0 (iN p1)) = fin at *
      rw [show stc 4 = 114 from rfl] at hx
      unfold f_X3_readStep f_X3_stepKind
      simp (maxSteps := 4000000) (disch := omega) only [chk_t, beq_self_eq_true, nm_s, bj1_s, bj2_s, bj3_s, mo_1, mo_0, l_0, l_1, l_2, l_3, l_4, l_5, l_6, l_7, l_8, l_9, l_10, l_11, l_12, l_13, l_14, l_15, l_16, l_17, l_18, l_19, l_20, l_21, l_24, l_30, l_31, l_32, l_36, l_40, l_41, l_42, l_43, l_44, l_45, l_46, l_47, l_48, l_49, l_50, l_51, l_52, l_57, l_58, l_60, l_61, l_64, l_72, l_80, l_92, l_98, l_99, l_100, l_102, l_105, l_111, l_112, l_114, l_115, l_116, l_117, l_120, l_144, l_200, l_201, l_240, l_300, l_320, l_400, l_500, l_512, l_550, l_560, l_649, l_650, l_1000, l_1032, l_1400, l_2000, l_4000, l_10000, l_268435455, iN_add, iN_sub, iN_mul, iN_le_t, iN_le_f, iN_lt_t, iN_lt_f, iN_eq_f, inb_iN, ix_iN, isZ_0, isZ_1, ↓reduceIte, eq_self, kd_b ho, kd_b ho2, h39, hx, h4, h9, n1, y9', y5', a]
    · have t0 : t = 0 := s6 (by omega)
      rw [if_neg c3, if_neg (by omega)] at el
      rw [show p + (stl (k, q, t)).length = p + 1 by rw [el]; rfl]
      have a := ad (p + 1)
      have y9' := y9 (p + 1)
      have y5' := y5 (p + 1)
      subst q0 t0
      generalize adS c k 0 0 T (sI G 39 0 (iN (p + 1))) = fin at *
      unfold f_X3_readStep f_X3_stepKind
      have : k = 5 ∨ k = 6 := by omega
      rcases this with rfl | rfl
      · rw [show stc 5 = 117 from rfl] at hx
        simp (maxSteps := 4000000) (disch := omega) only [chk_t, beq_self_eq_true, nm_s, bj1_s, bj2_s, bj3_s, mo_1, mo_0, l_0, l_1, l_2, l_3, l_4, l_5, l_6, l_7, l_8, l_9, l_10, l_11, l_12, l_13, l_14, l_15, l_16, l_17, l_18, l_19, l_20, l_21, l_24, l_30, l_31, l_32, l_36, l_40, l_41, l_42, l_43, l_44, l_45, l_46, l_47, l_48, l_49, l_50, l_51, l_52, l_57, l_58, l_60, l_61, l_64, l_72, l_80, l_92, l_98, l_99, l_100, l_102, l_105, l_111, l_112, l_114, l_115, l_116, l_117, l_120, l_144, l_200, l_201, l_240, l_300, l_320, l_400, l_500, l_512, l_550, l_560, l_649, l_650, l_1000, l_1032, l_1400, l_2000, l_4000, l_10000, l_268435455, iN_add, iN_sub, iN_mul, iN_le_t, iN_le_f, iN_lt_t, iN_lt_f, iN_eq_f, inb_iN, ix_iN, isZ_0, isZ_1, ↓reduceIte, eq_self, kd_b ho, kd_b ho2, h39, hx, h4, h9, y9', y5', a]
      · rw [show stc 6 = 100 from rfl] at hx
        simp (maxSteps := 4000000) (disch := omega) only [chk_t, beq_self_eq_true, nm_s, bj1_s, bj2_s, bj3_s, mo_1, mo_0, l_0, l_1, l_2, l_3, l_4, l_5, l_6, l_7, l_8, l_9, l_10, l_11, l_12, l_13, l_14, l_15, l_16, l_17, l_18, l_19, l_20, l_21, l_24, l_30, l_31, l_32, l_36, l_40, l_41, l_42, l_43, l_44, l_45, l_46, l_47, l_48, l_49, l_50, l_51, l_52, l_57, l_58, l_60, l_61, l_64, l_72, l_80, l_92, l_98, l_99, l_100, l_102, l_105, l_111, l_112, l_114, l_115, l_116, l_117, l_120, l_144, l_200, l_201, l_240, l_300, l_320, l_400, l_500, l_512, l_550, l_560, l_649, l_650, l_1000, l_1032, l_1400, l_2000, l_4000, l_10000, l_268435455, iN_add, iN_sub, iN_mul, iN_le_t, iN_le_f, iN_lt_t, iN_lt_f, iN_eq_f, inb_iN, ix_iN, isZ_0, isZ_1, ↓reduceIte, eq_self, kd_b ho, kd_b ho2, h39, hx, h4, h9, y9', y5', a]
def plG (s : Nat → Nat × Nat × Nat) : Nat → Nat → List Nat
  | _, 0 => []
  | i, j + 1 => stl (s i) ++ plG s (i + 1) j
theorem plW_R (s : Nat → Nat × Nat × Nat) : ∀ (j i : Nat), plW s (i + j) = plW s i ++ plG s i j := by
  intro j
  induction j with
  | zero => intro i; exact (List.append_nil _).symm
  | succ j ih =>
    intro i
    rw [show i + (j + 1) = i + 1 + j by omega, ih (i + 1)]
    show plW s i ++ stl (s i) ++ plG s (i + 1) j = plW s i ++ (stl (s i) ++ plG s (i + 1) j)
    rw [List.append_assoc]
theorem plG_noD {s : Nat → Nat × Nat × Nat} {m : Nat} (hs : ∀ i, i < m → stg (s i)) (j i : Nat) (h : i + j ≤ m) : noD (plG s i j) := by
  cases j with
  | zero => exact noD_nil
  | succ j =>
    have := stc_r (k := (s i).1) ⟨(hs i (by omega)).1, (hs i (by omega)).2.1⟩
    exact noD_c (c := stc (s i).1) (r := ((if (s i).1 ≤ 3 then dg (s i).2.1 ++ [58] else []) ++ (if (s i).1 ≤ 4 then dg (s i).2.2 else [])) ++ plG s (i + 1) j) (by omega)
def tsN (s : Nat → Nat × Nat × Nat) : Nat → Nat
  | 0 => 0
  | i + 1 => tsN s i + (s i).2.2
theorem tsN_mono (s : Nat → Nat × Nat × Nat) {i m : Nat} (h : i ≤ m) : tsN s i ≤ tsN s m := by
  induction m with
  | zero => rw [show i = 0 by omega]; exact Nat.le_refl _
  | succ m ih =>
    by_cases c : i ≤ m
    · have := ih c
      show _ ≤ tsN s m + (s m).2.2
      omega
    · rw [show i = m + 1 by omega]; exact Nat.le_refl _
/-- what stands in the reader's plan -/
def rpS (s : Nat → Nat × Nat × Nat) (i : Nat) (G : G_) : Prop := G.1 41 3 = iN 1 ∧ G.1 41 4 = iN i ∧ G.1 41 5 = iN (tsN s i) ∧ ∀ j, j < i → G.1 42 j = iN (s j).1 ∧ G.1 43 j = iN (s j).2.1 ∧ G.1 44 j = iN (s j).2.2
theorem rpS_ad {s : Nat → Nat × Nat × Nat} {i p : Nat} {G : G_} (h : rpS s i G) : rpS s (i + 1) (adS i (s i).1 (s i).2.1 (s i).2.2 (tsN s i) (sI G 39 0 (iN p))) := by
  obtain ⟨h1, h2, h3, h4⟩ := h
  unfold adS
  refine ⟨?_, ?_, sI_eq, fun j hj => ?_⟩
  · rw [sI_j (by omega), sI_j (by omega), sI_p (by omega), sI_p (by omega), sI_p (by omega), sI_p (by omega)]
    exact h1
  · rw [sI_j (by omega), sI_eq]
  · rw [sI_p (show 42 ≠ 41 by omega), sI_p (show 42 ≠ 41 by omega), sI_p (show 42 ≠ 44 by omega), sI_p (show 42 ≠ 43 by omega), sI_p (show 43 ≠ 41 by omega), sI_p (show 43 ≠ 41 by omega), sI_p (show 43 ≠ 44 by omega), sI_p (show 44 ≠ 41 by omega), sI_p (show 44 ≠ 41 by omega)]
    by_cases c : j = i
    · subst c
      exact ⟨sI_eq, sI_eq, sI_eq⟩
    · rw [sI_j c, sI_j c, sI_j c, sI_p (show 44 ≠ 43 by omega), sI_p (show 43 ≠ 42 by omega), sI_p (show 44 ≠ 42 by omega), sI_p (show 42 ≠ 39 by omega), sI_p (show 43 ≠ 39 by omega), sI_p (show 44 ≠ 39 by omega)]
      exact h4 j (by omega)
theorem rdplan_c {m : Nat} {s : Nat → Nat × Nat × Nat} {G : G_} (h : TX 80 (plW s m) G) (hm : m ≤ 12) (hs : ∀ i, i < m → stg (s i)) (hT : tsN s m ≤ 200) : ∃ A, f_X3_readPlan 69 41 G = some A ∧ A.1 39 1 = -iN 9 ∧ rpS s m A ∧ (∀ q, q ≠ 39 → (q < 41 ∨ 44 < q) → A.1 q = G.1 q) ∧ A.2 = G.2 := by
  have ho : kd 69 = 6 := rfl
  have ho2 : kd 41 = 2 := rfl
  have key : ∀ (d i n : Nat) (B : G_), i + d = m → B.1 39 0 = iN (plW s i).length → B.1 39 1 = -iN 9 → rpS s i B → (∀ q, q ≠ 39 → (q < 41 ∨ 44 < q) → B.1 q = G.1 q) → B.2 = G.2 → ∃ A, f_X3_readPlan_l17_7 69 41 (n + d + 1) (iN i) B = some A ∧ A.1 39 1 = -iN 9 ∧ rpS s m A ∧ (∀ q, q ≠ 39 → (q < 41 ∨ 44 < q) → A.1 q = G.1 q) ∧ A.2 = G.2 := by
    intro d
    induction d with
    | zero =>
      intro i n B e h0 h9 hR hq h2
      have e : i = m := by omega
      subst e
      have hT' : TX 80 (plW s i) B := TX_fr h (hq 69 (by omega) (by omega)) (hq 70 (by omega) (by omega))
      have hl := plW_len s i
      have hsk := skip_c (m := 80 - (plW s i).length) hT' h0 (by omega) (fun j hj => gD_out _ _ (by omega)) (fun e => by omega)
      rw [show (plW s i).length + (80 - (plW s i).length) = 80 by omega] at hsk
      have x1 : (sI B 39 0 (iN 80)).1 39 0 = iN 80 := sI_eq
      have x2 : (sI B 39 0 (iN 80)).1 69 1 = iN 80 := by rw [sI_p (by omega)]; exact hT'.1
      refine ⟨sI B 39 0 (iN 80), ?_, by rw [sI_j (by omega)]; exact h9, ?_, fun q q1 q2 => by rw [sI_p q1]; exact hq q q1 q2, h2⟩
      · unfold f_X3_readPlan_l17_7
        simp (disch := omega) only [chk_t, beq_self_eq_true, nm_s, bj1_s, bj2_s, bj3_s, mo_1, mo_0, l_0, l_1, l_2, l_3, l_4, l_5, l_6, l_7, l_8, l_9, l_10, l_11, l_12, l_13, l_14, l_15, l_16, l_17, l_18, l_19, l_20, l_21, l_24, l_30, l_31, l_32, l_36, l_40, l_41, l_42, l_43, l_44, l_45, l_46, l_47, l_48, l_49, l_50, l_51, l_52, l_57, l_58, l_60, l_61, l_64, l_72, l_80, l_92, l_98, l_99, l_100, l_102, l_105, l_111, l_112, l_114, l_115, l_116, l_117, l_120, l_144, l_200, l_201, l_240, l_300, l_320, l_400, l_500, l_512, l_550, l_560, l_649, l_650, l_1000, l_1032, l_1400, l_2000, l_4000, l_10000, l_268435455, iN_add, iN_sub, iN_mul, iN_le_t, iN_le_f, iN_lt_t, iN_lt_f, iN_eq_f, inb_iN, ix_iN, isZ_0, isZ_1, ↓reduceIte, eq_self, hsk, x1, x2]
      · unfold rpS
        rw [sI_p (show 41 ≠ 39 by omega), sI_p (show 42 ≠ 39 by omega), sI_p (show 43 ≠ 39 by omega), sI_p (show 44 ≠ 39 by omega)]
        exact hR
    | succ d ih =>
      intro i n B e h0 h9 hR hq h2
      have hi : i < m := by omega
      have hT' : TX 80 (plW s m) B := TX_fr h (hq 69 (by omega) (by omega)) (hq 70 (by omega) (by omega))
      have hW : plW s m = plW s i ++ (stl (s i) ++ plG s (i + 1) d) := by
        rw [← e]
        exact plW_R s (d + 1) i
      have hdr : (plW s m).drop (plW s i).length = stl (s i) ++ plG s (i + 1) d := by rw [hW, List.drop_left]
      have hdr0 : (plW s m).drop (plW s i).length = stc (s i).1 :: (((if (s i).1 ≤ 3 then dg (s i).2.1 ++ [58] else []) ++ (if (s i).1 ≤ 4 then dg (s i).2.2 else [])) ++ plG s (i + 1) d) := hdr
      obtain ⟨g1, g2, g3⟩ := gD_drop hdr0
      have hc := stc_r (k := (s i).1) ⟨(hs i hi).1, (hs i hi).2.1⟩
      have hl := plW_len s m
      have hl80 := hT'.2.2.1
      have hsk := skip_c (m := 0) hT' h0 (by omega) (fun j hj => by omega) (fun _ => by rw [Nat.add_zero, g1]; omega)
      rw [Nat.add_zero] at hsk
      have hT2 : TX 80 (plW s m) (sI B 39 0 (iN (plW s i).length)) := TX_fr hT' (sI_p (by omega)) (sI_p (by omega))
      have hst := rdstep_c (c := i) (T := tsN s i) hT2 sI_eq (by rw [sI_j (by omega)]; exact h9) hdr (plG_noD hs d (i + 1) (by omega)) (hs i hi) (by rw [sI_p (by omega)]; exact hR.2.1) (by omega) (by rw [sI_p (by omega)]; exact hR.2.2.1) (by have := tsN_mono s (show i + 1 ≤ m by omega); have e2 : tsN s (i + 1) = tsN s i + (s i).2.2 := rfl; omega)
      rw [sI_sI] at hst
      obtain ⟨E, hE⟩ : ∃ E, E = adS i (s i).1 (s i).2.1 (s i).2.2 (tsN s i) (sI B 39 0 (iN ((plW s i).length + (stl (s i)).length))) := ⟨_, rfl⟩
      have eR : rpS s (i + 1) E := by rw [hE]; exact rpS_ad hR
      have e9 : E.1 39 1 = -iN 9 := by
        rw [hE]
        unfold adS
        rw [sI_p (by omega), sI_p (by omega), sI_p (by omega), sI_p (by omega), sI_p (by omega), sI_j (by omega)]
        exact h9
      have e0 : E.1 39 0 = iN (plW s (i + 1)).length := by
        rw [hE, show (plW s (i + 1)).length = (plW s i).length + (stl (s i)).length from List.length_append]
        unfold adS
        rw [sI_p (by omega), sI_p (by omega), sI_p (by omega), sI_p (by omega), sI_p (by omega), sI_eq]
      have eq : ∀ q, q ≠ 39 → (q < 41 ∨ 44 < q) → E.1 q = G.1 q := fun q q1 q2 => by
        rw [hE]
        unfold adS
        rw [sI_p (by omega), sI_p (by omega), sI_p (by omega), sI_p (by omega), sI_p (by omega), sI_p q1]
        exact hq q q1 q2
      have e2 : E.2 = G.2 := by rw [hE]; exact h2
      rw [← hE] at hst
      obtain ⟨A, a1, a2⟩ := ih (i + 1) n E (by omega) e0 e9 eR eq e2
      refine ⟨A, ?_, a2⟩
      rw [← a1]
      have x1 : (sI B 39 0 (iN (plW s i).length)).1 39 0 = iN (plW s i).length := sI_eq
      have x2 : (sI B 39 0 (iN (plW s i).length)).1 69 1 = iN 80 := by rw [sI_p (by omega)]; exact hT'.1
      show f_X3_readPlan_l17_7 69 41 (n + d + 1 + 1) (iN i) B = _
      generalize (plW s i).length = pl at *
      conv => lhs; unfold f_X3_readPlan_l17_7
      simp (disch := omega) only [chk_t, beq_self_eq_true, nm_s, bj1_s, bj2_s, bj3_s, mo_1, mo_0, l_0, l_1, l_2, l_3, l_4, l_5, l_6, l_7, l_8, l_9, l_10, l_11, l_12, l_13, l_14, l_15, l_16, l_17, l_18, l_19, l_20, l_21, l_24, l_30, l_31, l_32, l_36, l_40, l_41, l_42, l_43, l_44, l_45, l_46, l_47, l_48, l_49, l_50, l_51, l_52, l_57, l_58, l_60, l_61, l_64, l_72, l_80, l_92, l_98, l_99, l_100, l_102, l_105, l_111, l_112, l_114, l_115, l_116, l_117, l_120, l_144, l_200, l_201, l_240, l_300, l_320, l_400, l_500, l_512, l_550, l_560, l_649, l_650, l_1000, l_1032, l_1400, l_2000, l_4000, l_10000, l_268435455, iN_add, iN_sub, iN_mul, iN_le_t, iN_le_f, iN_lt_t, iN_lt_f, iN_eq_f, inb_iN, ix_iN, isZ_0, isZ_1, ↓reduceIte, eq_self, hsk, x1, x2, hst, e9]
  obtain ⟨S, hS⟩ : ∃ S, S = sI (sI (sI (sI (sI G 39 0 (iN 0)) 39 1 (-iN 9)) 41 3 (iN 1)) 41 4 (iN 0)) 41 5 (iN 0) := ⟨_, rfl⟩
  have hq : ∀ q, q ≠ 39 → (q < 41 ∨ 44 < q) → S.1 q = G.1 q := fun q q1 q2 => by rw [hS, sI_p (by omega), sI_p (by omega), sI_p (by omega), sI_p q1, sI_p q1]
  obtain ⟨A, a1, a2⟩ := key m 0 (999 - m) S (by omega) (by rw [hS]; simp (disch := omega) only [chk_t, beq_self_eq_true, nm_s, bj1_s, bj2_s, bj3_s, mo_1, mo_0, l_0, l_1, l_2, l_3, l_4, l_5, l_6, l_7, l_8, l_9, l_10, l_11, l_12, l_13, l_14, l_15, l_16, l_17, l_18, l_19, l_20, l_21, l_24, l_30, l_31, l_32, l_36, l_40, l_41, l_42, l_43, l_44, l_45, l_46, l_47, l_48, l_49, l_50, l_51, l_52, l_57, l_58, l_60, l_61, l_64, l_72, l_80, l_92, l_98, l_99, l_100, l_102, l_105, l_111, l_112, l_114, l_115, l_116, l_117, l_120, l_144, l_200, l_201, l_240, l_300, l_320, l_400, l_500, l_512, l_550, l_560, l_649, l_650, l_1000, l_1032, l_1400, l_2000, l_4000, l_10000, l_268435455, iN_add, iN_sub, iN_mul, iN_le_t, iN_le_f, iN_lt_t, iN_lt_f, iN_eq_f, inb_iN, ix_iN, isZ_0, isZ_1, ↓reduceIte, eq_self, sI_p, sI_j, sI_eq]; rfl) (by rw [hS]; simp (disch := omega) only [chk_t, beq_self_eq_true, nm_s, bj1_s, bj2_s, bj3_s, mo_1, mo_0, l_0, l_1, l_2, l_3, l_4, l_5, l_6, l_7, l_8, l_9, l_10, l_11, l_12, l_13, l_14, l_15, l_16, l_17, l_18, l_19, l_20, l_21, l_24, l_30, l_31, l_32, l_36, l_40, l_41, l_42, l_43, l_44, l_45, l_46, l_47, l_48, l_49, l_50, l_51, l_52, l_57, l_58, l_60, l_61, l_64, l_72, l_80, l_92, l_98, l_99, l_100, l_102, l_105, l_111, l_112, l_114, l_115, l_116, l_117, l_120, l_144, l_200, l_201, l_240, l_300, l_320, l_400, l_500, l_512, l_550, l_560, l_649, l_650, l_1000, l_1032, l_1400, l_2000, l_4000, l_10000, l_268435455, iN_add, iN_sub, iN_mul, iN_le_t, iN_le_f, iN_lt_t, iN_lt_f, iN_eq_f, inb_iN, ix_iN, isZ_0, isZ_1, ↓reduceIte, eq_self, sI_p, sI_j, sI_eq]) ⟨by rw [hS]; simp (disch := omega) only [chk_t, beq_self_eq_true, nm_s, bj1_s, bj2_s, bj3_s, mo_1, mo_0, l_0, l_1, l_2, l_3, l_4, l_5, l_6, l_7, l_8, l_9, l_10, l_11, l_12, l_13, l_14, l_15, l_16, l_17, l_18, l_19, l_20, l_21, l_24, l_30, l_31, l_32, l_36, l_40, l_41, l_42, l_43, l_44, l_45, l_46, l_47, l_48, l_49, l_50, l_51, l_52, l_57, l_58, l_60, l_61, l_64, l_72, l_80, l_92, l_98, l_99, l_100, l_102, l_105, l_111, l_112, l_114, l_115, l_116, l_117, l_120, l_144, l_200, l_201, l_240, l_300, l_320, l_400, l_500, l_512, l_550, l_560, l_649, l_650, l_1000, l_1032, l_1400, l_2000, l_4000, l_10000, l_268435455, iN_add, iN_sub, iN_mul, iN_le_t, iN_le_f, iN_lt_t, iN_lt_f, iN_eq_f, inb_iN, ix_iN, isZ_0, isZ_1, ↓reduceIte, eq_self, sI_p, sI_j, sI_eq], by rw [hS]; simp (disch := omega) only [chk_t, beq_self_eq_true, nm_s, bj1_s, bj2_s, bj3_s, mo_1, mo_0, l_0, l_1, l_2, l_3, l_4, l_5, l_6, l_7, l_8, l_9, l_10, l_11, l_12, l_13, l_14, l_15, l_16, l_17, l_18, l_19, l_20, l_21, l_24, l_30, l_31, l_32, l_36, l_40, l_41, l_42, l_43, l_44, l_45, l_46, l_47, l_48, l_49, l_50, l_51, l_52, l_57, l_58, l_60, l_61, l_64, l_72, l_80, l_92, l_98, l_99, l_100, l_102, l_105, l_111, l_112, l_114, l_115, l_116, l_117, l_120, l_144, l_200, l_201, l_240, l_300, l_320, l_400, l_500, l_512, l_550, l_560, l_649, l_650, l_1000, l_1032, l_1400, l_2000, l_4000, l_10000, l_268435455, iN_add, iN_sub, iN_mul, iN_le_t, iN_le_f, iN_lt_t, iN_lt_f, iN_eq_f, inb_iN, ix_iN, isZ_0, isZ_1, ↓reduceIte, eq_self, sI_p, sI_j, sI_eq], by rw [hS]; simp (disch := omega) only [chk_t, beq_self_eq_true, nm_s, bj1_s, bj2_s, bj3_s, mo_1, mo_0, l_0, l_1, l_2, l_3, l_4, l_5, l_6, l_7, l_8, l_9, l_10, l_11, l_12, l_13, l_14, l_15, l_16, l_17, l_18, l_19, l_20, l_21, l_24, l_30, l_31, l_32, l_36, l_40, l_41, l_42, l_43, l_44, l_45, l_46, l_47, l_48, l_49, l_50, l_51, l_52, l_57, l_58, l_60, l_61, l_64, l_72, l_80, l_92, l_98, l_99, l_100, l_102, l_105, l_111, l_112, l_114, l_115, l_116, l_117, l_120, l_144, l_200, l_201, l_240, l_300, l_320, l_400, l_500, l_512, l_550, l_560, l_649, l_650, l_1000, l_1032, l_1400, l_2000, l_4000, l_10000, l_268435455, iN_add, iN_sub, iN_mul, iN_le_t, iN_le_f, iN_lt_t, iN_lt_f, iN_eq_f, inb_iN, ix_iN, isZ_0, isZ_1, ↓reduceIte, eq_self, sI_p, sI_j, sI_eq]; rfl, fun j hj => by omega⟩ hq (by rw [hS]; rfl)
  rw [show 999 - m + m + 1 = 1000 by omega] at a1
  refine ⟨A, ?_, a2⟩
  have a1 : f_X3_readPlan_l17_7 69 41 FU (iN 0) S = some A := a1
  unfold f_X3_readPlan f_X2_begin
  simp (disch := omega) only [chk_t, beq_self_eq_true, nm_s, bj1_s, bj2_s, bj3_s, mo_1, mo_0, l_0, l_1, l_2, l_3, l_4, l_5, l_6, l_7, l_8, l_9, l_10, l_11, l_12, l_13, l_14, l_15, l_16, l_17, l_18, l_19, l_20, l_21, l_24, l_30, l_31, l_32, l_36, l_40, l_41, l_42, l_43, l_44, l_45, l_46, l_47, l_48, l_49, l_50, l_51, l_52, l_57, l_58, l_60, l_61, l_64, l_72, l_80, l_92, l_98, l_99, l_100, l_102, l_105, l_111, l_112, l_114, l_115, l_116, l_117, l_120, l_144, l_200, l_201, l_240, l_300, l_320, l_400, l_500, l_512, l_550, l_560, l_649, l_650, l_1000, l_1032, l_1400, l_2000, l_4000, l_10000, l_268435455, iN_add, iN_sub, iN_mul, iN_le_t, iN_le_f, iN_lt_t, iN_lt_f, iN_eq_f, inb_iN, ix_iN, isZ_0, isZ_1, ↓reduceIte, eq_self, kd_b ho, kd_b ho2, ← hS, a1]
theorem sumS_ts {s : Nat → Nat × Nat × Nat} {f : Nat → Int32} {m : Nat} (h : ∀ i, i < m → f i = iN (s i).2.2) : sumS f m = iN (tsN s m) := by
  induction m with
  | zero => rfl
  | succ m ih =>
    show sumS f m + f m = _
    rw [ih (fun i hi => h i (by omega)), h m (by omega), iN_add]
    rfl
/-- the law's plan(): written, read -/
theorem plan_c {k a2 m : Nat} {s : Nat → Nat × Nat × Nat} {G : G_} (hk : k < 4) (ha : 124 ≤ a2) (hm : m ≤ 12) (hR : stR a2 m s G) (hs : ∀ i, i < m → stg (s i)) (hT : tsN s m ≤ 200) : ∃ A, f_L_plan (iN k) a2 G = some (iN 1, A) ∧ TX 80 (plW s m) A ∧ A.1 (75 + 4 * k) 3 = iN 1 ∧ A.1 (75 + 4 * k) 4 = iN m ∧ A.1 (75 + 4 * k) 5 = iN (tsN s m) ∧ (∀ j, j < m → A.1 (75 + 4 * k + 1) j = iN (s j).1 ∧ A.1 (75 + 4 * k + 2) j = iN (s j).2.1 ∧ A.1 (75 + 4 * k + 3) j = iN (s j).2.2) ∧ (∀ q, q ≠ 39 → (q < 41 ∨ 44 < q) → q ≠ 69 → q ≠ 70 → (q < 75 + 4 * k ∨ 75 + 4 * k + 4 ≤ q) → A.1 q = G.1 q) ∧ A.2 = G.2 := by
  obtain ⟨A, a1, a2', a3, a4⟩ := text_c (z := 80) (G := G) (by omega)
  obtain ⟨B, b1, b2, b3, b4⟩ := lplan_w (a1 := iN k) (s := s) a2' (show a2 ≠ 70 by omega) hm (stR_fr hR (a3 a2 (by omega) (by omega))) hs
  obtain ⟨C, c1, c2, c3, c4, c5⟩ := rdplan_c b2 hm hs hT
  have hTC : TX 80 (plW s m) C := TX_fr b2 (c4 69 (by omega) (by omega)) (c4 70 (by omega) (by omega))
  obtain ⟨D, d1, d2, d3, d4, d5⟩ := rdplan_c hTC hm hs hT
  obtain ⟨q1, ho⟩ := planAt_t hk C
  obtain ⟨E, e1, e2, e3, e4, e5, e6, e7⟩ := pbecome_ok (o := 75 + 4 * k) (a := 41) (G := D) ho rfl (by omega) d3.2.1 hm
  have o69 : kd 69 = 6 := rfl
  have tC : f_X7_textAt (iN 3) C = some (some 69) := (textAt_t (k := 3) (by omega) C).1
  have tB : f_X7_textAt (iN 3) B = some (some 69) := (textAt_t (k := 3) (by omega) B).1
  have hB := tthere_t o69 b2.1 (by omega)
  have hC := tthere_t o69 hTC.1 (by omega)
  have hl := plW_len s m
  have eq : ∀ q, q ≠ 39 → (q < 41 ∨ 44 < q) → (q < 75 + 4 * k ∨ 75 + 4 * k + 4 ≤ q) → E.1 q = B.1 q := fun q g1 g2 g3 => by rw [e6 q g3, d4 q g1 g2, c4 q g1 g2]
  have h0 : E.1 a2 0 = iN m := by rw [eq a2 (by omega) (by omega) (by omega), b3 a2 (by omega), a3 a2 (by omega) (by omega)]; exact hR.1
  refine ⟨E, ?_, TX_fr b2 (eq 69 (by omega) (by omega) (by omega)) (eq 70 (by omega) (by omega) (by omega)), e2, e3, by rw [e4]; exact sumS_ts (fun i hi => (d3.2.2.2 i hi).2.2), fun j hj => ?_, fun q g1 g2 g3 g4 g5 => by rw [eq q g1 g2 g5, b3 q g4, a3 q g3 g4], by rw [e7, d5, c5, b4, a4]⟩
  · have hl80 : (plW s m).length ≤ 80 := b2.2.2.1
    generalize (plW s m).length = x at *
    unfold f_L_plan f_X7_fault f_X7_plan
    simp (maxSteps := 4000000) (disch := omega) only [chk_t, beq_self_eq_true, nm_s, bj1_s, bj2_s, bj3_s, mo_1, mo_0, l_0, l_1, l_2, l_3, l_4, l_5, l_6, l_7, l_8, l_9, l_10, l_11, l_12, l_13, l_14, l_15, l_16, l_17, l_18, l_19, l_20, l_21, l_24, l_30, l_31, l_32, l_36, l_40, l_41, l_42, l_43, l_44, l_45, l_46, l_47, l_48, l_49, l_50, l_51, l_52, l_57, l_58, l_60, l_61, l_64, l_72, l_80, l_92, l_98, l_99, l_100, l_102, l_105, l_111, l_112, l_114, l_115, l_116, l_117, l_120, l_144, l_200, l_201, l_240, l_300, l_320, l_400, l_500, l_512, l_550, l_560, l_649, l_650, l_1000, l_1032, l_1400, l_2000, l_4000, l_10000, l_268435455, iN_add, iN_sub, iN_mul, iN_le_t, iN_le_f, iN_lt_t, iN_lt_f, iN_eq_f, inb_iN, ix_iN, isZ_0, isZ_1, ↓reduceIte, eq_self, a1, b1, tB, kd_b o69, hB, c1, c2, q1, tC, kd_b ho, hC, d1, d2, e1, e3, h0]
  · obtain ⟨g1, g2, g3⟩ := e5 j hj
    obtain ⟨f1, f2, f3⟩ := d3.2.2.2 j hj
    exact ⟨g1.trans f1, g2.trans f2, g3.trans f3⟩

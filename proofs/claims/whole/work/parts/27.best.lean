/-! turns, off, rest, salt, thick -/
theorem loop_a {α ρ : Type} (L : Nat → Int32 → α → G_ → Option ρ) (HI : Nat → G_ → Prop) (A : Nat → α) (Q : ρ → Prop) (a b : Nat)
    (step : ∀ n k G, a ≤ k → k < b → HI k G → ∃ G', HI (k + 1) G' ∧ L (n + 1) (iN k) (A k) G = L n (iN (k + 1)) (A (k + 1)) G')
    (done : ∀ n G, HI b G → ∃ r, L (n + 1) (iN b) (A b) G = some r ∧ Q r) (hab : a ≤ b) {n : Nat} (hn : b - a < n) {G : G_} (hs : HI a G) : ∃ r, L n (iN a) (A a) G = some r ∧ Q r := by
  refine loop_h (fun n v (s : α × G_) => L n v s.1 s.2) (fun k s => s.1 = A k ∧ HI k s.2) Q a b ?_ ?_ hab hn (s := (A a, G)) ⟨rfl, hs⟩
  · intro n k ⟨x, H⟩ h1 h2 ⟨i0, i1⟩
    have i0 : x = A k := i0
    subst i0
    obtain ⟨H', h3, h4⟩ := step n k H h1 h2 i1
    exact ⟨(A (k + 1), H'), ⟨rfl, h3⟩, h4⟩
  · intro n ⟨x, H⟩ ⟨i0, i1⟩
    have i0 : x = A b := i0
    subst i0
    exact done n H i1
theorem loop_p (L : Nat → Int32 → Int32 × Int32 → G_ → Option (Int32 × Int32 × G_)) (HI : Nat → G_ → Prop) (A : Nat → Int32 × Int32) (a b : Nat)
    (step : ∀ n k G, a ≤ k → k < b → HI k G → ∃ G', HI (k + 1) G' ∧ L (n + 1) (iN k) (A k) G = L n (iN (k + 1)) (A (k + 1)) G')
    (done : ∀ n x y G, L (n + 1) (iN b) (x, y) G = some (x, y, G)) (hab : a ≤ b) {n : Nat} (hn : b - a < n) {G : G_} (hs : HI a G) : ∃ H, L n (iN a) (A a) G = some ((A b).1, (A b).2, H) ∧ HI b H := by
  obtain ⟨r, h1, H, h2, h3⟩ := loop_a L HI A (fun r => ∃ H, r = ((A b).1, (A b).2, H) ∧ HI b H) a b step (fun n G h => ⟨_, done n (A b).1 (A b).2 G, G, rfl, h⟩) hab hn hs
  exact ⟨H, by rw [h1, h2], h3⟩
def mxF (f : Nat → Int32) (a : Nat) (s0 : Int32 × Int32) : Nat → Int32 × Int32
  | 0 => s0
  | k + 1 => if f (a + k) ≤ (mxF f a s0 k).2 then mxF f a s0 k else (iN (a + k), f (a + k))
def mnF (f : Nat → Int32) (a : Nat) (s0 : Int32 × Int32) : Nat → Int32 × Int32
  | 0 => s0
  | k + 1 => if (mnF f a s0 k).2 ≤ f (a + k) then mnF f a s0 k else (iN (a + k), f (a + k))
theorem mxF_1 {f : Nat → Int32} {a : Nat} {s0 : Int32 × Int32} (h : ¬ f a ≤ s0.2) (k : Nat) : mxF f a s0 (k + 1) = mxF f (a + 1) (iN a, f a) k := by
  induction k with
  | zero => exact if_neg h
  | succ k ih =>
    show (if f (a + (k + 1)) ≤ (mxF f a s0 (k + 1)).2 then mxF f a s0 (k + 1) else (iN (a + (k + 1)), f (a + (k + 1)))) = (if f (a + 1 + k) ≤ (mxF f (a + 1) (iN a, f a) k).2 then mxF f (a + 1) (iN a, f a) k else (iN (a + 1 + k), f (a + 1 + k)))
    rw [ih, show a + (k + 1) = a + 1 + k by omega]
theorem mnF_b {f : Nat → Int32} {a : Nat} {s0 : Int32 × Int32} {b0 : Nat} (h : s0.1 = iN b0) (h1 : 1 ≤ b0) (h2 : b0 ≤ a) (k : Nat) : ∃ b, 1 ≤ b ∧ b ≤ a + k ∧ (mnF f a s0 k).1 = iN b := by
  induction k with
  | zero => exact ⟨b0, h1, by omega, h⟩
  | succ k ih =>
    unfold mnF
    split
    · obtain ⟨b, h3, h4, h5⟩ := ih
      exact ⟨b, h3, by omega, h5⟩
    · exact ⟨a + k, by omega, by omega, rfl⟩
theorem sum01 (f : Nat → Int32) (n : Nat) (h : ∀ i, i < n → f i = iN 0 ∨ f i = iN 1) (hn : n ≤ 1000) : ∃ k, k ≤ n ∧ sumS f n = iN k := by
  induction n with
  | zero => exact ⟨0, by omega, rfl⟩
  | succ n ih =>
    obtain ⟨k, h1, h2⟩ := ih (fun i hi => h i (by omega)) (by omega)
    unfold sumS
    rw [h2]
    rcases h n (by omega) with e | e <;> rw [e, iN_add]
    · exact ⟨k + 0, by omega, rfl⟩
    · exact ⟨k + 1, by omega, rfl⟩
theorem just_N {D : Nat → Int32} {n : Nat} (a b : Int32) (hn : okN D n) : ∃ k, k ≤ 20 ∧ justS a b D = iN k := by
  unfold justS
  rw [okN_n hn]
  obtain ⟨k, h1, h2⟩ := sum01 (fun i => inS a b (D (72 + i))) n (fun i _ => inS_01 _ _ _) (by have := hn.2; omega)
  exact ⟨k, by have := hn.2; omega, h2⟩
theorem N_m1 {k : Nat} (h : k ≤ 1000) : ¬ iN k ≤ -iN 1 := by
  rw [t_le, li (by omega), show (-iN 1).toInt = -1 from by decide]
  omega
theorem cc_at {G A : G_} {q : Nat} (h : cc G A) (hq : 49 < q) : A.1 q = G.1 q := h.1 q (Or.inr hq)
/-- the accumulators ahead of index j of a loop from a on -/
def mxA (f : Nat → Int32) (a : Nat) (s0 : Int32 × Int32) (j : Nat) : Int32 × Int32 := mxF f a s0 (j - a)
theorem mxA_0 {f : Nat → Int32} {a : Nat} {s0 : Int32 × Int32} : mxA f a s0 a = s0 := by
  unfold mxA
  rw [Nat.sub_self]
  rfl
theorem mxA_s {f : Nat → Int32} {a j : Nat} {s0 : Int32 × Int32} (h : a ≤ j) : mxA f a s0 (j + 1) = if f j ≤ (mxA f a s0 j).2 then mxA f a s0 j else (iN j, f j) := by
  unfold mxA
  rw [show j + 1 - a = j - a + 1 by omega]
  show (if f (a + (j - a)) ≤ (mxF f a s0 (j - a)).2 then mxF f a s0 (j - a) else (iN (a + (j - a)), f (a + (j - a)))) = _
  rw [show a + (j - a) = j by omega]
theorem mxA_1 {f : Nat → Int32} {a b : Nat} {s0 s1 : Int32 × Int32} (h : ¬ f a ≤ s0.2) (h1 : ¬ f a ≤ s1.2) (hb : a < b) : mxA f a s0 b = mxA f a s1 b := by
  obtain ⟨k, rfl⟩ : ∃ k, b = a + (k + 1) := ⟨b - a - 1, by omega⟩
  unfold mxA
  rw [show a + (k + 1) - a = k + 1 by omega, mxF_1 h, mxF_1 h1]
def mnA (f : Nat → Int32) (a : Nat) (s0 : Int32 × Int32) (j : Nat) : Int32 × Int32 := mnF f a s0 (j - a)
theorem mnA_0 {f : Nat → Int32} {a : Nat} {s0 : Int32 × Int32} : mnA f a s0 a = s0 := by
  unfold mnA
  rw [Nat.sub_self]
  rfl
theorem mnA_s {f : Nat → Int32} {a j : Nat} {s0 : Int32 × Int32} (h : a ≤ j) : mnA f a s0 (j + 1) = if (mnA f a s0 j).2 ≤ f j then mnA f a s0 j else (iN j, f j) := by
  unfold mnA
  rw [show j + 1 - a = j - a + 1 by omega]
  show (if (mnF f a s0 (j - a)).2 ≤ f (a + (j - a)) then mnF f a s0 (j - a) else (iN (a + (j - a)), f (a + (j - a)))) = _
  rw [show a + (j - a) = j by omega]
/-- the first one counts always, whatever stood there -/
def fiA (f : Nat → Int32) (s0 : Int32 × Int32) (j : Nat) : Int32 × Int32 := if j ≤ 1 then s0 else mnA f 2 (iN 1, f 1) j
theorem fiA_1 {f : Nat → Int32} {s0 : Int32 × Int32} : fiA f s0 1 = s0 := if_pos (by omega)
theorem fiA_2 {f : Nat → Int32} {s0 : Int32 × Int32} : fiA f s0 2 = (iN 1, f 1) := (if_neg (by omega)).trans mnA_0
theorem fiA_g {f : Nat → Int32} {j : Nat} {s0 : Int32 × Int32} (h : 2 ≤ j) : fiA f s0 j = mnA f 2 (iN 1, f 1) j := if_neg (by omega)
theorem fiA_s {f : Nat → Int32} {j : Nat} {s0 : Int32 × Int32} (h : 2 ≤ j) : fiA f s0 (j + 1) = if (fiA f s0 j).2 ≤ f j then fiA f s0 j else (iN j, f j) := by
  rw [fiA_g (show 2 ≤ j + 1 by omega), fiA_g h, mnA_s h]
theorem fiA_b {f : Nat → Int32} {j : Nat} {s0 : Int32 × Int32} (h : 2 ≤ j) : ∃ b, 1 ≤ b ∧ b ≤ j ∧ (fiA f s0 j).1 = iN b := by
  unfold fiA mnA
  rw [if_neg (by omega)]
  obtain ⟨b, h1, h2, h3⟩ := mnF_b (f := f) (a := 2) (s0 := (iN 1, f 1)) (b0 := 1) rfl (by omega) (by omega) (j - 2)
  exact ⟨b, h1, by omega, h3⟩
theorem fiA_e {f : Nat → Int32} {s0 s1 : Int32 × Int32} {j : Nat} (h : 2 ≤ j) : fiA f s0 j = fiA f s1 j := by
  unfold fiA
  rw [if_neg (by omega), if_neg (by omega)]
theorem op_turns (a1 a2 a3 : Int32) {G : G_} (h : RR G) : pOK (f_X7_turns a1 a2 a3) (f_X8_turns a1 a2 a3) G := by
  have hw1 : (f_X7_isWay a2 (iN 1) = some (iN 0) ∧ f_X8_in a2 (iN 10) (iN 30) = some (iN 0)) ∨ (f_X7_isWay a2 (iN 1) = some (iN 1) ∧ f_X8_in a2 (iN 10) (iN 30) = some (iN 1) ∧ ∃ k, a2 = iN k ∧ 10 ≤ k ∧ k ≤ 30) := by
    unfold f_X7_isWay
    rcases in_NN 10 30 a2 with ⟨x1, x2⟩ | ⟨x1, x2, k, rfl, x3, x4⟩
    · exact Or.inl ⟨by simp (disch := omega) only [chk_t, beq_self_eq_true, nm_s, bj1_s, bj2_s, bj3_s, mo_1, mo_0, l_0, l_1, l_2, l_3, l_4, l_5, l_6, l_7, l_8, l_9, l_10, l_11, l_12, l_13, l_14, l_15, l_16, l_17, l_18, l_19, l_20, l_21, l_30, l_31, l_32, l_36, l_40, l_41, l_42, l_43, l_44, l_45, l_46, l_47, l_48, l_49, l_50, l_51, l_52, l_57, l_58, l_60, l_64, l_72, l_80, l_92, l_98, l_99, l_100, l_102, l_105, l_111, l_112, l_114, l_115, l_116, l_117, l_120, l_144, l_200, l_201, l_240, l_300, l_320, l_400, l_500, l_550, l_560, l_649, l_650, l_1000, l_1400, l_2000, l_4000, l_10000, iN_add, iN_sub, iN_mul, iN_le_t, iN_le_f, iN_lt_t, iN_lt_f, iN_eq_f, inb_iN, ix_iN, isZ_0, isZ_1, ↓reduceIte, eq_self, x1], x2⟩
    · exact Or.inr ⟨by simp (disch := omega) only [chk_t, beq_self_eq_true, nm_s, bj1_s, bj2_s, bj3_s, mo_1, mo_0, l_0, l_1, l_2, l_3, l_4, l_5, l_6, l_7, l_8, l_9, l_10, l_11, l_12, l_13, l_14, l_15, l_16, l_17, l_18, l_19, l_20, l_21, l_30, l_31, l_32, l_36, l_40, l_41, l_42, l_43, l_44, l_45, l_46, l_47, l_48, l_49, l_50, l_51, l_52, l_57, l_58, l_60, l_64, l_72, l_80, l_92, l_98, l_99, l_100, l_102, l_105, l_111, l_112, l_114, l_115, l_116, l_117, l_120, l_144, l_200, l_201, l_240, l_300, l_320, l_400, l_500, l_550, l_560, l_649, l_650, l_1000, l_1400, l_2000, l_4000, l_10000, iN_add, iN_sub, iN_mul, iN_le_t, iN_le_f, iN_lt_t, iN_lt_f, iN_eq_f, inb_iN, ix_iN, isZ_0, isZ_1, ↓reduceIte, eq_self, x1, in7, inS_t], x2, k, rfl, x3, x4⟩
  rcases slab_cases a1 G with ⟨e1, c1⟩ | ⟨k, hk, rfl, e1, c1, ho⟩
  · refine pOK_same (x := -iN 1) h (by unfold f_X7_turns; rw [c1, bj1_s]; rfl) ?_
    rcases hw1 with ⟨_, w8⟩ | ⟨_, w8, -⟩ <;> rcases in_NN 1 120 a3 with ⟨_, v8⟩ | ⟨_, v8, -⟩ <;> (unfold f_X8_turns; simp (disch := omega) only [chk_t, beq_self_eq_true, nm_s, bj1_s, bj2_s, bj3_s, mo_1, mo_0, l_0, l_1, l_2, l_3, l_4, l_5, l_6, l_7, l_8, l_9, l_10, l_11, l_12, l_13, l_14, l_15, l_16, l_17, l_18, l_19, l_20, l_21, l_30, l_31, l_32, l_36, l_40, l_41, l_42, l_43, l_44, l_45, l_46, l_47, l_48, l_49, l_50, l_51, l_52, l_57, l_58, l_60, l_64, l_72, l_80, l_92, l_98, l_99, l_100, l_102, l_105, l_111, l_112, l_114, l_115, l_116, l_117, l_120, l_144, l_200, l_201, l_240, l_300, l_320, l_400, l_500, l_550, l_560, l_649, l_650, l_1000, l_1400, l_2000, l_4000, l_10000, iN_add, iN_sub, iN_mul, iN_le_t, iN_le_f, iN_lt_t, iN_lt_f, iN_eq_f, inb_iN, ix_iN, isZ_0, isZ_1, ↓reduceIte, eq_self, w8, v8, ns_bad2 e1, le_m1])
  · rcases hw1 with ⟨w7, w8⟩ | ⟨w7, w8, q, rfl, hq1, hq2⟩
    · refine pOK_same (x := -iN 1) h ?_ ?_
      · unfold f_X7_turns
        simp (disch := omega) only [chk_t, beq_self_eq_true, nm_s, bj1_s, bj2_s, bj3_s, mo_1, mo_0, l_0, l_1, l_2, l_3, l_4, l_5, l_6, l_7, l_8, l_9, l_10, l_11, l_12, l_13, l_14, l_15, l_16, l_17, l_18, l_19, l_20, l_21, l_30, l_31, l_32, l_36, l_40, l_41, l_42, l_43, l_44, l_45, l_46, l_47, l_48, l_49, l_50, l_51, l_52, l_57, l_58, l_60, l_64, l_72, l_80, l_92, l_98, l_99, l_100, l_102, l_105, l_111, l_112, l_114, l_115, l_116, l_117, l_120, l_144, l_200, l_201, l_240, l_300, l_320, l_400, l_500, l_550, l_560, l_649, l_650, l_1000, l_1400, l_2000, l_4000, l_10000, iN_add, iN_sub, iN_mul, iN_le_t, iN_le_f, iN_lt_t, iN_lt_f, iN_eq_f, inb_iN, ix_iN, isZ_0, isZ_1, ↓reduceIte, eq_self, c1, kd_b ho, w7]
      · unfold f_X8_turns
        simp (disch := omega) only [chk_t, beq_self_eq_true, nm_s, bj1_s, bj2_s, bj3_s, mo_1, mo_0, l_0, l_1, l_2, l_3, l_4, l_5, l_6, l_7, l_8, l_9, l_10, l_11, l_12, l_13, l_14, l_15, l_16, l_17, l_18, l_19, l_20, l_21, l_30, l_31, l_32, l_36, l_40, l_41, l_42, l_43, l_44, l_45, l_46, l_47, l_48, l_49, l_50, l_51, l_52, l_57, l_58, l_60, l_64, l_72, l_80, l_92, l_98, l_99, l_100, l_102, l_105, l_111, l_112, l_114, l_115, l_116, l_117, l_120, l_144, l_200, l_201, l_240, l_300, l_320, l_400, l_500, l_550, l_560, l_649, l_650, l_1000, l_1400, l_2000, l_4000, l_10000, iN_add, iN_sub, iN_mul, iN_le_t, iN_le_f, iN_lt_t, iN_lt_f, iN_eq_f, inb_iN, ix_iN, isZ_0, isZ_1, ↓reduceIte, eq_self, w8, ns_bad1, le_m1]
    · rcases in_NN 1 120 a3 with ⟨v7, v8⟩ | ⟨v7, v8, c, rfl, hc1, hc2⟩
      · refine pOK_same (x := -iN 1) h ?_ ?_
        · unfold f_X7_turns
          simp (disch := omega) only [chk_t, beq_self_eq_true, nm_s, bj1_s, bj2_s, bj3_s, mo_1, mo_0, l_0, l_1, l_2, l_3, l_4, l_5, l_6, l_7, l_8, l_9, l_10, l_11, l_12, l_13, l_14, l_15, l_16, l_17, l_18, l_19, l_20, l_21, l_30, l_31, l_32, l_36, l_40, l_41, l_42, l_43, l_44, l_45, l_46, l_47, l_48, l_49, l_50, l_51, l_52, l_57, l_58, l_60, l_64, l_72, l_80, l_92, l_98, l_99, l_100, l_102, l_105, l_111, l_112, l_114, l_115, l_116, l_117, l_120, l_144, l_200, l_201, l_240, l_300, l_320, l_400, l_500, l_550, l_560, l_649, l_650, l_1000, l_1400, l_2000, l_4000, l_10000, iN_add, iN_sub, iN_mul, iN_le_t, iN_le_f, iN_lt_t, iN_lt_f, iN_eq_f, inb_iN, ix_iN, isZ_0, isZ_1, ↓reduceIte, eq_self, c1, kd_b ho, w7, v7]
        · unfold f_X8_turns
          simp (disch := omega) only [chk_t, beq_self_eq_true, nm_s, bj1_s, bj2_s, bj3_s, mo_1, mo_0, l_0, l_1, l_2, l_3, l_4, l_5, l_6, l_7, l_8, l_9, l_10, l_11, l_12, l_13, l_14, l_15, l_16, l_17, l_18, l_19, l_20, l_21, l_30, l_31, l_32, l_36, l_40, l_41, l_42, l_43, l_44, l_45, l_46, l_47, l_48, l_49, l_50, l_51, l_52, l_57, l_58, l_60, l_64, l_72, l_80, l_92, l_98, l_99, l_100, l_102, l_105, l_111, l_112, l_114, l_115, l_116, l_117, l_120, l_144, l_200, l_201, l_240, l_300, l_320, l_400, l_500, l_550, l_560, l_649, l_650, l_1000, l_1400, l_2000, l_4000, l_10000, iN_add, iN_sub, iN_mul, iN_le_t, iN_le_f, iN_lt_t, iN_lt_f, iN_eq_f, inb_iN, ix_iN, isZ_0, isZ_1, ↓reduceIte, eq_self, w8, v8, ns_bad1, le_m1]
      · obtain ⟨r1, r2, r3⟩ := h.1.2.2.1 k hk
        rcases r2 with r2 | ⟨r2, n, hsl⟩
        · refine pOK_found (f := 1) (by omega) h ?_ ?_
          · unfold f_X7_turns
            simp (disch := omega) only [chk_t, beq_self_eq_true, nm_s, bj1_s, bj2_s, bj3_s, mo_1, mo_0, l_0, l_1, l_2, l_3, l_4, l_5, l_6, l_7, l_8, l_9, l_10, l_11, l_12, l_13, l_14, l_15, l_16, l_17, l_18, l_19, l_20, l_21, l_30, l_31, l_32, l_36, l_40, l_41, l_42, l_43, l_44, l_45, l_46, l_47, l_48, l_49, l_50, l_51, l_52, l_57, l_58, l_60, l_64, l_72, l_80, l_92, l_98, l_99, l_100, l_102, l_105, l_111, l_112, l_114, l_115, l_116, l_117, l_120, l_144, l_200, l_201, l_240, l_300, l_320, l_400, l_500, l_550, l_560, l_649, l_650, l_1000, l_1400, l_2000, l_4000, l_10000, iN_add, iN_sub, iN_mul, iN_le_t, iN_le_f, iN_lt_t, iN_lt_f, iN_eq_f, inb_iN, ix_iN, isZ_0, isZ_1, ↓reduceIte, eq_self, c1, kd_b ho, w7, v7, r1, r2, found_ok]
          · unfold f_X8_turns
            simp (disch := omega) only [chk_t, beq_self_eq_true, nm_s, bj1_s, bj2_s, bj3_s, mo_1, mo_0, l_0, l_1, l_2, l_3, l_4, l_5, l_6, l_7, l_8, l_9, l_10, l_11, l_12, l_13, l_14, l_15, l_16, l_17, l_18, l_19, l_20, l_21, l_30, l_31, l_32, l_36, l_40, l_41, l_42, l_43, l_44, l_45, l_46, l_47, l_48, l_49, l_50, l_51, l_52, l_57, l_58, l_60, l_64, l_72, l_80, l_92, l_98, l_99, l_100, l_102, l_105, l_111, l_112, l_114, l_115, l_116, l_117, l_120, l_144, l_200, l_201, l_240, l_300, l_320, l_400, l_500, l_550, l_560, l_649, l_650, l_1000, l_1400, l_2000, l_4000, l_10000, iN_add, iN_sub, iN_mul, iN_le_t, iN_le_f, iN_lt_t, iN_lt_f, iN_eq_f, inb_iN, ix_iN, isZ_0, isZ_1, ↓reduceIte, eq_self, w8, v8, ns_miss hk (show (fndC 1 G).1 131 k = iN 0 by rw [fndC_o (by omega) (by omega)]; exact r2), le_m3]
        · have hX := nx_sl hsl
          have wf0 := wf_bg hX (by unfold mD; rw [nx_4]; decide)
          have wA := fun t => wf_way (k := c) (q := iN q) (t := iN t) wf0 (qR_N hq2)
          obtain ⟨F, hF⟩ : ∃ F : Nat → Int32, F = fun t => pinkS (wayS (iN q) (iN t) (bgS (newX k G)) c) := ⟨_, rfl⟩
          have hFt : ∀ t, pinkS (wayS (iN q) (iN t) (bgS (newX k G)) c) = F t := fun t => by rw [hF]
          obtain ⟨A, hA, ccA⟩ := loop_p (fun f v s H => f_X7_turns_l55_13 (iN q) (iN c) (71 + k) f s.1 s.2 v H) (fun _ H => cc G H) (mxA F 1 (iN 1, -iN 1)) 1 61 (by
            intro f j H h3 h4 hI
            obtain ⟨A, hA, cA, fA⟩ := mkWay_ok (o := 17) (c := c) (G := H) rfl ho (by omega) hX nx_4 (cSl_cc (nx_c r3) (cc_at hI (by omega))) (qR_N hq2) (t1N (l := j) (by omega) (by omega)) (by omega)
            have pA := cpink_ok (o := 17) rfl (wA j).1 cA
            rw [hFt] at pA
            refine ⟨A, cc_tr hI (cc_fr fA (by omega) (by omega)), ?_⟩
            rw [mxA_s h3]
            generalize mxA F 1 (iN 1, -iN 1) j = s
            obtain ⟨x, y⟩ := s
            show f_X7_turns_l55_13 (iN q) (iN c) (71 + k) (f + 1) x y (iN j) H = _
            conv => lhs; unfold f_X7_turns_l55_13
            by_cases cq : F j ≤ y
            · simp (disch := omega) only [chk_t, beq_self_eq_true, nm_s, bj1_s, bj2_s, bj3_s, mo_1, mo_0, l_0, l_1, l_2, l_3, l_4, l_5, l_6, l_7, l_8, l_9, l_10, l_11, l_12, l_13, l_14, l_15, l_16, l_17, l_18, l_19, l_20, l_21, l_30, l_31, l_32, l_36, l_40, l_41, l_42, l_43, l_44, l_45, l_46, l_47, l_48, l_49, l_50, l_51, l_52, l_57, l_58, l_60, l_64, l_72, l_80, l_92, l_98, l_99, l_100, l_102, l_105, l_111, l_112, l_114, l_115, l_116, l_117, l_120, l_144, l_200, l_201, l_240, l_300, l_320, l_400, l_500, l_550, l_560, l_649, l_650, l_1000, l_1400, l_2000, l_4000, l_10000, iN_add, iN_sub, iN_mul, iN_le_t, iN_le_f, iN_lt_t, iN_lt_f, iN_eq_f, inb_iN, ix_iN, isZ_0, isZ_1, ↓reduceIte, eq_self, hA, pA, if_pos cq]
            · simp (disch := omega) only [chk_t, beq_self_eq_true, nm_s, bj1_s, bj2_s, bj3_s, mo_1, mo_0, l_0, l_1, l_2, l_3, l_4, l_5, l_6, l_7, l_8, l_9, l_10, l_11, l_12, l_13, l_14, l_15, l_16, l_17, l_18, l_19, l_20, l_21, l_30, l_31, l_32, l_36, l_40, l_41, l_42, l_43, l_44, l_45, l_46, l_47, l_48, l_49, l_50, l_51, l_52, l_57, l_58, l_60, l_64, l_72, l_80, l_92, l_98, l_99, l_100, l_102, l_105, l_111, l_112, l_114, l_115, l_116, l_117, l_120, l_144, l_200, l_201, l_240, l_300, l_320, l_400, l_500, l_550, l_560, l_649, l_650, l_1000, l_1400, l_2000, l_4000, l_10000, iN_add, iN_sub, iN_mul, iN_le_t, iN_le_f, iN_lt_t, iN_lt_f, iN_eq_f, inb_iN, ix_iN, isZ_0, isZ_1, ↓reduceIte, eq_self, hA, pA, if_neg cq]) (by
            intro f x y H
            show f_X7_turns_l55_13 (iN q) (iN c) (71 + k) (f + 1) x y (iN 61) H = _
            unfold f_X7_turns_l55_13
            simp (disch := omega) only [chk_t, beq_self_eq_true, nm_s, bj1_s, bj2_s, bj3_s, mo_1, mo_0, l_0, l_1, l_2, l_3, l_4, l_5, l_6, l_7, l_8, l_9, l_10, l_11, l_12, l_13, l_14, l_15, l_16, l_17, l_18, l_19, l_20, l_21, l_30, l_31, l_32, l_36, l_40, l_41, l_42, l_43, l_44, l_45, l_46, l_47, l_48, l_49, l_50, l_51, l_52, l_57, l_58, l_60, l_64, l_72, l_80, l_92, l_98, l_99, l_100, l_102, l_105, l_111, l_112, l_114, l_115, l_116, l_117, l_120, l_144, l_200, l_201, l_240, l_300, l_320, l_400, l_500, l_550, l_560, l_649, l_650, l_1000, l_1400, l_2000, l_4000, l_10000, iN_add, iN_sub, iN_mul, iN_le_t, iN_le_f, iN_lt_t, iN_lt_f, iN_eq_f, inb_iN, ix_iN, isZ_0, isZ_1, ↓reduceIte, eq_self]) (by omega) (n := FU) (fu_lt (by omega)) (G := G) cc_refl
          have hp0 : ¬ F 1 ≤ -iN 1 := by
            obtain ⟨z, hz, ez⟩ := just_N (iN 500) (iN 649) (wA 1).1
            rw [← hFt]
            unfold pinkS
            rw [ez]
            exact N_m1 (by omega)
          have eS : mxA F 1 (iN 1, -iN 1) 61 = mxA F 1 (iN 0, -iN 1) 61 := mxA_1 hp0 hp0 (by omega)
          rw [eS, mxA_0] at hA
          have hA : f_X7_turns_l55_13 (iN q) (iN c) (71 + k) FU (iN 1) (-iN 1) (iN 1) G = some ((mxA F 1 (iN 0, -iN 1) 61).1, (mxA F 1 (iN 0, -iN 1) 61).2, A) := hA
          have hbM := fun y => bM_LG (m := 4) (G := sI A 0 16 y) (by omega)
          have hM := fun y => loop_p (fun f v s H => f_X8_turns_l55_16 (iN q) (iN c) f s.1 s.2 v H) (fun _ H => ∃ D' W', H = stM 4 D' W' (LG 4 (sI A 0 16 y)) ∧ okN D' n ∧ bgS D' = bgS (newX k G)) (mxA F 1 (iN 0, -iN 1)) 1 61 (by
            intro f j H h3 h4 ⟨D', W', eH, hn', hbg⟩
            subst eH
            obtain ⟨W2, m2⟩ := mmakes_ok (D := D') (W := W') (q := iN q) (t := iN j) (c := c) (hbM y) hn' (t1N (l := j) (by omega) (by omega)) (by omega)
            rw [hbg] at m2
            have m3 := mpink_ok (D := wayS (iN q) (iN j) (bgS (newX k G)) c) (W := W2) (hbM y) (wA j).1
            rw [hFt] at m3
            refine ⟨_, ⟨_, W2, rfl, (wA j).1, bg_bg (fun p hp => way_X hX.1 hp)⟩, ?_⟩
            rw [mxA_s h3]
            generalize mxA F 1 (iN 0, -iN 1) j = s
            obtain ⟨x, z⟩ := s
            show f_X8_turns_l55_16 (iN q) (iN c) (f + 1) x z (iN j) _ = _
            conv => lhs; unfold f_X8_turns_l55_16
            by_cases cq : F j ≤ z
            · simp (disch := omega) only [chk_t, beq_self_eq_true, nm_s, bj1_s, bj2_s, bj3_s, mo_1, mo_0, l_0, l_1, l_2, l_3, l_4, l_5, l_6, l_7, l_8, l_9, l_10, l_11, l_12, l_13, l_14, l_15, l_16, l_17, l_18, l_19, l_20, l_21, l_30, l_31, l_32, l_36, l_40, l_41, l_42, l_43, l_44, l_45, l_46, l_47, l_48, l_49, l_50, l_51, l_52, l_57, l_58, l_60, l_64, l_72, l_80, l_92, l_98, l_99, l_100, l_102, l_105, l_111, l_112, l_114, l_115, l_116, l_117, l_120, l_144, l_200, l_201, l_240, l_300, l_320, l_400, l_500, l_550, l_560, l_649, l_650, l_1000, l_1400, l_2000, l_4000, l_10000, iN_add, iN_sub, iN_mul, iN_le_t, iN_le_f, iN_lt_t, iN_lt_f, iN_eq_f, inb_iN, ix_iN, isZ_0, isZ_1, ↓reduceIte, eq_self, m2, m3, if_pos cq, greater_ok, gt_le]
            · simp (disch := omega) only [chk_t, beq_self_eq_true, nm_s, bj1_s, bj2_s, bj3_s, mo_1, mo_0, l_0, l_1, l_2, l_3, l_4, l_5, l_6, l_7, l_8, l_9, l_10, l_11, l_12, l_13, l_14, l_15, l_16, l_17, l_18, l_19, l_20, l_21, l_30, l_31, l_32, l_36, l_40, l_41, l_42, l_43, l_44, l_45, l_46, l_47, l_48, l_49, l_50, l_51, l_52, l_57, l_58, l_60, l_64, l_72, l_80, l_92, l_98, l_99, l_100, l_102, l_105, l_111, l_112, l_114, l_115, l_116, l_117, l_120, l_144, l_200, l_201, l_240, l_300, l_320, l_400, l_500, l_550, l_560, l_649, l_650, l_1000, l_1400, l_2000, l_4000, l_10000, iN_add, iN_sub, iN_mul, iN_le_t, iN_le_f, iN_lt_t, iN_lt_f, iN_eq_f, inb_iN, ix_iN, isZ_0, isZ_1, ↓reduceIte, eq_self, m2, m3, if_neg cq, greater_ok, gt_le]) (by
            intro f x z H
            show f_X8_turns_l55_16 (iN q) (iN c) (f + 1) x z (iN 61) H = _
            unfold f_X8_turns_l55_16
            simp (disch := omega) only [chk_t, beq_self_eq_true, nm_s, bj1_s, bj2_s, bj3_s, mo_1, mo_0, l_0, l_1, l_2, l_3, l_4, l_5, l_6, l_7, l_8, l_9, l_10, l_11, l_12, l_13, l_14, l_15, l_16, l_17, l_18, l_19, l_20, l_21, l_30, l_31, l_32, l_36, l_40, l_41, l_42, l_43, l_44, l_45, l_46, l_47, l_48, l_49, l_50, l_51, l_52, l_57, l_58, l_60, l_64, l_72, l_80, l_92, l_98, l_99, l_100, l_102, l_105, l_111, l_112, l_114, l_115, l_116, l_117, l_120, l_144, l_200, l_201, l_240, l_300, l_320, l_400, l_500, l_550, l_560, l_649, l_650, l_1000, l_1400, l_2000, l_4000, l_10000, iN_add, iN_sub, iN_mul, iN_le_t, iN_le_f, iN_lt_t, iN_lt_f, iN_eq_f, inb_iN, ix_iN, isZ_0, isZ_1, ↓reduceIte, eq_self]) (by omega) (n := FU) (fu_lt (by omega)) (G := stM 4 (newX k G) (WM (sI A 0 16 y)) (LG 4 (sI A 0 16 y))) ⟨_, _, rfl, hX.1, rfl⟩
          rw [mxA_0] at hM
          generalize mxA F 1 (iN 0, -iN 1) 61 = s at *
          obtain ⟨x, y⟩ := s
          obtain ⟨H, hH, D', W', eH, -⟩ := hM y
          have hH : f_X8_turns_l55_16 (iN q) (iN c) FU (iN 0) (-iN 1) (iN 1) (stM 4 (newX k G) (WM (sI A 0 16 y)) (LG 4 (sI A 0 16 y))) = some (x, y, H) := hH
          subst eH
          have e50 := cc_50 (y := y) ccA
          refine pOK_tell (x := x) (y := y) (G1 := A) (H := stM 4 D' W' (LG 4 (sI A 0 16 y))) h ?_ ccA ?_ (mf_st mf_LG)
          · unfold f_X7_turns f_X7_told
            simp (disch := omega) only [chk_t, beq_self_eq_true, nm_s, bj1_s, bj2_s, bj3_s, mo_1, mo_0, l_0, l_1, l_2, l_3, l_4, l_5, l_6, l_7, l_8, l_9, l_10, l_11, l_12, l_13, l_14, l_15, l_16, l_17, l_18, l_19, l_20, l_21, l_30, l_31, l_32, l_36, l_40, l_41, l_42, l_43, l_44, l_45, l_46, l_47, l_48, l_49, l_50, l_51, l_52, l_57, l_58, l_60, l_64, l_72, l_80, l_92, l_98, l_99, l_100, l_102, l_105, l_111, l_112, l_114, l_115, l_116, l_117, l_120, l_144, l_200, l_201, l_240, l_300, l_320, l_400, l_500, l_550, l_560, l_649, l_650, l_1000, l_1400, l_2000, l_4000, l_10000, iN_add, iN_sub, iN_mul, iN_le_t, iN_le_f, iN_lt_t, iN_lt_f, iN_eq_f, inb_iN, ix_iN, isZ_0, isZ_1, ↓reduceIte, eq_self, c1, kd_b ho, w7, v7, r1, r2, hA]
          · have r2' : (sI A 0 16 y).1 131 k = iN 1 := by rw [e50 131 (by omega)]; exact r2
            unfold f_X8_turns f_X8_tells
            simp (disch := omega) only [chk_t, beq_self_eq_true, nm_s, bj1_s, bj2_s, bj3_s, mo_1, mo_0, l_0, l_1, l_2, l_3, l_4, l_5, l_6, l_7, l_8, l_9, l_10, l_11, l_12, l_13, l_14, l_15, l_16, l_17, l_18, l_19, l_20, l_21, l_30, l_31, l_32, l_36, l_40, l_41, l_42, l_43, l_44, l_45, l_46, l_47, l_48, l_49, l_50, l_51, l_52, l_57, l_58, l_60, l_64, l_72, l_80, l_92, l_98, l_99, l_100, l_102, l_105, l_111, l_112, l_114, l_115, l_116, l_117, l_120, l_144, l_200, l_201, l_240, l_300, l_320, l_400, l_500, l_550, l_560, l_649, l_650, l_1000, l_1400, l_2000, l_4000, l_10000, iN_add, iN_sub, iN_mul, iN_le_t, iN_le_f, iN_lt_t, iN_lt_f, iN_eq_f, inb_iN, ix_iN, isZ_0, isZ_1, ↓reduceIte, eq_self, w8, v8, ns_ok hk r2', le_00, nx_new hk e50, hH]
theorem grS_R {D : Nat → Int32} {n : Nat} (h : wfD D n) (k : Nat) : 0 ≤ (grS D k).toInt ∧ (grS D k).toInt ≤ 3000 := by
  have hn := h.1.2
  have key : ∀ j, 0 ≤ (midW (restS D j)).toInt ∧ (midW (restS D j)).toInt ≤ 3000 := fun j => by
    have w := wf_rest (k := j) h
    unfold midW
    exact w.2.2.1 _ (by rw [okN_n w.1]; omega)
  induction k with
  | zero => exact key 0
  | succ k ih =>
    unfold grS
    split
    · exact ih
    · exact key (k + 1)
theorem ab_far {a b : Int32} (h1 : 0 ≤ a.toInt ∧ a.toInt ≤ 100000) (h2 : 0 ≤ b.toInt ∧ b.toInt ≤ 100000) : ab (a - b) = if a < b then b - a else a - b := by
  have e1 : (a - b).toInt = a.toInt - b.toInt := t_sub (by omega) (by omega)
  have e2 : (b - a).toInt = b.toInt - a.toInt := t_sub (by omega) (by omega)
  unfold ab
  by_cases c : a < b
  · rw [if_pos c]
    have := t_lt.mp c
    rw [if_neg (fun e => by have := t_le.mp e; rw [show (0 : Int32).toInt = 0 from rfl, e1] at this; omega), t_eq, e2, show (0 : Int32) = iN 0 from rfl, t_sub (by rw [li (by omega), e1]; omega) (by rw [li (by omega), e1]; omega), li (by omega), e1]
    omega
  · rw [if_neg c]
    have : ¬ a.toInt < b.toInt := fun e => c (t_lt.mpr e)
    rw [if_pos (t_le.mpr (by rw [show (0 : Int32).toInt = 0 from rfl, e1]; omega))]
def offS (q t w : Int32) (X : Nat → Int32) (j : Nat) : Int32 := if grS (wayS q t (bgS X) j) 30 < w then w - grS (wayS q t (bgS X) j) 30 else grS (wayS q t (bgS X) j) 30 - w
theorem op_off (a1 a2 a3 a4 : Int32) {G : G_} (h : RR G) : pOK (f_X7_off a1 a2 a3 a4) (f_X8_off a1 a2 a3 a4) G := by
  rcases slab_cases a1 G with ⟨e1, c1⟩ | ⟨k, hk, rfl, e1, c1, ho⟩
  · refine pOK_same (x := -iN 1) h (by unfold f_X7_off; rw [c1, bj1_s]; rfl) ?_
    rcases way_N a2 a3 with ⟨_, w8⟩ | ⟨_, w8, -⟩ <;> rcases in_NN 0 2000 a4 with ⟨_, v8⟩ | ⟨_, v8, -⟩ <;> (unfold f_X8_off; simp (disch := omega) only [chk_t, beq_self_eq_true, nm_s, bj1_s, bj2_s, bj3_s, mo_1, mo_0, l_0, l_1, l_2, l_3, l_4, l_5, l_6, l_7, l_8, l_9, l_10, l_11, l_12, l_13, l_14, l_15, l_16, l_17, l_18, l_19, l_20, l_21, l_30, l_31, l_32, l_36, l_40, l_41, l_42, l_43, l_44, l_45, l_46, l_47, l_48, l_49, l_50, l_51, l_52, l_57, l_58, l_60, l_64, l_72, l_80, l_92, l_98, l_99, l_100, l_102, l_105, l_111, l_112, l_114, l_115, l_116, l_117, l_120, l_144, l_200, l_201, l_240, l_300, l_320, l_400, l_500, l_550, l_560, l_649, l_650, l_1000, l_1400, l_2000, l_4000, l_10000, iN_add, iN_sub, iN_mul, iN_le_t, iN_le_f, iN_lt_t, iN_lt_f, iN_eq_f, inb_iN, ix_iN, isZ_0, isZ_1, ↓reduceIte, eq_self, w8, v8, ns_bad2 e1, le_m1])
  · rcases way_N a2 a3 with ⟨w7, w8⟩ | ⟨w7, w8, q, t, rfl, rfl, hq1, hq2, ht1, ht2⟩
    · refine pOK_same (x := -iN 1) h ?_ ?_
      · unfold f_X7_off
        simp (disch := omega) only [chk_t, beq_self_eq_true, nm_s, bj1_s, bj2_s, bj3_s, mo_1, mo_0, l_0, l_1, l_2, l_3, l_4, l_5, l_6, l_7, l_8, l_9, l_10, l_11, l_12, l_13, l_14, l_15, l_16, l_17, l_18, l_19, l_20, l_21, l_30, l_31, l_32, l_36, l_40, l_41, l_42, l_43, l_44, l_45, l_46, l_47, l_48, l_49, l_50, l_51, l_52, l_57, l_58, l_60, l_64, l_72, l_80, l_92, l_98, l_99, l_100, l_102, l_105, l_111, l_112, l_114, l_115, l_116, l_117, l_120, l_144, l_200, l_201, l_240, l_300, l_320, l_400, l_500, l_550, l_560, l_649, l_650, l_1000, l_1400, l_2000, l_4000, l_10000, iN_add, iN_sub, iN_mul, iN_le_t, iN_le_f, iN_lt_t, iN_lt_f, iN_eq_f, inb_iN, ix_iN, isZ_0, isZ_1, ↓reduceIte, eq_self, c1, kd_b ho, w7]
      · unfold f_X8_off
        simp (disch := omega) only [chk_t, beq_self_eq_true, nm_s, bj1_s, bj2_s, bj3_s, mo_1, mo_0, l_0, l_1, l_2, l_3, l_4, l_5, l_6, l_7, l_8, l_9, l_10, l_11, l_12, l_13, l_14, l_15, l_16, l_17, l_18, l_19, l_20, l_21, l_30, l_31, l_32, l_36, l_40, l_41, l_42, l_43, l_44, l_45, l_46, l_47, l_48, l_49, l_50, l_51, l_52, l_57, l_58, l_60, l_64, l_72, l_80, l_92, l_98, l_99, l_100, l_102, l_105, l_111, l_112, l_114, l_115, l_116, l_117, l_120, l_144, l_200, l_201, l_240, l_300, l_320, l_400, l_500, l_550, l_560, l_649, l_650, l_1000, l_1400, l_2000, l_4000, l_10000, iN_add, iN_sub, iN_mul, iN_le_t, iN_le_f, iN_lt_t, iN_lt_f, iN_eq_f, inb_iN, ix_iN, isZ_0, isZ_1, ↓reduceIte, eq_self, w8, ns_bad1, le_m1]
    · rcases in_NN 0 2000 a4 with ⟨v7, v8⟩ | ⟨v7, v8, w, rfl, hc1, hc2⟩
      · refine pOK_same (x := -iN 1) h ?_ ?_
        · unfold f_X7_off
          simp (disch := omega) only [chk_t, beq_self_eq_true, nm_s, bj1_s, bj2_s, bj3_s, mo_1, mo_0, l_0, l_1, l_2, l_3, l_4, l_5, l_6, l_7, l_8, l_9, l_10, l_11, l_12, l_13, l_14, l_15, l_16, l_17, l_18, l_19, l_20, l_21, l_30, l_31, l_32, l_36, l_40, l_41, l_42, l_43, l_44, l_45, l_46, l_47, l_48, l_49, l_50, l_51, l_52, l_57, l_58, l_60, l_64, l_72, l_80, l_92, l_98, l_99, l_100, l_102, l_105, l_111, l_112, l_114, l_115, l_116, l_117, l_120, l_144, l_200, l_201, l_240, l_300, l_320, l_400, l_500, l_550, l_560, l_649, l_650, l_1000, l_1400, l_2000, l_4000, l_10000, iN_add, iN_sub, iN_mul, iN_le_t, iN_le_f, iN_lt_t, iN_lt_f, iN_eq_f, inb_iN, ix_iN, isZ_0, isZ_1, ↓reduceIte, eq_self, c1, kd_b ho, w7, v7]
        · unfold f_X8_off
          simp (disch := omega) only [chk_t, beq_self_eq_true, nm_s, bj1_s, bj2_s, bj3_s, mo_1, mo_0, l_0, l_1, l_2, l_3, l_4, l_5, l_6, l_7, l_8, l_9, l_10, l_11, l_12, l_13, l_14, l_15, l_16, l_17, l_18, l_19, l_20, l_21, l_30, l_31, l_32, l_36, l_40, l_41, l_42, l_43, l_44, l_45, l_46, l_47, l_48, l_49, l_50, l_51, l_52, l_57, l_58, l_60, l_64, l_72, l_80, l_92, l_98, l_99, l_100, l_102, l_105, l_111, l_112, l_114, l_115, l_116, l_117, l_120, l_144, l_200, l_201, l_240, l_300, l_320, l_400, l_500, l_550, l_560, l_649, l_650, l_1000, l_1400, l_2000, l_4000, l_10000, iN_add, iN_sub, iN_mul, iN_le_t, iN_le_f, iN_lt_t, iN_lt_f, iN_eq_f, inb_iN, ix_iN, isZ_0, isZ_1, ↓reduceIte, eq_self, w8, v8, ns_bad1, le_m1]
      · obtain ⟨r1, r2, r3⟩ := h.1.2.2.1 k hk
        rcases r2 with r2 | ⟨r2, n, hsl⟩
        · refine pOK_found (f := 1) (by omega) h ?_ ?_
          · unfold f_X7_off
            simp (disch := omega) only [chk_t, beq_self_eq_true, nm_s, bj1_s, bj2_s, bj3_s, mo_1, mo_0, l_0, l_1, l_2, l_3, l_4, l_5, l_6, l_7, l_8, l_9, l_10, l_11, l_12, l_13, l_14, l_15, l_16, l_17, l_18, l_19, l_20, l_21, l_30, l_31, l_32, l_36, l_40, l_41, l_42, l_43, l_44, l_45, l_46, l_47, l_48, l_49, l_50, l_51, l_52, l_57, l_58, l_60, l_64, l_72, l_80, l_92, l_98, l_99, l_100, l_102, l_105, l_111, l_112, l_114, l_115, l_116, l_117, l_120, l_144, l_200, l_201, l_240, l_300, l_320, l_400, l_500, l_550, l_560, l_649, l_650, l_1000, l_1400, l_2000, l_4000, l_10000, iN_add, iN_sub, iN_mul, iN_le_t, iN_le_f, iN_lt_t, iN_lt_f, iN_eq_f, inb_iN, ix_iN, isZ_0, isZ_1, ↓reduceIte, eq_self, c1, kd_b ho, w7, v7, r1, r2, found_ok]
          · unfold f_X8_off
            simp (disch := omega) only [chk_t, beq_self_eq_true, nm_s, bj1_s, bj2_s, bj3_s, mo_1, mo_0, l_0, l_1, l_2, l_3, l_4, l_5, l_6, l_7, l_8, l_9, l_10, l_11, l_12, l_13, l_14, l_15, l_16, l_17, l_18, l_19, l_20, l_21, l_30, l_31, l_32, l_36, l_40, l_41, l_42, l_43, l_44, l_45, l_46, l_47, l_48, l_49, l_50, l_51, l_52, l_57, l_58, l_60, l_64, l_72, l_80, l_92, l_98, l_99, l_100, l_102, l_105, l_111, l_112, l_114, l_115, l_116, l_117, l_120, l_144, l_200, l_201, l_240, l_300, l_320, l_400, l_500, l_550, l_560, l_649, l_650, l_1000, l_1400, l_2000, l_4000, l_10000, iN_add, iN_sub, iN_mul, iN_le_t, iN_le_f, iN_lt_t, iN_lt_f, iN_eq_f, inb_iN, ix_iN, isZ_0, isZ_1, ↓reduceIte, eq_self, w8, v8, ns_miss hk (show (fndC 1 G).1 131 k = iN 0 by rw [fndC_o (by omega) (by omega)]; exact r2), le_m3]
        · have hX := nx_sl hsl
          have hc := nx_c (G := G) r3
          have wf0 := wf_bg hX (by unfold mD; rw [nx_4]; decide)
          have wj := fun j => wf_way (k := j) (q := iN q) (t := iN t) wf0 (qR_N hq2)
          have m4j : ∀ j, wayS (iN q) (iN t) (bgS (newX k G)) j 4 = iN 0 := fun j => (way_X hX.1 (by omega)).trans nx_4
          have hX4 : newX k G 4 = iN 0 := nx_4
          have hNew := fun y A => nx_new (k := k) (G := G) (A := sI A 0 16 y) hk
          generalize newX k G = X at *
          obtain ⟨B0, hB0, cB0, fB0⟩ := begin_ok (o := 17) rfl ho (by omega) hX.1 hc.2.1 hc.2.2.2 hX4
          have hs1 : G.1 (71 + k) 1 = iN n := hc.1.trans hX.1.1
          have hs3 : G.1 (71 + k) 3 = X 2 := hc.2.2.1
          obtain ⟨F, hF⟩ : ∃ F : Nat → Int32, F = offS (iN q) (iN t) (iN w) X := ⟨_, rfl⟩
          have hgr := fun j => grS_R (wj j) 30
          have hFt : ∀ j, (if grS (wayS (iN q) (iN t) (bgS X) j) 30 < iN w then iN w - grS (wayS (iN q) (iN t) (bgS X) j) 30 else grS (wayS (iN q) (iN t) (bgS X) j) 30 - iN w) = F j := fun j => by rw [hF]; rfl
          obtain ⟨A, hA, -, ccA⟩ := loop_p (fun f v s H => f_X7_off_l76_15 (iN q) (iN t) (iN w) f s.1 s.2 v H) (fun j H => cD 17 (wayS (iN q) (iN t) (bgS X) (j - 1)) H ∧ cc G H) (fiA F (iN 0, iN 0)) 1 121 (by
            intro f j H h3 h4 ⟨i1, i2⟩
            obtain ⟨i, rfl⟩ : ∃ i, j = i + 1 := ⟨j - 1, by omega⟩
            rw [show i + 1 - 1 = i by omega] at i1
            obtain ⟨A, hA, cA, fA⟩ := goByWay_ok (o := 17) (k := i) (q := iN q) (t := iN t) rfl (wj i) (qR_N hq2) (t1N ht1 (by omega)) (way_43 wf0 (qR_N hq2) (bg_41 (by omega) (by omega))) i1
            have cA : cD 17 (wayS (iN q) (iN t) (bgS X) (i + 1)) A := cA
            have wi := wj (i + 1)
            have hz : isZ (A.1 17 7) = true := by
              rw [fA.2]
              exact i2.2.2 h.1.2.2.2.2.2.2.2.2.2
            obtain ⟨B, hB, cB, fB, -⟩ := become_ok (o := 28) (a := 17) (G := A) rfl rfl (by omega) wi.1 (m4j (i + 1)) (by omega) hz cA
            obtain ⟨C, hC, cC, fC⟩ := great_ok (o := 28) (c := 30) rfl wi (by omega) cB
            have hab : ab (grS (wayS (iN q) (iN t) (bgS X) (i + 1)) 30 - iN w) = F (i + 1) := by
              rw [← hFt]
              exact ab_far (by have := hgr (i + 1); omega) (by rw [li (by omega)]; omega)
            refine ⟨C, ⟨cD_fr cA (fun q h1 h2 => by rw [fC.1.1 q (by omega), fB.1 q (by omega)]), cc_tr i2 (cc_tr (cc_fr fA (by omega) (by omega)) (cc_tr (cc_fr0 fB (by omega) (by omega)) (cc_fr fC (by omega) (by omega))))⟩, ?_⟩
            by_cases c0 : i = 0
            · subst c0
              rw [fiA_1, fiA_2]
              show f_X7_off_l76_15 (iN q) (iN t) (iN w) (f + 1) (iN 0) (iN 0) (iN 1) H = _
              conv => lhs; unfold f_X7_off_l76_15
              simp (disch := omega) only [chk_t, beq_self_eq_true, nm_s, bj1_s, bj2_s, bj3_s, mo_1, mo_0, l_0, l_1, l_2, l_3, l_4, l_5, l_6, l_7, l_8, l_9, l_10, l_11, l_12, l_13, l_14, l_15, l_16, l_17, l_18, l_19, l_20, l_21, l_30, l_31, l_32, l_36, l_40, l_41, l_42, l_43, l_44, l_45, l_46, l_47, l_48, l_49, l_50, l_51, l_52, l_57, l_58, l_60, l_64, l_72, l_80, l_92, l_98, l_99, l_100, l_102, l_105, l_111, l_112, l_114, l_115, l_116, l_117, l_120, l_144, l_200, l_201, l_240, l_300, l_320, l_400, l_500, l_550, l_560, l_649, l_650, l_1000, l_1400, l_2000, l_4000, l_10000, iN_add, iN_sub, iN_mul, iN_le_t, iN_le_f, iN_lt_t, iN_lt_f, iN_eq_f, inb_iN, ix_iN, isZ_0, isZ_1, ↓reduceIte, eq_self, hA, hB, hC, hab]
            · rw [fiA_s (j := i + 1) (by omega)]
              obtain ⟨b, hb1, hb2, hb3⟩ := fiA_b (f := F) (j := i + 1) (s0 := (iN 0, iN 0)) (by omega)
              generalize fiA F (iN 0, iN 0) (i + 1) = s at *
              obtain ⟨x, y⟩ := s
              have hb3 : x = iN b := hb3
              subst hb3
              show f_X7_off_l76_15 (iN q) (iN t) (iN w) (f + 1) (iN b) y (iN (i + 1)) H = _
              conv => lhs; unfold f_X7_off_l76_15
              by_cases cq : y ≤ F (i + 1)
              · simp (disch := omega) only [chk_t, beq_self_eq_true, nm_s, bj1_s, bj2_s, bj3_s, mo_1, mo_0, l_0, l_1, l_2, l_3, l_4, l_5, l_6, l_7, l_8, l_9, l_10, l_11, l_12, l_13, l_14, l_15, l_16, l_17, l_18, l_19, l_20, l_21, l_30, l_31, l_32, l_36, l_40, l_41, l_42, l_43, l_44, l_45, l_46, l_47, l_48, l_49, l_50, l_51, l_52, l_57, l_58, l_60, l_64, l_72, l_80, l_92, l_98, l_99, l_100, l_102, l_105, l_111, l_112, l_114, l_115, l_116, l_117, l_120, l_144, l_200, l_201, l_240, l_300, l_320, l_400, l_500, l_550, l_560, l_649, l_650, l_1000, l_1400, l_2000, l_4000, l_10000, iN_add, iN_sub, iN_mul, iN_le_t, iN_le_f, iN_lt_t, iN_lt_f, iN_eq_f, inb_iN, ix_iN, isZ_0, isZ_1, ↓reduceIte, eq_self, hA, hB, hC, hab, if_pos cq]
              · simp (disch := omega) only [chk_t, beq_self_eq_true, nm_s, bj1_s, bj2_s, bj3_s, mo_1, mo_0, l_0, l_1, l_2, l_3, l_4, l_5, l_6, l_7, l_8, l_9, l_10, l_11, l_12, l_13, l_14, l_15, l_16, l_17, l_18, l_19, l_20, l_21, l_30, l_31, l_32, l_36, l_40, l_41, l_42, l_43, l_44, l_45, l_46, l_47, l_48, l_49, l_50, l_51, l_52, l_57, l_58, l_60, l_64, l_72, l_80, l_92, l_98, l_99, l_100, l_102, l_105, l_111, l_112, l_114, l_115, l_116, l_117, l_120, l_144, l_200, l_201, l_240, l_300, l_320, l_400, l_500, l_550, l_560, l_649, l_650, l_1000, l_1400, l_2000, l_4000, l_10000, iN_add, iN_sub, iN_mul, iN_le_t, iN_le_f, iN_lt_t, iN_lt_f, iN_eq_f, inb_iN, ix_iN, isZ_0, isZ_1, ↓reduceIte, eq_self, hA, hB, hC, hab, if_neg cq]) (by
            intro f x y H
            show f_X7_off_l76_15 (iN q) (iN t) (iN w) (f + 1) x y (iN 121) H = _
            unfold f_X7_off_l76_15
            simp (disch := omega) only [chk_t, beq_self_eq_true, nm_s, bj1_s, bj2_s, bj3_s, mo_1, mo_0, l_0, l_1, l_2, l_3, l_4, l_5, l_6, l_7, l_8, l_9, l_10, l_11, l_12, l_13, l_14, l_15, l_16, l_17, l_18, l_19, l_20, l_21, l_30, l_31, l_32, l_36, l_40, l_41, l_42, l_43, l_44, l_45, l_46, l_47, l_48, l_49, l_50, l_51, l_52, l_57, l_58, l_60, l_64, l_72, l_80, l_92, l_98, l_99, l_100, l_102, l_105, l_111, l_112, l_114, l_115, l_116, l_117, l_120, l_144, l_200, l_201, l_240, l_300, l_320, l_400, l_500, l_550, l_560, l_649, l_650, l_1000, l_1400, l_2000, l_4000, l_10000, iN_add, iN_sub, iN_mul, iN_le_t, iN_le_f, iN_lt_t, iN_lt_f, iN_eq_f, inb_iN, ix_iN, isZ_0, isZ_1, ↓reduceIte, eq_self]) (by omega) (n := FU) (fu_lt (by omega)) (G := B0) ⟨cB0, cc_fr fB0 (by omega) (by omega)⟩
          rw [fiA_e (j := 121) (s0 := (iN 0, iN 0)) (s1 := (-iN 9, iN 0)) (by omega), fiA_1] at hA
          have hA : f_X7_off_l76_15 (iN q) (iN t) (iN w) FU (iN 0) (iN 0) (iN 1) B0 = some ((fiA F (-iN 9, iN 0) 121).1, (fiA F (-iN 9, iN 0) 121).2, A) := hA
          have hbM := fun y => bM_LG (m := 4) (G := sI A 0 16 y) (by omega)
          have n9 : ∀ b : Nat, 1 ≤ b → b ≤ 1000 → (iN b = -iN 9) = False := fun b h1 h2 => eq_false (fun e => by
            have := congrArg Int32.toInt e
            rw [li (by omega), show (-iN 9).toInt = -9 from by decide] at this
            omega)
          have hM := fun y => loop_p (fun f v s H => f_X8_off_l55_16 (iN q) (iN t) (iN w) f s.1 s.2 v H) (fun _ H => ∃ D' W', H = stM 4 D' W' (LG 4 (sI A 0 16 y)) ∧ okN D' n ∧ bgS D' = bgS X) (fiA F (-iN 9, iN 0)) 1 121 (by
            intro f j H h3 h4 ⟨D', W', eH, hn', hbg⟩
            subst eH
            have wi := wj j
            obtain ⟨W2, m2⟩ := mmakes_ok (D := D') (W := W') (q := iN q) (t := iN t) (c := j) (hbM y) hn' (t1N ht1 (by omega)) (by omega)
            rw [hbg] at m2
            have m3 := mmid_ok (D := wayS (iN q) (iN t) (bgS X) j) (W := W2) (hbM y) wi.1
            have m4 := midWv (D := wayS (iN q) (iN t) (bgS X) j) (W := W2) (hbM y) wi.1
            have hI : ∀ (u : Int32) (v : Int32), ∃ r, f_X8_off_l86_26 (iN q) (iN t) (iN w) u v (iN j) FU (midW (wayS (iN q) (iN t) (bgS X) j)) (iN 0) (stM 4 (wayS (iN q) (iN t) (bgS X) j) W2 (LG 4 (sI A 0 16 y))) = some r ∧ r.1 = grS (wayS (iN q) (iN t) (bgS X) j) 30 ∧ ∃ W3, r.2 = stM 4 (restS (wayS (iN q) (iN t) (bgS X) j) 30) W3 (LG 4 (sI A 0 16 y)) := by
              intro u v
              refine loop_h (fun f v' (s : Int32 × G_) => f_X8_off_l86_26 (iN q) (iN t) (iN w) u v (iN j) f s.1 v' s.2) (fun i s => s.1 = grS (wayS (iN q) (iN t) (bgS X) j) i ∧ ∃ W3, s.2 = stM 4 (restS (wayS (iN q) (iN t) (bgS X) j) i) W3 (LG 4 (sI A 0 16 y))) _ 0 30 ?_ ?_ (by omega) (n := FU) (fu_lt (by omega)) (s := (midW (wayS (iN q) (iN t) (bgS X) j), stM 4 (wayS (iN q) (iN t) (bgS X) j) W2 (LG 4 (sI A 0 16 y)))) ⟨rfl, W2, rfl⟩
              · intro f i ⟨x, H⟩ h5 h6 ⟨i0, W3, i1⟩
                have i0 : x = _ := i0
                have i1 : H = _ := i1
                subst i1
                subst i0
                obtain ⟨W4, t1⟩ := mrests_ok (D := restS (wayS (iN q) (iN t) (bgS X) j) i) (W := W3) (c := 1) (hbM y) (wf_rest (k := i) wi).1 (by omega)
                have t1 : f_X8_rests (iN 1) (stM 4 (restS (wayS (iN q) (iN t) (bgS X) j) i) W3 (LG 4 (sI A 0 16 y))) = some (stM 4 (restS (wayS (iN q) (iN t) (bgS X) j) (i + 1)) W4 (LG 4 (sI A 0 16 y))) := t1
                have hn1 := (wf_rest (k := i + 1) wi).1
                refine ⟨(grS (wayS (iN q) (iN t) (bgS X) j) (i + 1), stM 4 (restS (wayS (iN q) (iN t) (bgS X) j) (i + 1)) W4 (LG 4 (sI A 0 16 y))), ⟨rfl, W4, rfl⟩, ?_⟩
                show f_X8_off_l86_26 (iN q) (iN t) (iN w) u v (iN j) (f + 1) (grS (wayS (iN q) (iN t) (bgS X) j) i) (iN i) _ = f_X8_off_l86_26 (iN q) (iN t) (iN w) u v (iN j) f (grS (wayS (iN q) (iN t) (bgS X) j) (i + 1)) (iN (i + 1)) _
                conv => lhs; unfold f_X8_off_l86_26
                simp (disch := omega) only [chk_t, beq_self_eq_true, nm_s, bj1_s, bj2_s, bj3_s, mo_1, mo_0, l_0, l_1, l_2, l_3, l_4, l_5, l_6, l_7, l_8, l_9, l_10, l_11, l_12, l_13, l_14, l_15, l_16, l_17, l_18, l_19, l_20, l_21, l_30, l_31, l_32, l_36, l_40, l_41, l_42, l_43, l_44, l_45, l_46, l_47, l_48, l_49, l_50, l_51, l_52, l_57, l_58, l_60, l_64, l_72, l_80, l_92, l_98, l_99, l_100, l_102, l_105, l_111, l_112, l_114, l_115, l_116, l_117, l_120, l_144, l_200, l_201, l_240, l_300, l_320, l_400, l_500, l_550, l_560, l_649, l_650, l_1000, l_1400, l_2000, l_4000, l_10000, iN_add, iN_sub, iN_mul, iN_le_t, iN_le_f, iN_lt_t, iN_lt_f, iN_eq_f, inb_iN, ix_iN, isZ_0, isZ_1, ↓reduceIte, eq_self, t1, mmid_ok (hbM y) hn1, midWv (hbM y) hn1, greater_ok]
                rfl
              · intro f ⟨x, H⟩ hI
                refine ⟨(x, H), ?_, hI⟩
                show f_X8_off_l86_26 (iN q) (iN t) (iN w) u v (iN j) (f + 1) x (iN 30) H = _
                unfold f_X8_off_l86_26
                simp (disch := omega) only [chk_t, beq_self_eq_true, nm_s, bj1_s, bj2_s, bj3_s, mo_1, mo_0, l_0, l_1, l_2, l_3, l_4, l_5, l_6, l_7, l_8, l_9, l_10, l_11, l_12, l_13, l_14, l_15, l_16, l_17, l_18, l_19, l_20, l_21, l_30, l_31, l_32, l_36, l_40, l_41, l_42, l_43, l_44, l_45, l_46, l_47, l_48, l_49, l_50, l_51, l_52, l_57, l_58, l_60, l_64, l_72, l_80, l_92, l_98, l_99, l_100, l_102, l_105, l_111, l_112, l_114, l_115, l_116, l_117, l_120, l_144, l_200, l_201, l_240, l_300, l_320, l_400, l_500, l_550, l_560, l_649, l_650, l_1000, l_1400, l_2000, l_4000, l_10000, iN_add, iN_sub, iN_mul, iN_le_t, iN_le_f, iN_lt_t, iN_lt_f, iN_eq_f, inb_iN, ix_iN, isZ_0, isZ_1, ↓reduceIte, eq_self]
            have wr := (wf_rest (k := 30) wi).1
            have bgr : bgS (restS (wayS (iN q) (iN t) (bgS X) j) 30) = bgS X := bg_bg (fun p hp => (rest_lo wi.1 hp).trans (way_X hX.1 hp))
            by_cases c0 : j = 1
            · subst c0
              obtain ⟨⟨g, H⟩, m5, eg, W3, eH⟩ := hI (-iN 9) (iN 0)
              have eg : g = _ := eg
              have eH : H = _ := eH
              rw [eg, eH] at m5
              refine ⟨_, ⟨_, W3, rfl, wr, bgr⟩, ?_⟩
              rw [fiA_1, fiA_2]
              show f_X8_off_l55_16 (iN q) (iN t) (iN w) (f + 1) (-iN 9) (iN 0) (iN 1) _ = _
              conv => lhs; unfold f_X8_off_l55_16
              simp (disch := omega) only [chk_t, beq_self_eq_true, nm_s, bj1_s, bj2_s, bj3_s, mo_1, mo_0, l_0, l_1, l_2, l_3, l_4, l_5, l_6, l_7, l_8, l_9, l_10, l_11, l_12, l_13, l_14, l_15, l_16, l_17, l_18, l_19, l_20, l_21, l_30, l_31, l_32, l_36, l_40, l_41, l_42, l_43, l_44, l_45, l_46, l_47, l_48, l_49, l_50, l_51, l_52, l_57, l_58, l_60, l_64, l_72, l_80, l_92, l_98, l_99, l_100, l_102, l_105, l_111, l_112, l_114, l_115, l_116, l_117, l_120, l_144, l_200, l_201, l_240, l_300, l_320, l_400, l_500, l_550, l_560, l_649, l_650, l_1000, l_1400, l_2000, l_4000, l_10000, iN_add, iN_sub, iN_mul, iN_le_t, iN_le_f, iN_lt_t, iN_lt_f, iN_eq_f, inb_iN, ix_iN, isZ_0, isZ_1, ↓reduceIte, eq_self, m2, m3, m4, m5, far_ok, hFt]
            · obtain ⟨b, hb1, hb2, hb3⟩ := fiA_b (f := F) (j := j) (s0 := (-iN 9, iN 0)) (by omega)
              rw [fiA_s (j := j) (by omega)]
              generalize fiA F (-iN 9, iN 0) j = s at *
              obtain ⟨x, z⟩ := s
              have hb3 : x = iN b := hb3
              subst hb3
              obtain ⟨⟨g, H⟩, m5, eg, W3, eH⟩ := hI (iN b) z
              have eg : g = _ := eg
              have eH : H = _ := eH
              rw [eg, eH] at m5
              refine ⟨_, ⟨_, W3, rfl, wr, bgr⟩, ?_⟩
              show f_X8_off_l55_16 (iN q) (iN t) (iN w) (f + 1) (iN b) z (iN j) _ = _
              conv => lhs; unfold f_X8_off_l55_16
              by_cases cq : z ≤ F j
              · simp (disch := omega) only [chk_t, beq_self_eq_true, nm_s, bj1_s, bj2_s, bj3_s, mo_1, mo_0, l_0, l_1, l_2, l_3, l_4, l_5, l_6, l_7, l_8, l_9, l_10, l_11, l_12, l_13, l_14, l_15, l_16, l_17, l_18, l_19, l_20, l_21, l_30, l_31, l_32, l_36, l_40, l_41, l_42, l_43, l_44, l_45, l_46, l_47, l_48, l_49, l_50, l_51, l_52, l_57, l_58, l_60, l_64, l_72, l_80, l_92, l_98, l_99, l_100, l_102, l_105, l_111, l_112, l_114, l_115, l_116, l_117, l_120, l_144, l_200, l_201, l_240, l_300, l_320, l_400, l_500, l_550, l_560, l_649, l_650, l_1000, l_1400, l_2000, l_4000, l_10000, iN_add, iN_sub, iN_mul, iN_le_t, iN_le_f, iN_lt_t, iN_lt_f, iN_eq_f, inb_iN, ix_iN, isZ_0, isZ_1, ↓reduceIte, eq_self, m2, m3, m4, m5, far_ok, hFt, n9 b hb1 (by omega), if_pos cq]
              · simp (disch := omega) only [chk_t, beq_self_eq_true, nm_s, bj1_s, bj2_s, bj3_s, mo_1, mo_0, l_0, l_1, l_2, l_3, l_4, l_5, l_6, l_7, l_8, l_9, l_10, l_11, l_12, l_13, l_14, l_15, l_16, l_17, l_18, l_19, l_20, l_21, l_30, l_31, l_32, l_36, l_40, l_41, l_42, l_43, l_44, l_45, l_46, l_47, l_48, l_49, l_50, l_51, l_52, l_57, l_58, l_60, l_64, l_72, l_80, l_92, l_98, l_99, l_100, l_102, l_105, l_111, l_112, l_114, l_115, l_116, l_117, l_120, l_144, l_200, l_201, l_240, l_300, l_320, l_400, l_500, l_550, l_560, l_649, l_650, l_1000, l_1400, l_2000, l_4000, l_10000, iN_add, iN_sub, iN_mul, iN_le_t, iN_le_f, iN_lt_t, iN_lt_f, iN_eq_f, inb_iN, ix_iN, isZ_0, isZ_1, ↓reduceIte, eq_self, m2, m3, m4, m5, far_ok, hFt, n9 b hb1 (by omega), if_neg cq]) (by
            intro f x z H
            show f_X8_off_l55_16 (iN q) (iN t) (iN w) (f + 1) x z (iN 121) H = _
            unfold f_X8_off_l55_16
            simp (disch := omega) only [chk_t, beq_self_eq_true, nm_s, bj1_s, bj2_s, bj3_s, mo_1, mo_0, l_0, l_1, l_2, l_3, l_4, l_5, l_6, l_7, l_8, l_9, l_10, l_11, l_12, l_13, l_14, l_15, l_16, l_17, l_18, l_19, l_20, l_21, l_30, l_31, l_32, l_36, l_40, l_41, l_42, l_43, l_44, l_45, l_46, l_47, l_48, l_49, l_50, l_51, l_52, l_57, l_58, l_60, l_64, l_72, l_80, l_92, l_98, l_99, l_100, l_102, l_105, l_111, l_112, l_114, l_115, l_116, l_117, l_120, l_144, l_200, l_201, l_240, l_300, l_320, l_400, l_500, l_550, l_560, l_649, l_650, l_1000, l_1400, l_2000, l_4000, l_10000, iN_add, iN_sub, iN_mul, iN_le_t, iN_le_f, iN_lt_t, iN_lt_f, iN_eq_f, inb_iN, ix_iN, isZ_0, isZ_1, ↓reduceIte, eq_self]) (by omega) (n := FU) (fu_lt (by omega)) (G := stM 4 X (WM (sI A 0 16 y)) (LG 4 (sI A 0 16 y))) ⟨_, _, rfl, hX.1, rfl⟩
          rw [fiA_1] at hM
          generalize fiA F (-iN 9, iN 0) 121 = s at *
          obtain ⟨x, y⟩ := s
          obtain ⟨H, hH, D', W', eH, -⟩ := hM y
          have hH : f_X8_off_l55_16 (iN q) (iN t) (iN w) FU (-iN 9) (iN 0) (iN 1) (stM 4 X (WM (sI A 0 16 y)) (LG 4 (sI A 0 16 y))) = some (x, y, H) := hH
          subst eH
          have e50 := cc_50 (y := y) ccA
          refine pOK_tell (x := x) (y := y) (G1 := A) (H := stM 4 D' W' (LG 4 (sI A 0 16 y))) h ?_ ccA ?_ (mf_st mf_LG)
          · unfold f_X7_off f_X7_told
            simp (disch := omega) only [chk_t, beq_self_eq_true, nm_s, bj1_s, bj2_s, bj3_s, mo_1, mo_0, l_0, l_1, l_2, l_3, l_4, l_5, l_6, l_7, l_8, l_9, l_10, l_11, l_12, l_13, l_14, l_15, l_16, l_17, l_18, l_19, l_20, l_21, l_30, l_31, l_32, l_36, l_40, l_41, l_42, l_43, l_44, l_45, l_46, l_47, l_48, l_49, l_50, l_51, l_52, l_57, l_58, l_60, l_64, l_72, l_80, l_92, l_98, l_99, l_100, l_102, l_105, l_111, l_112, l_114, l_115, l_116, l_117, l_120, l_144, l_200, l_201, l_240, l_300, l_320, l_400, l_500, l_550, l_560, l_649, l_650, l_1000, l_1400, l_2000, l_4000, l_10000, iN_add, iN_sub, iN_mul, iN_le_t, iN_le_f, iN_lt_t, iN_lt_f, iN_eq_f, inb_iN, ix_iN, isZ_0, isZ_1, ↓reduceIte, eq_self, c1, kd_b ho, w7, v7, r1, r2, hs1, hs3, hB0, hA]
          · have r2' : (sI A 0 16 y).1 131 k = iN 1 := by rw [e50 131 (by omega)]; exact r2
            unfold f_X8_off f_X8_tells
            simp (disch := omega) only [chk_t, beq_self_eq_true, nm_s, bj1_s, bj2_s, bj3_s, mo_1, mo_0, l_0, l_1, l_2, l_3, l_4, l_5, l_6, l_7, l_8, l_9, l_10, l_11, l_12, l_13, l_14, l_15, l_16, l_17, l_18, l_19, l_20, l_21, l_30, l_31, l_32, l_36, l_40, l_41, l_42, l_43, l_44, l_45, l_46, l_47, l_48, l_49, l_50, l_51, l_52, l_57, l_58, l_60, l_64, l_72, l_80, l_92, l_98, l_99, l_100, l_102, l_105, l_111, l_112, l_114, l_115, l_116, l_117, l_120, l_144, l_200, l_201, l_240, l_300, l_320, l_400, l_500, l_550, l_560, l_649, l_650, l_1000, l_1400, l_2000, l_4000, l_10000, iN_add, iN_sub, iN_mul, iN_le_t, iN_le_f, iN_lt_t, iN_lt_f, iN_eq_f, inb_iN, ix_iN, isZ_0, isZ_1, ↓reduceIte, eq_self, w8, v8, ns_ok hk r2', le_00, hNew y A e50, hH]

/-! order: ticks of a set, what is lost told -/
def bt (b t : Nat) : Nat := if b = 1 then t else 0
theorem if_cg {α : Type} {p q : Prop} [Decidable p] [Decidable q] {x y : α} (h : p ↔ q) : (if p then x else y) = if q then x else y := by
  by_cases c : p
  · rw [if_pos c, if_pos (h.mp c)]
  · rw [if_neg c, if_neg (fun e => c (h.mpr e))]
theorem bt_0 {t : Nat} : bt 0 t = 0 := if_neg (by omega)
theorem bt_1 {t : Nat} : bt 1 t = t := if_pos rfl
theorem bt_le {b b2 t : Nat} (h : b = 1 → b2 = 1) : bt b t ≤ bt b2 t := by
  unfold bt
  by_cases c : b = 1
  · rw [if_pos c, if_pos (h c)]
    exact Nat.le_refl _
  · rw [if_neg c]
    exact Nat.zero_le _
theorem bt_bd {b t : Nat} (h : b < 2) (ht : t ≤ 200) : bt b t ≤ 200 * b := by
  unfold bt
  by_cases c : b = 1
  · rw [if_pos c, c]
    omega
  · rw [if_neg c]
    exact Nat.zero_le _
def tkJ (T : Nat → Nat) (s : Nat) : Nat → Nat
  | 0 => 0
  | j + 1 => tkJ T s j + bt (s / 2 ^ j % 2) (T j)
def tkN (T : Nat → Nat) (s : Nat) : Nat := tkJ T s 4
theorem tkN_eq (T : Nat → Nat) (s : Nat) : tkN T s = bt (s / 2 ^ 0 % 2) (T 0) + bt (s / 2 ^ 1 % 2) (T 1) + bt (s / 2 ^ 2 % 2) (T 2) + bt (s / 2 ^ 3 % 2) (T 3) := by
  show 0 + bt (s / 2 ^ 0 % 2) (T 0) + bt (s / 2 ^ 1 % 2) (T 1) + bt (s / 2 ^ 2 % 2) (T 2) + bt (s / 2 ^ 3 % 2) (T 3) = _
  rw [Nat.zero_add]
def sb (s a : Nat) : Bool := Nat.land s a == s
theorem t_sbb : ∀ a, a < 16 → ∀ s, s < 16 → sb s a = true → ∀ i, i < 4 → s / 2 ^ i % 2 = 1 → a / 2 ^ i % 2 = 1 := by decide +kernel
theorem t_bit1 : ∀ x, x < 4 → ∀ s, s < 16 → rmS s x / 2 ^ x % 2 = 0 := by decide +kernel
theorem t_bit2 : ∀ x, x < 4 → ∀ s, s < 16 → ∀ i, i < 4 → i ≠ x → rmS s x / 2 ^ i % 2 = s / 2 ^ i % 2 := by decide +kernel
theorem t_sbr : ∀ x, x < 4 → ∀ s, s < 16 → ∀ a, a < 16 → sb s a = true → s / 2 ^ x % 2 = 1 → sb (rmS s x) (rmS a x) = true := by decide +kernel
theorem t_sbs : ∀ x, x < 4 → ∀ s, s < 16 → sb (rmS s x) s = true := by decide +kernel
theorem t_sbt : ∀ a, a < 16 → ∀ b, b < 16 → ∀ c, c < 16 → sb a b = true → sb b c = true → sb a c = true := by decide +kernel
theorem t_sbe : ∀ s, s < 16 → sb s s = true := by decide +kernel
theorem t_sbi : ∀ o, o < 16 → ∀ s, s < 16 → sb s o = true → iN s &&& (iN o ^^^ (-iN 1)) = iN 0 := by decide +kernel
theorem t_sbj : ∀ o, o < 16 → ∀ s, s < 16 → sb s o = false → ¬ iN s &&& (iN o ^^^ (-iN 1)) = iN 0 := by decide +kernel
theorem t_rmN : ∀ x, x < 4 → ∀ s, s < 16 → iN s &&& ((iN 1 <<< (iN x &&& iN 31)) ^^^ (-iN 1)) = iN (rmS s x) := by decide +kernel
theorem t_pc : ∀ s, s < 16 → pcS s = s / 2 ^ 0 % 2 + s / 2 ^ 1 % 2 + s / 2 ^ 2 % 2 + s / 2 ^ 3 % 2 := by decide +kernel
theorem t_pcr : ∀ x, x < 4 → ∀ s, s < 16 → s / 2 ^ x % 2 = 1 → pcS s = pcS (rmS s x) + 1 := by decide +kernel
theorem t_pc4 : ∀ s, s < 16 → pcS s ≤ 4 := by decide +kernel
theorem tk_rm {T : Nat → Nat} {s x : Nat} (hx : x < 4) (hs : s < 16) (h : s / 2 ^ x % 2 = 1) : tkN T s = T x + tkN T (rmS s x) := by
  have b1 := t_bit1 x hx s hs
  have b2 := t_bit2 x hx s hs
  rw [tkN_eq, tkN_eq]
  have hc : x = 0 ∨ x = 1 ∨ x = 2 ∨ x = 3 := by omega
  rcases hc with rfl | rfl | rfl | rfl
  · rw [b1, b2 1 (by omega) (by omega), b2 2 (by omega) (by omega), b2 3 (by omega) (by omega), h, bt_0, bt_1]
    omega
  · rw [b1, b2 0 (by omega) (by omega), b2 2 (by omega) (by omega), b2 3 (by omega) (by omega), h, bt_0, bt_1]
    omega
  · rw [b1, b2 0 (by omega) (by omega), b2 1 (by omega) (by omega), b2 3 (by omega) (by omega), h, bt_0, bt_1]
    omega
  · rw [b1, b2 0 (by omega) (by omega), b2 1 (by omega) (by omega), b2 2 (by omega) (by omega), h, bt_0, bt_1]
    omega
theorem tk_le {T : Nat → Nat} {s o : Nat} (hs : s < 16) (ho : o < 16) (h : sb s o = true) : tkN T s ≤ tkN T o := by
  have hb := t_sbb o ho s hs h
  have h0 := bt_le (t := T 0) (hb 0 (by omega))
  have h1 := bt_le (t := T 1) (hb 1 (by omega))
  have h2 := bt_le (t := T 2) (hb 2 (by omega))
  have h3 := bt_le (t := T 3) (hb 3 (by omega))
  rw [tkN_eq, tkN_eq]
  omega
theorem tk_bd {T : Nat → Nat} {s : Nat} (hs : s < 16) (hT : ∀ k, k < 4 → T k ≤ 200) : tkN T s ≤ 200 * pcS s := by
  have h0 := bt_bd (b := s / 2 ^ 0 % 2) (t := T 0) (Nat.mod_lt _ (by omega)) (hT 0 (by omega))
  have h1 := bt_bd (b := s / 2 ^ 1 % 2) (t := T 1) (Nat.mod_lt _ (by omega)) (hT 1 (by omega))
  have h2 := bt_bd (b := s / 2 ^ 2 % 2) (t := T 2) (Nat.mod_lt _ (by omega)) (hT 2 (by omega))
  have h3 := bt_bd (b := s / 2 ^ 3 % 2) (t := T 3) (Nat.mod_lt _ (by omega)) (hT 3 (by omega))
  rw [tkN_eq, t_pc s hs]
  generalize s / 2 ^ 0 % 2 = b0 at *
  generalize s / 2 ^ 1 % 2 = b1 at *
  generalize s / 2 ^ 2 % 2 = b2 at *
  generalize s / 2 ^ 3 % 2 = b3 at *
  omega
theorem planAt_ok {k : Nat} {G : G_} (hk : k < 4) : f_X7_planAt (iN k) G = some (some (75 + 4 * k)) ∧ kd (75 + 4 * k) = 2 := by
  have hk : k = 0 ∨ k = 1 ∨ k = 2 ∨ k = 3 := by omega
  refine ⟨?_, ?_⟩ <;> (rcases hk with rfl | rfl | rfl | rfl <;> rfl)
theorem slabAt_ok {k : Nat} {G : G_} (hk : k < 4) : f_X7_slabAt (iN k) G = some (some (71 + k)) ∧ kd (71 + k) = 5 := by
  have hk : k = 0 ∨ k = 1 ∨ k = 2 ∨ k = 3 := by omega
  refine ⟨?_, ?_⟩ <;> (rcases hk with rfl | rfl | rfl | rfl <;> rfl)
theorem bit_01 (s k : Nat) : s / 2 ^ k % 2 = 0 ∨ s / 2 ^ k % 2 = 1 := by
  have := Nat.mod_lt (s / 2 ^ k) (show 2 > 0 by omega)
  omega
theorem ticksOf_ok {T : Nat → Nat} {s : Nat} {G : G_} (hs : s < 16) (h : ∀ k, k < 4 → s / 2 ^ k % 2 = 1 → G.1 (75 + 4 * k) 5 = iN (T k)) : f_X7_ticksOf (iN s) G = some (iN (tkN T s)) := by
  have key := loop_cl (fun n v (x : Int32) => f_X7_ticksOf_l4_3 (iN s) G n x v) (fun j => iN (tkJ T s j)) 0 4 (some (iN (tkN T s))) ?_ ?_ (by omega) (n := FU) (fu_lt (by omega))
  · have key : f_X7_ticksOf_l4_3 (iN s) G FU (iN 0) (iN 0) = some (iN (tkN T s)) := key
    unfold f_X7_ticksOf
    simp (disch := omega) only [chk_t, beq_self_eq_true, nm_s, bj1_s, bj2_s, bj3_s, mo_1, mo_0, l_0, l_1, l_2, l_3, l_4, l_5, l_6, l_7, l_8, l_9, l_10, l_11, l_12, l_13, l_14, l_15, l_16, l_17, l_18, l_19, l_20, l_21, l_30, l_31, l_32, l_36, l_40, l_41, l_42, l_43, l_44, l_45, l_46, l_47, l_48, l_49, l_50, l_51, l_52, l_57, l_58, l_60, l_64, l_72, l_80, l_92, l_98, l_99, l_100, l_102, l_105, l_111, l_112, l_114, l_115, l_116, l_117, l_120, l_144, l_200, l_201, l_240, l_300, l_320, l_400, l_500, l_550, l_560, l_649, l_650, l_1000, l_1400, l_2000, l_4000, l_10000, iN_add, iN_sub, iN_mul, iN_le_t, iN_le_f, iN_lt_t, iN_lt_f, iN_eq_f, inb_iN, ix_iN, isZ_0, isZ_1, ↓reduceIte, eq_self, key]
  · intro f j h3 h4
    have is := t_isIn j h4 s hs
    obtain ⟨pa, pk⟩ := planAt_ok (G := G) h4
    have hj := h j h4
    show f_X7_ticksOf_l4_3 (iN s) G (f + 1) (iN (tkJ T s j)) (iN j) = f_X7_ticksOf_l4_3 (iN s) G f (iN (tkJ T s j + bt (s / 2 ^ j % 2) (T j))) (iN (j + 1))
    conv => lhs; unfold f_X7_ticksOf_l4_3
    rcases bit_01 s j with c | c
    · rw [c] at is
      rw [c, bt_0]
      simp (disch := omega) only [chk_t, beq_self_eq_true, nm_s, bj1_s, bj2_s, bj3_s, mo_1, mo_0, l_0, l_1, l_2, l_3, l_4, l_5, l_6, l_7, l_8, l_9, l_10, l_11, l_12, l_13, l_14, l_15, l_16, l_17, l_18, l_19, l_20, l_21, l_30, l_31, l_32, l_36, l_40, l_41, l_42, l_43, l_44, l_45, l_46, l_47, l_48, l_49, l_50, l_51, l_52, l_57, l_58, l_60, l_64, l_72, l_80, l_92, l_98, l_99, l_100, l_102, l_105, l_111, l_112, l_114, l_115, l_116, l_117, l_120, l_144, l_200, l_201, l_240, l_300, l_320, l_400, l_500, l_550, l_560, l_649, l_650, l_1000, l_1400, l_2000, l_4000, l_10000, iN_add, iN_sub, iN_mul, iN_le_t, iN_le_f, iN_lt_t, iN_lt_f, iN_eq_f, inb_iN, ix_iN, isZ_0, isZ_1, ↓reduceIte, eq_self, pa, kd_b pk, is, Nat.add_zero]
    · have e := hj c
      rw [c] at is
      rw [c, bt_1]
      simp (disch := omega) only [chk_t, beq_self_eq_true, nm_s, bj1_s, bj2_s, bj3_s, mo_1, mo_0, l_0, l_1, l_2, l_3, l_4, l_5, l_6, l_7, l_8, l_9, l_10, l_11, l_12, l_13, l_14, l_15, l_16, l_17, l_18, l_19, l_20, l_21, l_30, l_31, l_32, l_36, l_40, l_41, l_42, l_43, l_44, l_45, l_46, l_47, l_48, l_49, l_50, l_51, l_52, l_57, l_58, l_60, l_64, l_72, l_80, l_92, l_98, l_99, l_100, l_102, l_105, l_111, l_112, l_114, l_115, l_116, l_117, l_120, l_144, l_200, l_201, l_240, l_300, l_320, l_400, l_500, l_550, l_560, l_649, l_650, l_1000, l_1400, l_2000, l_4000, l_10000, iN_add, iN_sub, iN_mul, iN_le_t, iN_le_f, iN_lt_t, iN_lt_f, iN_eq_f, inb_iN, ix_iN, isZ_0, isZ_1, ↓reduceIte, eq_self, pa, kd_b pk, is, e]
  · intro f
    show f_X7_ticksOf_l4_3 (iN s) G (f + 1) (iN (tkN T s)) (iN 4) = _
    unfold f_X7_ticksOf_l4_3
    simp (disch := omega) only [chk_t, beq_self_eq_true, nm_s, bj1_s, bj2_s, bj3_s, mo_1, mo_0, l_0, l_1, l_2, l_3, l_4, l_5, l_6, l_7, l_8, l_9, l_10, l_11, l_12, l_13, l_14, l_15, l_16, l_17, l_18, l_19, l_20, l_21, l_30, l_31, l_32, l_36, l_40, l_41, l_42, l_43, l_44, l_45, l_46, l_47, l_48, l_49, l_50, l_51, l_52, l_57, l_58, l_60, l_64, l_72, l_80, l_92, l_98, l_99, l_100, l_102, l_105, l_111, l_112, l_114, l_115, l_116, l_117, l_120, l_144, l_200, l_201, l_240, l_300, l_320, l_400, l_500, l_550, l_560, l_649, l_650, l_1000, l_1400, l_2000, l_4000, l_10000, iN_add, iN_sub, iN_mul, iN_le_t, iN_le_f, iN_lt_t, iN_lt_f, iN_eq_f, inb_iN, ix_iN, isZ_0, isZ_1, ↓reduceIte, eq_self]
theorem setLoss_ok {k s : Nat} {v : Int32} {G : G_} (hk : k < 4) (hs : s < 16) : f_X1_setLoss (iN k) (iN s) v G = some (sI G 46 (16 * k + s) v) := by
  have e1 : inS (iN 0) (iN 3) (iN k) = iN 1 := inS_t (by omega) (by omega)
  have e2 : inS (iN 0) (iN 15) (iN s) = iN 1 := inS_t (by omega) (by omega)
  unfold f_X1_setLoss
  simp (disch := omega) only [chk_t, beq_self_eq_true, nm_s, bj1_s, bj2_s, bj3_s, mo_1, mo_0, l_0, l_1, l_2, l_3, l_4, l_5, l_6, l_7, l_8, l_9, l_10, l_11, l_12, l_13, l_14, l_15, l_16, l_17, l_18, l_19, l_20, l_21, l_30, l_31, l_32, l_36, l_40, l_41, l_42, l_43, l_44, l_45, l_46, l_47, l_48, l_49, l_50, l_51, l_52, l_57, l_58, l_60, l_64, l_72, l_80, l_92, l_98, l_99, l_100, l_102, l_105, l_111, l_112, l_114, l_115, l_116, l_117, l_120, l_144, l_200, l_201, l_240, l_300, l_320, l_400, l_500, l_550, l_560, l_649, l_650, l_1000, l_1400, l_2000, l_4000, l_10000, iN_add, iN_sub, iN_mul, iN_le_t, iN_le_f, iN_lt_t, iN_lt_f, iN_eq_f, inb_iN, ix_iN, isZ_0, isZ_1, ↓reduceIte, eq_self, in7, e1, e2]
theorem tell80 {T : Nat → Nat} {k o n : Nat} {L x12 : Int32} {G : G_} (hk : k < 4) (ho : o < 16) (hn : n < 10000) (hb : tkN T o < 10000) (hT : ∀ i, i < 4 → o / 2 ^ i % 2 = 1 → G.1 (75 + 4 * i) 5 = iN (T i)) :
    ∃ H, f_X7_tellLosses_l80_21 (iN k) (iN o) x12 (iN n) L FU (iN 0) G = some H ∧ (∀ c s, c < 4 → s < 16 → H.1 46 (16 * c + s) = if c = k ∧ s < 16 ∧ sb s o = true ∧ tkN T s = n then L else G.1 46 (16 * c + s)) ∧ (∀ q, q ≠ 46 → H.1 q = G.1 q) ∧ H.2 = G.2 := by
  refine loop_h (fun f v s => f_X7_tellLosses_l80_21 (iN k) (iN o) x12 (iN n) L f v s) (fun j H => (∀ c s, c < 4 → s < 16 → H.1 46 (16 * c + s) = if c = k ∧ s < j ∧ sb s o = true ∧ tkN T s = n then L else G.1 46 (16 * c + s)) ∧ (∀ q, q ≠ 46 → H.1 q = G.1 q) ∧ H.2 = G.2) _ 0 16 ?_ ?_ (by omega) (n := FU) (fu_lt (by omega)) ⟨fun c s hc hs => by rw [if_neg (by omega)], fun _ _ => rfl, rfl⟩
  · intro f j A h3 h4 ⟨i0, i1, i2⟩
    by_cases cs : sb j o = true
    · have tj := ticksOf_ok (T := T) (s := j) (G := A) h4 (fun i hi hb => by rw [i1 _ (by omega)]; exact hT i hi (t_sbb o ho j h4 cs i hi hb))
      have tl := tk_le (T := T) h4 ho cs
      have m0 := t_sbi o ho j h4 cs
      by_cases ct : tkN T j = n
      · refine ⟨sI A 46 (16 * k + j) L, ⟨fun c s hc hs => ?_, fun q hq => by rw [sI_p hq]; exact i1 q hq, i2⟩, ?_⟩
        · by_cases cc : c = k ∧ s = j
          · obtain ⟨rfl, rfl⟩ := cc
            rw [sI_eq, if_pos ⟨rfl, by omega, cs, ct⟩]
          · rw [sI_j (by omega), i0 c s hc hs]
            exact if_cg ⟨fun ⟨a, b, d⟩ => ⟨a, by omega, d⟩, fun ⟨a, b, d⟩ => ⟨a, by omega, d⟩⟩
        · show f_X7_tellLosses_l80_21 (iN k) (iN o) x12 (iN n) L (f + 1) (iN j) A = _
          conv => lhs; unfold f_X7_tellLosses_l80_21
          rw [ct] at tj
          simp (disch := omega) only [chk_t, beq_self_eq_true, nm_s, bj1_s, bj2_s, bj3_s, mo_1, mo_0, l_0, l_1, l_2, l_3, l_4, l_5, l_6, l_7, l_8, l_9, l_10, l_11, l_12, l_13, l_14, l_15, l_16, l_17, l_18, l_19, l_20, l_21, l_30, l_31, l_32, l_36, l_40, l_41, l_42, l_43, l_44, l_45, l_46, l_47, l_48, l_49, l_50, l_51, l_52, l_57, l_58, l_60, l_64, l_72, l_80, l_92, l_98, l_99, l_100, l_102, l_105, l_111, l_112, l_114, l_115, l_116, l_117, l_120, l_144, l_200, l_201, l_240, l_300, l_320, l_400, l_500, l_550, l_560, l_649, l_650, l_1000, l_1400, l_2000, l_4000, l_10000, iN_add, iN_sub, iN_mul, iN_le_t, iN_le_f, iN_lt_t, iN_lt_f, iN_eq_f, inb_iN, ix_iN, isZ_0, isZ_1, ↓reduceIte, eq_self, m0, tj, setLoss_ok hk h4]
      · refine ⟨A, ⟨fun c s hc hs => ?_, i1, i2⟩, ?_⟩
        · rw [i0 c s hc hs]
          refine if_cg ⟨fun ⟨a, b, d⟩ => ⟨a, by omega, d⟩, fun ⟨a, b, d, e⟩ => ⟨a, ?_, d, e⟩⟩
          by_cases cj : s = j
          · rw [cj] at e
            exact absurd e ct
          · omega
        · have ne : (iN (tkN T j) = iN n) = False := iN_eq_f ct (by omega) (by omega)
          show f_X7_tellLosses_l80_21 (iN k) (iN o) x12 (iN n) L (f + 1) (iN j) A = _
          conv => lhs; unfold f_X7_tellLosses_l80_21
          simp (disch := omega) only [chk_t, beq_self_eq_true, nm_s, bj1_s, bj2_s, bj3_s, mo_1, mo_0, l_0, l_1, l_2, l_3, l_4, l_5, l_6, l_7, l_8, l_9, l_10, l_11, l_12, l_13, l_14, l_15, l_16, l_17, l_18, l_19, l_20, l_21, l_30, l_31, l_32, l_36, l_40, l_41, l_42, l_43, l_44, l_45, l_46, l_47, l_48, l_49, l_50, l_51, l_52, l_57, l_58, l_60, l_64, l_72, l_80, l_92, l_98, l_99, l_100, l_102, l_105, l_111, l_112, l_114, l_115, l_116, l_117, l_120, l_144, l_200, l_201, l_240, l_300, l_320, l_400, l_500, l_550, l_560, l_649, l_650, l_1000, l_1400, l_2000, l_4000, l_10000, iN_add, iN_sub, iN_mul, iN_le_t, iN_le_f, iN_lt_t, iN_lt_f, iN_eq_f, inb_iN, ix_iN, isZ_0, isZ_1, ↓reduceIte, eq_self, m0, tj, ne]
    · have cs : sb j o = false := by
        cases h : sb j o
        · rfl
        · exact absurd h cs
      have m0 := eq_false (t_sbj o ho j h4 cs)
      refine ⟨A, ⟨fun c s hc hs => ?_, i1, i2⟩, ?_⟩
      · rw [i0 c s hc hs]
        refine if_cg ⟨fun ⟨a, b, d⟩ => ⟨a, by omega, d⟩, fun ⟨a, b, d, e⟩ => ⟨a, ?_, d, e⟩⟩
        by_cases cj : s = j
        · rw [cj, cs] at d
          exact absurd d (by decide)
        · omega
      · show f_X7_tellLosses_l80_21 (iN k) (iN o) x12 (iN n) L (f + 1) (iN j) A = _
        conv => lhs; unfold f_X7_tellLosses_l80_21
        simp (disch := omega) only [chk_t, beq_self_eq_true, nm_s, bj1_s, bj2_s, bj3_s, mo_1, mo_0, l_0, l_1, l_2, l_3, l_4, l_5, l_6, l_7, l_8, l_9, l_10, l_11, l_12, l_13, l_14, l_15, l_16, l_17, l_18, l_19, l_20, l_21, l_30, l_31, l_32, l_36, l_40, l_41, l_42, l_43, l_44, l_45, l_46, l_47, l_48, l_49, l_50, l_51, l_52, l_57, l_58, l_60, l_64, l_72, l_80, l_92, l_98, l_99, l_100, l_102, l_105, l_111, l_112, l_114, l_115, l_116, l_117, l_120, l_144, l_200, l_201, l_240, l_300, l_320, l_400, l_500, l_550, l_560, l_649, l_650, l_1000, l_1400, l_2000, l_4000, l_10000, iN_add, iN_sub, iN_mul, iN_le_t, iN_le_f, iN_lt_t, iN_lt_f, iN_eq_f, inb_iN, ix_iN, isZ_0, isZ_1, ↓reduceIte, eq_self, m0]
  · intro f A hI
    refine ⟨A, ?_, hI⟩
    show f_X7_tellLosses_l80_21 (iN k) (iN o) x12 (iN n) L (f + 1) (iN 16) A = _
    unfold f_X7_tellLosses_l80_21
    simp (disch := omega) only [chk_t, beq_self_eq_true, nm_s, bj1_s, bj2_s, bj3_s, mo_1, mo_0, l_0, l_1, l_2, l_3, l_4, l_5, l_6, l_7, l_8, l_9, l_10, l_11, l_12, l_13, l_14, l_15, l_16, l_17, l_18, l_19, l_20, l_21, l_30, l_31, l_32, l_36, l_40, l_41, l_42, l_43, l_44, l_45, l_46, l_47, l_48, l_49, l_50, l_51, l_52, l_57, l_58, l_60, l_64, l_72, l_80, l_92, l_98, l_99, l_100, l_102, l_105, l_111, l_112, l_114, l_115, l_116, l_117, l_120, l_144, l_200, l_201, l_240, l_300, l_320, l_400, l_500, l_550, l_560, l_649, l_650, l_1000, l_1400, l_2000, l_4000, l_10000, iN_add, iN_sub, iN_mul, iN_le_t, iN_le_f, iN_lt_t, iN_lt_f, iN_eq_f, inb_iN, ix_iN, isZ_0, isZ_1, ↓reduceIte, eq_self]
theorem cc_46 {G A B : G_} (h : cc G A) (e : ∀ q, q ≠ 46 → B.1 q = A.1 q) (e2 : B.2 = A.2) : cc G B := ⟨fun q hq => by rw [e q (by omega)]; exact h.1 q hq, e2.trans h.2.1, fun z => by rw [e 17 (by omega)]; exact h.2.2 z⟩
theorem tell61 {T : Nat → Nat} {k o n : Nat} {X F : Nat → Int32} {G A : G_} (hk : k < 4) (ho : o < 16) (hb : tkN T o ≤ 600) (hT : ∀ i, i < 4 → o / 2 ^ i % 2 = 1 → G.1 (75 + 4 * i) 5 = iN (T i)) (wm : wfD (mkS X) n) (hF : ∀ j, lossS (restS (mkS X) j) = F j) (cA : cD 17 (mkS X) A) (hcc : cc G A) :
    ∃ H, f_X7_tellLosses_l61_16 (iN k) (iN o) (iN (tkN T o)) FU (iN 0) A = some H ∧ cc G H ∧ ∀ c s, c < 4 → s < 16 → H.1 46 (16 * c + s) = if c = k ∧ sb s o = true ∧ tkN T s < tkN T o + 1 then F (tkN T s) else A.1 46 (16 * c + s) := by
  refine loop_h (fun f v s => f_X7_tellLosses_l61_16 (iN k) (iN o) (iN (tkN T o)) f v s) (fun j H => cD 17 (restS (mkS X) j) H ∧ cc G H ∧ ∀ c s, c < 4 → s < 16 → H.1 46 (16 * c + s) = if c = k ∧ sb s o = true ∧ tkN T s < j then F (tkN T s) else A.1 46 (16 * c + s)) _ 0 (tkN T o + 1) ?_ ?_ (by omega) (n := FU) (fu_lt (by omega)) ⟨cA, hcc, fun c s hc hs => by rw [if_neg (by omega)]⟩
  · intro f j H h3 h4 ⟨i0, i1, i2⟩
    have wi := wf_rest (k := j) wm
    have l0 := closs_ok (o := 17) rfl wi.1 wi.2.2.1 wi.2.2.2 i0
    rw [hF] at l0
    obtain ⟨B, hB, b0, b1, b2⟩ := tell80 (T := T) (k := k) (o := o) (n := j) (L := F j) (x12 := iN (tkN T o)) (G := H) hk ho (by omega) (by omega) (fun i hi hb => by rw [cc_at i1 (by omega)]; exact hT i hi hb)
    have cB := cD_fr i0 (fun q h1 h2 => b1 q (by omega))
    have ccB := cc_46 i1 b1 b2
    obtain ⟨C, hC, cC, fC⟩ := heat_ok (k := iN 4) (o := 17) rfl wi qR_0 cB
    have cC : cD 17 (restS (mkS X) (j + 1)) C := cC
    refine ⟨C, ⟨cC, cc_tr ccB (cc_fr fC (by omega) (by omega)), fun c s hc hs => ?_⟩, ?_⟩
    · rw [fC.1.1 46 (by omega), b0 c s hc hs, i2 c s hc hs]
      by_cases c1 : c = k ∧ sb s o = true
      · by_cases c2 : tkN T s = j
        · rw [if_pos ⟨c1.1, hs, c1.2, c2⟩, if_pos ⟨c1.1, c1.2, by omega⟩, c2]
        · rw [if_neg (fun e => c2 e.2.2.2)]
          exact if_cg ⟨fun ⟨a, b, d⟩ => ⟨a, b, by omega⟩, fun ⟨a, b, d⟩ => ⟨a, b, by omega⟩⟩
      · rw [if_neg (fun e => c1 ⟨e.1, e.2.2.1⟩), if_neg (fun e => c1 ⟨e.1, e.2.1⟩), if_neg (fun e => c1 ⟨e.1, e.2.1⟩)]
    · show f_X7_tellLosses_l61_16 (iN k) (iN o) (iN (tkN T o)) (f + 1) (iN j) H = _
      conv => lhs; unfold f_X7_tellLosses_l61_16
      simp (disch := omega) only [chk_t, beq_self_eq_true, nm_s, bj1_s, bj2_s, bj3_s, mo_1, mo_0, l_0, l_1, l_2, l_3, l_4, l_5, l_6, l_7, l_8, l_9, l_10, l_11, l_12, l_13, l_14, l_15, l_16, l_17, l_18, l_19, l_20, l_21, l_30, l_31, l_32, l_36, l_40, l_41, l_42, l_43, l_44, l_45, l_46, l_47, l_48, l_49, l_50, l_51, l_52, l_57, l_58, l_60, l_64, l_72, l_80, l_92, l_98, l_99, l_100, l_102, l_105, l_111, l_112, l_114, l_115, l_116, l_117, l_120, l_144, l_200, l_201, l_240, l_300, l_320, l_400, l_500, l_550, l_560, l_649, l_650, l_1000, l_1400, l_2000, l_4000, l_10000, iN_add, iN_sub, iN_mul, iN_le_t, iN_le_f, iN_lt_t, iN_lt_f, iN_eq_f, inb_iN, ix_iN, isZ_0, isZ_1, ↓reduceIte, eq_self, l0, hB, hC]
  · intro f H ⟨i0, i1, i2⟩
    refine ⟨H, ?_, i1, i2⟩
    show f_X7_tellLosses_l61_16 (iN k) (iN o) (iN (tkN T o)) (f + 1) (iN (tkN T o + 1)) H = _
    unfold f_X7_tellLosses_l61_16
    simp (disch := omega) only [chk_t, beq_self_eq_true, nm_s, bj1_s, bj2_s, bj3_s, mo_1, mo_0, l_0, l_1, l_2, l_3, l_4, l_5, l_6, l_7, l_8, l_9, l_10, l_11, l_12, l_13, l_14, l_15, l_16, l_17, l_18, l_19, l_20, l_21, l_30, l_31, l_32, l_36, l_40, l_41, l_42, l_43, l_44, l_45, l_46, l_47, l_48, l_49, l_50, l_51, l_52, l_57, l_58, l_60, l_64, l_72, l_80, l_92, l_98, l_99, l_100, l_102, l_105, l_111, l_112, l_114, l_115, l_116, l_117, l_120, l_144, l_200, l_201, l_240, l_300, l_320, l_400, l_500, l_550, l_560, l_649, l_650, l_1000, l_1400, l_2000, l_4000, l_10000, iN_add, iN_sub, iN_mul, iN_le_t, iN_le_f, iN_lt_t, iN_lt_f, iN_eq_f, inb_iN, ix_iN, isZ_0, isZ_1, ↓reduceIte, eq_self]
/-- what a set of slabs and plans is: ticks and losses -/
def datK (T : Nat → Nat) (ls : Nat → Nat → Nat) (k : Nat) (G : G_) : Prop := G.1 131 k = iN 1 ∧ G.1 133 k = iN 1 ∧ G.1 (71 + k) 0 = iN 1 ∧ G.1 (75 + 4 * k) 3 = iN 1 ∧ ∃ n mm, slR (newP k k G) n ∧ plR (newP k k G) mm ∧ cSl (71 + k) (newP k k G) G ∧ cPl (75 + 4 * k) (newP k k G) G ∧ PL k G 4 = iN mm ∧ tkS (PL k G) = iN (T k) ∧ tkS (newP k k G) = iN (T k) ∧ ∀ t, lossS (restS (mkS (newP k k G)) t) = iN (ls k t)
def datA (a : Nat) (T : Nat → Nat) (ls : Nat → Nat → Nat) (G : G_) : Prop := (∀ k, k < 4 → T k ≤ 200) ∧ (∀ k t, ls k t ≤ 2000) ∧ ∀ k, k < 4 → a / 2 ^ k % 2 = 1 → datK T ls k G
theorem tell_ok {T : Nat → Nat} {ls : Nat → Nat → Nat} {a k : Nat} {G H : G_} (hd : datA a T ls G) (ha : a < 16) (hk : k < 4) (ka : a / 2 ^ k % 2 = 1) (hcc : cc G H) :
    ∃ H', f_X7_tellLosses (iN k) (iN a) H = some H' ∧ cc G H' ∧ ∀ c s, c < 4 → s < 16 → H'.1 46 (16 * c + s) = if c = k ∧ sb s (rmS a k) = true then iN (ls k (tkN T s)) else H.1 46 (16 * c + s) := by
  obtain ⟨d1, d2, d3⟩ := hd
  obtain ⟨-, -, -, -, n, mm, hX, hP, hc, hcp, -, -, eT, hF⟩ := d3 k hk ka
  obtain ⟨pa, pk⟩ := planAt_ok (G := H) hk
  obtain ⟨sa, sk⟩ := slabAt_ok (G := H) hk
  generalize newP k k G = X at *
  have q1 : H.1 (71 + k) = G.1 (71 + k) := cc_at hcc (by omega)
  have hs1 : H.1 (71 + k) 1 = iN n := by rw [q1]; exact hc.1.trans hX.1.1
  have hs3 : H.1 (71 + k) 3 = X 2 := by rw [q1]; exact hc.2.2.1
  obtain ⟨A, hA, cA, fA⟩ := mkPl_ok (o := 17) (G := H) rfl sk (by omega) pk (by omega) hX (by rw [q1]; exact hc.2.1) (by rw [q1]; exact hc.2.2.2) hP (cPl_cc hcp (fun q h1 h2 => cc_at hcc (by omega)))
  have ccA := cc_tr hcc (cc_fr fA (by omega) (by omega))
  have ho := rm_lt k hk a ha
  have hT : ∀ i, i < 4 → rmS a k / 2 ^ i % 2 = 1 → G.1 (75 + 4 * i) 5 = iN (T i) := fun i hi hb => by
    have ia := t_sbb a ha _ ho (t_sbs k hk a ha) i hi hb
    obtain ⟨-, -, -, -, n', mm', hX', hP', hc', hcp', -, -, eT', hF'⟩ := d3 i hi ia
    rw [hcp'.2.1, eT']
  have hb : tkN T (rmS a k) ≤ 600 := by
    have := tk_bd ho d1
    have := t_pcr k hk a ha ka
    have := t_pc4 a ha
    omega
  have tko := ticksOf_ok (T := T) (s := rmS a k) (G := A) ho (fun i hi hb => by rw [cc_at ccA (by omega)]; exact hT i hi hb)
  obtain ⟨B, hB, cB, b0⟩ := tell61 (T := T) (k := k) (o := rmS a k) (G := G) (F := fun t => iN (ls k t)) hk ho hb hT (wf_mk hX hP) hF cA ccA
  refine ⟨B, ?_, cB, fun c s hc hs => ?_⟩
  · unfold f_X7_tellLosses
    simp (disch := omega) only [chk_t, beq_self_eq_true, nm_s, bj1_s, bj2_s, bj3_s, mo_1, mo_0, l_0, l_1, l_2, l_3, l_4, l_5, l_6, l_7, l_8, l_9, l_10, l_11, l_12, l_13, l_14, l_15, l_16, l_17, l_18, l_19, l_20, l_21, l_30, l_31, l_32, l_36, l_40, l_41, l_42, l_43, l_44, l_45, l_46, l_47, l_48, l_49, l_50, l_51, l_52, l_57, l_58, l_60, l_64, l_72, l_80, l_92, l_98, l_99, l_100, l_102, l_105, l_111, l_112, l_114, l_115, l_116, l_117, l_120, l_144, l_200, l_201, l_240, l_300, l_320, l_400, l_500, l_550, l_560, l_649, l_650, l_1000, l_1400, l_2000, l_4000, l_10000, iN_add, iN_sub, iN_mul, iN_le_t, iN_le_f, iN_lt_t, iN_lt_f, iN_eq_f, inb_iN, ix_iN, isZ_0, isZ_1, ↓reduceIte, eq_self, sa, pa, kd_b sk, kd_b pk, hs1, hs3, hA, t_rmN k hk a ha, tko, hB]
  · rw [b0 c s hc hs, fA.1.1 46 (by omega)]
    exact if_cg ⟨fun ⟨a, b, d⟩ => ⟨a, b⟩, fun ⟨a, b⟩ => ⟨a, b, by have := tk_le (T := T) hs ho b; omega⟩⟩
theorem tells_ok {T : Nat → Nat} {ls : Nat → Nat → Nat} {a p : Nat} {G : G_} (hd : datA a T ls G) (ha : a < 16) :
    ∃ H, f_X7_order_l64_11 (iN a) p FU (iN 0) G = some H ∧ cc G H ∧ ∀ c, c < 4 → a / 2 ^ c % 2 = 1 → ∀ s, s < 16 → sb s (rmS a c) = true → H.1 46 (16 * c + s) = iN (ls c (tkN T s)) := by
  refine loop_h (fun f v s => f_X7_order_l64_11 (iN a) p f v s) (fun j H => cc G H ∧ ∀ c, c < j → c < 4 → a / 2 ^ c % 2 = 1 → ∀ s, s < 16 → sb s (rmS a c) = true → H.1 46 (16 * c + s) = iN (ls c (tkN T s))) _ 0 4 ?_ ?_ (by omega) (n := FU) (fu_lt (by omega)) ⟨cc_refl, fun c hc => by omega⟩
  · intro f j A h3 h4 ⟨i0, i1⟩
    have is := t_isIn j h4 a ha
    rcases bit_01 a j with c | c
    · rw [c] at is
      refine ⟨A, ⟨i0, fun x hx h5 h6 => ?_⟩, ?_⟩
      · by_cases e : x = j
        · rw [e] at h6
          omega
        · exact i1 x (by omega) h5 h6
      · show f_X7_order_l64_11 (iN a) p (f + 1) (iN j) A = _
        conv => lhs; unfold f_X7_order_l64_11
        simp (disch := omega) only [chk_t, beq_self_eq_true, nm_s, bj1_s, bj2_s, bj3_s, mo_1, mo_0, l_0, l_1, l_2, l_3, l_4, l_5, l_6, l_7, l_8, l_9, l_10, l_11, l_12, l_13, l_14, l_15, l_16, l_17, l_18, l_19, l_20, l_21, l_30, l_31, l_32, l_36, l_40, l_41, l_42, l_43, l_44, l_45, l_46, l_47, l_48, l_49, l_50, l_51, l_52, l_57, l_58, l_60, l_64, l_72, l_80, l_92, l_98, l_99, l_100, l_102, l_105, l_111, l_112, l_114, l_115, l_116, l_117, l_120, l_144, l_200, l_201, l_240, l_300, l_320, l_400, l_500, l_550, l_560, l_649, l_650, l_1000, l_1400, l_2000, l_4000, l_10000, iN_add, iN_sub, iN_mul, iN_le_t, iN_le_f, iN_lt_t, iN_lt_f, iN_eq_f, inb_iN, ix_iN, isZ_0, isZ_1, ↓reduceIte, eq_self, is]
    · rw [c] at is
      obtain ⟨B, hB, cB, b0⟩ := tell_ok hd ha h4 c i0
      refine ⟨B, ⟨cB, fun x hx h5 h6 s hs h7 => ?_⟩, ?_⟩
      · rw [b0 x s h5 hs]
        by_cases e : x = j
        · subst e
          rw [if_pos ⟨rfl, h7⟩]
        · rw [if_neg (fun h => e h.1)]
          exact i1 x (by omega) h5 h6 s hs h7
      · show f_X7_order_l64_11 (iN a) p (f + 1) (iN j) A = _
        conv => lhs; unfold f_X7_order_l64_11
        simp (disch := omega) only [chk_t, beq_self_eq_true, nm_s, bj1_s, bj2_s, bj3_s, mo_1, mo_0, l_0, l_1, l_2, l_3, l_4, l_5, l_6, l_7, l_8, l_9, l_10, l_11, l_12, l_13, l_14, l_15, l_16, l_17, l_18, l_19, l_20, l_21, l_30, l_31, l_32, l_36, l_40, l_41, l_42, l_43, l_44, l_45, l_46, l_47, l_48, l_49, l_50, l_51, l_52, l_57, l_58, l_60, l_64, l_72, l_80, l_92, l_98, l_99, l_100, l_102, l_105, l_111, l_112, l_114, l_115, l_116, l_117, l_120, l_144, l_200, l_201, l_240, l_300, l_320, l_400, l_500, l_550, l_560, l_649, l_650, l_1000, l_1400, l_2000, l_4000, l_10000, iN_add, iN_sub, iN_mul, iN_le_t, iN_le_f, iN_lt_t, iN_lt_f, iN_eq_f, inb_iN, ix_iN, isZ_0, isZ_1, ↓reduceIte, eq_self, is, hB]
  · intro f A ⟨i0, i1⟩
    refine ⟨A, ?_, i0, fun c hc => i1 c hc hc⟩
    show f_X7_order_l64_11 (iN a) p (f + 1) (iN 4) A = _
    unfold f_X7_order_l64_11
    simp (disch := omega) only [chk_t, beq_self_eq_true, nm_s, bj1_s, bj2_s, bj3_s, mo_1, mo_0, l_0, l_1, l_2, l_3, l_4, l_5, l_6, l_7, l_8, l_9, l_10, l_11, l_12, l_13, l_14, l_15, l_16, l_17, l_18, l_19, l_20, l_21, l_30, l_31, l_32, l_36, l_40, l_41, l_42, l_43, l_44, l_45, l_46, l_47, l_48, l_49, l_50, l_51, l_52, l_57, l_58, l_60, l_64, l_72, l_80, l_92, l_98, l_99, l_100, l_102, l_105, l_111, l_112, l_114, l_115, l_116, l_117, l_120, l_144, l_200, l_201, l_240, l_300, l_320, l_400, l_500, l_550, l_560, l_649, l_650, l_1000, l_1400, l_2000, l_4000, l_10000, iN_add, iN_sub, iN_mul, iN_le_t, iN_le_f, iN_lt_t, iN_lt_f, iN_eq_f, inb_iN, ix_iN, isZ_0, isZ_1, ↓reduceIte, eq_self]

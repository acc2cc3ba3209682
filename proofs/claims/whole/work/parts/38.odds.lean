/-! odds: a fraction in lowest terms -/
def jN (k : Nat) : Int64 := Int64.ofNat k
theorem jN_t {k : Nat} (h : k < 9223372036854775808) : (jN k).toInt = k := Int64.toInt_ofNat_of_lt h
theorem i64 {k : Nat} (h : k < 2147483648) : (iN k).toInt64 = jN k := by
  rw [← Int64.toInt_inj, Int32.toInt_toInt64, li h, jN_t (by omega)]
theorem jN_mul (a b : Nat) : jN a * jN b = jN (a * b) := (Int64.ofNat_mul a b).symm
theorem jN_sub {a b : Nat} (h : b ≤ a) : jN a - jN b = jN (a - b) := (Int64.ofNat_sub a b h).symm
theorem jN_div {a b : Nat} (ha : a < 2147483648) (hb0 : 0 < b) (hb : b < 2147483648) : jN a / jN b = jN (a / b) := by
  have h2 : a / b ≤ a := Nat.div_le_self a b
  rw [← Int64.toInt_inj, Int64.toInt_div_of_ne_right _ _ (fun e => by have := congrArg Int64.toInt e; rw [jN_t (by omega), show (-1 : Int64).toInt = -1 from by decide] at this; omega), jN_t (by omega), jN_t (by omega), jN_t (by omega), Int.tdiv_eq_ediv_of_nonneg (by omega)]
  exact (Int.natCast_ediv a b).symm
theorem jN_0 : jN 0 = 0 := rfl
theorem jN_ne {b : Nat} (hb0 : 0 < b) (hb : b < 2147483648) : jN b ≠ 0 := fun e => by
  have := congrArg Int64.toInt e
  rw [jN_t (by omega), show (0 : Int64).toInt = 0 from rfl] at this
  omega
theorem lgc_0 (x y : Int64) : lg_cmp x y = 0 ↔ x = y := by
  unfold lg_cmp
  split
  · next h =>
    constructor
    · intro e
      exact absurd e (by decide)
    · intro e
      rw [e] at h
      exact (Int64.lt_irrefl h).elim
  · split
    · next h => exact ⟨fun _ => h, fun _ => rfl⟩
    · next h => exact ⟨fun e => absurd e (by decide), fun e => absurd e h⟩
theorem mod_N (x y : Nat) : x - x / y * y = x % y := by
  have := Nat.div_add_mod x y
  rw [Nat.mul_comm] at this
  omega
theorem cgcd_ok (a1 a2 : Int32) (G : G_) : ∀ (y x m n : Nat), x ≤ 1000 → y ≤ 1000 → m + y < 64 → y < n → f_X7_tellFraction_l8_4 a1 a2 G n (iN x) (iN y) (iN m) = some (iN (Nat.gcd y x)) := by
  intro y
  induction y using Nat.strongRecOn with
  | _ y ih =>
    intro x m n hx hy hm hn
    obtain ⟨n, rfl⟩ : ∃ k, n = k + 1 := ⟨n - 1, by omega⟩
    unfold f_X7_tellFraction_l8_4
    by_cases c : y = 0
    · subst c
      rw [Nat.gcd_zero_left]
      simp (disch := omega) only [chk_t, beq_self_eq_true, nm_s, bj1_s, bj2_s, bj3_s, mo_1, mo_0, l_0, l_1, l_2, l_3, l_4, l_5, l_6, l_7, l_8, l_9, l_10, l_11, l_12, l_13, l_14, l_15, l_16, l_17, l_18, l_19, l_20, l_21, l_30, l_31, l_32, l_36, l_40, l_41, l_42, l_43, l_44, l_45, l_46, l_47, l_48, l_49, l_50, l_51, l_52, l_57, l_58, l_60, l_64, l_72, l_80, l_92, l_98, l_99, l_100, l_102, l_105, l_111, l_112, l_114, l_115, l_116, l_117, l_120, l_144, l_200, l_201, l_240, l_300, l_320, l_400, l_500, l_550, l_560, l_649, l_650, l_1000, l_1400, l_2000, l_4000, l_10000, iN_add, iN_sub, iN_mul, iN_le_t, iN_le_f, iN_lt_t, iN_lt_f, iN_eq_f, inb_iN, ix_iN, isZ_0, isZ_1, ↓reduceIte, eq_self]
    · have e0 : (iN y = iN 0) = False := iN_eq_f c (by omega) (by omega)
      have e1 : (iN y != iN 0) = true := by
        rw [bne_iff_ne]
        exact of_eq_false e0
      have ed : iN x / iN y = iN (x / y) := iN_div (by omega) (by omega) (by omega)
      have hml : x / y * y ≤ x := Nat.div_mul_le_self x y
      have hlt : x % y < y := Nat.mod_lt x (by omega)
      have h := ih (x % y) hlt y (m + 1) n hy (by omega) (by omega) (by omega)
      rw [← Nat.gcd_rec y x, ← mod_N] at h
      simp (disch := omega) only [chk_t, beq_self_eq_true, nm_s, bj1_s, bj2_s, bj3_s, mo_1, mo_0, l_0, l_1, l_2, l_3, l_4, l_5, l_6, l_7, l_8, l_9, l_10, l_11, l_12, l_13, l_14, l_15, l_16, l_17, l_18, l_19, l_20, l_21, l_30, l_31, l_32, l_36, l_40, l_41, l_42, l_43, l_44, l_45, l_46, l_47, l_48, l_49, l_50, l_51, l_52, l_57, l_58, l_60, l_64, l_72, l_80, l_92, l_98, l_99, l_100, l_102, l_105, l_111, l_112, l_114, l_115, l_116, l_117, l_120, l_144, l_200, l_201, l_240, l_300, l_320, l_400, l_500, l_550, l_560, l_649, l_650, l_1000, l_1400, l_2000, l_4000, l_10000, iN_add, iN_sub, iN_mul, iN_le_t, iN_le_f, iN_lt_t, iN_lt_f, iN_eq_f, inb_iN, ix_iN, isZ_0, isZ_1, ↓reduceIte, eq_self, e0, e1, ed, h]
theorem mgcd_ok (a1 a3 : Int64) (a5 : Int32) (G : G_) : ∀ (y x n : Nat), x ≤ 1000 → y ≤ 1000 → y < n → f_X8_fraction_l6_3 a1 a3 a5 G n (jN x) (jN y) = some (jN (Nat.gcd y x)) := by
  intro y
  induction y using Nat.strongRecOn with
  | _ y ih =>
    intro x n hx hy hn
    obtain ⟨n, rfl⟩ : ∃ k, n = k + 1 := ⟨n - 1, by omega⟩
    unfold f_X8_fraction_l6_3
    by_cases c : y = 0
    · subst c
      rw [Nat.gcd_zero_left, if_pos ((lgc_0 _ _).mpr jN_0)]
    · have e0 := jN_ne (b := y) (by omega) (by omega)
      rw [if_neg (fun e => e0 ((lgc_0 _ _).mp e))]
      have e1 : (jN y != 0) = true := by
        rw [bne_iff_ne]
        exact e0
      have hml : x / y * y ≤ x := Nat.div_mul_le_self x y
      have hlt : x % y < y := Nat.mod_lt x (by omega)
      have h := ih (x % y) hlt y n hy (by omega) (by omega)
      rw [← Nat.gcd_rec y x, ← mod_N] at h
      rw [e1, chk_t, jN_div (by omega) (by omega) (by omega), jN_mul, jN_sub hml]
      exact h
theorem ctell_ok {a b : Nat} {G : G_} (ha : a ≤ 16) (hb : b ≤ 16) (hb1 : 1 ≤ b) : f_X7_tellFraction (iN a) (iN b) G = some (sJ (sJ G 0 17 (jN (a / Nat.gcd b a))) 0 18 (jN (b / Nat.gcd b a))) := by
  have hg : 0 < Nat.gcd b a := Nat.gcd_pos_of_pos_left a (by omega)
  have hg2 : Nat.gcd b a ≤ b := Nat.gcd_le_left a (by omega)
  have k := cgcd_ok (iN a) (iN b) G b a 0 FU (by omega) (by omega) (by omega) (fu_lt (by omega))
  generalize Nat.gcd b a = g at *
  have d1 : iN a / iN g = iN (a / g) := iN_div (by omega) hg (by omega)
  have d2 : iN b / iN g = iN (b / g) := iN_div (by omega) hg (by omega)
  have z1 := Nat.div_le_self a g
  have z2 := Nat.div_le_self b g
  have e0 : (iN g = iN 0) = False := iN_eq_f (by omega) (by omega) (by omega)
  have e1 : (iN g != iN 0) = true := by
    rw [bne_iff_ne]
    exact of_eq_false e0
  unfold f_X7_tellFraction
  simp (disch := omega) only [chk_t, beq_self_eq_true, nm_s, bj1_s, bj2_s, bj3_s, mo_1, mo_0, l_0, l_1, l_2, l_3, l_4, l_5, l_6, l_7, l_8, l_9, l_10, l_11, l_12, l_13, l_14, l_15, l_16, l_17, l_18, l_19, l_20, l_21, l_30, l_31, l_32, l_36, l_40, l_41, l_42, l_43, l_44, l_45, l_46, l_47, l_48, l_49, l_50, l_51, l_52, l_57, l_58, l_60, l_64, l_72, l_80, l_92, l_98, l_99, l_100, l_102, l_105, l_111, l_112, l_114, l_115, l_116, l_117, l_120, l_144, l_200, l_201, l_240, l_300, l_320, l_400, l_500, l_550, l_560, l_649, l_650, l_1000, l_1400, l_2000, l_4000, l_10000, iN_add, iN_sub, iN_mul, iN_le_t, iN_le_f, iN_lt_t, iN_lt_f, iN_eq_f, inb_iN, ix_iN, isZ_0, isZ_1, ↓reduceIte, eq_self, k, e0, e1, d1, d2, i64]
theorem mtell_ok {a b : Nat} {x : Int32} {G : G_} (ha : a ≤ 16) (hb : b ≤ 16) (hb1 : 1 ≤ b) : f_X8_fraction (jN a) (jN b) x G = some (x, sJ (sJ G 124 3 (jN (a / Nat.gcd b a))) 124 4 (jN (b / Nat.gcd b a))) := by
  have hg : 0 < Nat.gcd b a := Nat.gcd_pos_of_pos_left a (by omega)
  have hg2 : Nat.gcd b a ≤ b := Nat.gcd_le_left a (by omega)
  have k := mgcd_ok (jN a) (jN b) x G b a FU (by omega) (by omega) (fu_lt (by omega))
  generalize Nat.gcd b a = g at *
  have e1 : (jN g != 0) = true := by
    rw [bne_iff_ne]
    exact jN_ne hg (by omega)
  unfold f_X8_fraction
  rw [k, bj1_s, e1, chk_t, jN_div (by omega) hg (by omega), jN_div (by omega) hg (by omega), nm_s, chk_t, nm_s]
/-- how many pairs are as unlike as the least, and how many of those with the plan a -/
def odA (f : Nat → Int32) (v : Int32) (j : Nat) : Int32 := sumS (fun j => if f j = v then iN 1 else iN 0) j
def odB (f : Nat → Int32) (v a : Int32) (j : Nat) : Int32 := sumS (fun j => if f j = v then (if iN (j - j / 4 * 4) = a then iN 1 else iN 0) else iN 0) j
theorem od_N (f : Nat → Int32) (v a : Int32) {b : Nat} (hb : b < 16) (hf : f b = v) : ∃ x y, odA f v 16 = iN x ∧ odB f v a 16 = iN y ∧ 1 ≤ x ∧ x ≤ 16 ∧ y ≤ 16 := by
  have key : ∀ n, n ≤ 16 → ∃ x, x ≤ n ∧ odA f v n = iN x ∧ (b < n → 1 ≤ x) := by
    intro n
    induction n with
    | zero => exact fun _ => ⟨0, by omega, rfl, fun h => by omega⟩
    | succ n ih =>
      intro hn
      obtain ⟨x, h1, h2, h3⟩ := ih (by omega)
      have e : odA f v (n + 1) = odA f v n + if f n = v then iN 1 else iN 0 := rfl
      rw [e, h2]
      by_cases c : f n = v
      · rw [if_pos c, iN_add]
        exact ⟨x + 1, by omega, rfl, fun _ => by omega⟩
      · rw [if_neg c, iN_add]
        refine ⟨x + 0, by omega, rfl, fun h => ?_⟩
        by_cases d : b = n
        · subst d
          exact absurd hf c
        · have := h3 (by omega)
          omega
  obtain ⟨x, h1, h2, h3⟩ := key 16 (by omega)
  obtain ⟨y, h4, h5⟩ := sum01 (fun j => if f j = v then (if iN (j - j / 4 * 4) = a then iN 1 else iN 0) else iN 0) 16 (fun i _ => by
    show (if _ then (if _ then iN 1 else iN 0) else iN 0) = iN 0 ∨ (if _ then (if _ then iN 1 else iN 0) else iN 0) = iN 1
    split
    · split
      · exact Or.inr rfl
      · exact Or.inl rfl
    · exact Or.inl rfl) (by omega)
  exact ⟨x, y, h2, h5, h3 hb, by omega, by omega⟩
theorem RR_J {G C H : G_} {u l : Int64} (h : RR G) (c : cc G C) (m : mf (sJ (sJ C 0 17 u) 0 18 l) H) : RR (sJ (sJ H 124 3 u) 124 4 l) := by
  obtain ⟨a1, a2, a3, a4, a5⟩ := m
  have k1 : kp0 G (H.1, G.2) := ⟨fun q hq => (a1 q (Or.inr hq)).trans (c.1 q (by unfold relq at hq; omega)), (congrFun (a1 0 (by omega)) 15).trans (congrFun (c.1 0 (by omega)) 15), a2.trans (congrFun (c.1 124 (by omega)) 0), fun j hj => (a4 j hj).trans (congrFun (c.1 139 (by omega)) j), rfl, rfl, rfl, fun e => by
    show isZ (H.1 17 7) = true
    rw [a1 17 (by omega)]
    exact c.2.2 e⟩
  obtain ⟨⟨r1, r2, r3, r4, r5, r6⟩, ra⟩ := RR_keep h k1 ((congrFun (a1 0 (by omega)) 16).trans (congrFun (c.1 0 (by omega)) 16)) (a3.trans (congrFun (c.1 124 (by omega)) 2))
  have j2 : (sJ (sJ H 124 3 u) 124 4 l).2 = u2 (u2 (u2 (u2 C.2 0 17 u) 0 18 l) 124 3 u) 124 4 l := by
    show u2 (u2 H.2 124 3 u) 124 4 l = _
    rw [a5]
    rfl
  refine ⟨⟨R1_fr r1 (fun q _ => rfl), R2_fr r2 (fun q _ => rfl), R3_fr r3 (fun q _ => rfl), R4_fr r4 (fun q _ => rfl), R5_fr r5 (fun q _ => rfl) (fun j _ => rfl), r6.1, r6.2.1, ?_, ?_, r6.2.2.2.2⟩, ra⟩
  · rw [j2]
    rfl
  · rw [j2]
    rfl
theorem op_odds (a1 a2 : Int32) {G : G_} (h : RR G) : pOK (f_X7_odds a1 a2) (f_X8_odds a1 a2) G := by
  rcases row_cases a1 G with ⟨e1, c1⟩ | ⟨r, hr, rfl, e1, c1, ho⟩
  · refine pOK_same (x := -iN 1) h ?_ ?_
    · unfold f_X7_odds
      simp (disch := omega) only [chk_t, beq_self_eq_true, nm_s, bj1_s, bj2_s, bj3_s, mo_1, mo_0, l_0, l_1, l_2, l_3, l_4, l_5, l_6, l_7, l_8, l_9, l_10, l_11, l_12, l_13, l_14, l_15, l_16, l_17, l_18, l_19, l_20, l_21, l_30, l_31, l_32, l_36, l_40, l_41, l_42, l_43, l_44, l_45, l_46, l_47, l_48, l_49, l_50, l_51, l_52, l_57, l_58, l_60, l_64, l_72, l_80, l_92, l_98, l_99, l_100, l_102, l_105, l_111, l_112, l_114, l_115, l_116, l_117, l_120, l_144, l_200, l_201, l_240, l_300, l_320, l_400, l_500, l_550, l_560, l_649, l_650, l_1000, l_1400, l_2000, l_4000, l_10000, iN_add, iN_sub, iN_mul, iN_le_t, iN_le_f, iN_lt_t, iN_lt_f, iN_eq_f, inb_iN, ix_iN, isZ_0, isZ_1, ↓reduceIte, eq_self, c1]
    · unfold f_X8_odds
      simp (disch := omega) only [chk_t, beq_self_eq_true, nm_s, bj1_s, bj2_s, bj3_s, mo_1, mo_0, l_0, l_1, l_2, l_3, l_4, l_5, l_6, l_7, l_8, l_9, l_10, l_11, l_12, l_13, l_14, l_15, l_16, l_17, l_18, l_19, l_20, l_21, l_30, l_31, l_32, l_36, l_40, l_41, l_42, l_43, l_44, l_45, l_46, l_47, l_48, l_49, l_50, l_51, l_52, l_57, l_58, l_60, l_64, l_72, l_80, l_92, l_98, l_99, l_100, l_102, l_105, l_111, l_112, l_114, l_115, l_116, l_117, l_120, l_144, l_200, l_201, l_240, l_300, l_320, l_400, l_500, l_550, l_560, l_649, l_650, l_1000, l_1400, l_2000, l_4000, l_10000, iN_add, iN_sub, iN_mul, iN_le_t, iN_le_f, iN_lt_t, iN_lt_f, iN_eq_f, inb_iN, ix_iN, isZ_0, isZ_1, ↓reduceIte, eq_self, row8, e1]
  · rcases inS_01 (iN 0) (iN 3) a2 with e2 | e2
    · refine pOK_same (x := -iN 1) h ?_ ?_
      · unfold f_X7_odds
        simp (disch := omega) only [chk_t, beq_self_eq_true, nm_s, bj1_s, bj2_s, bj3_s, mo_1, mo_0, l_0, l_1, l_2, l_3, l_4, l_5, l_6, l_7, l_8, l_9, l_10, l_11, l_12, l_13, l_14, l_15, l_16, l_17, l_18, l_19, l_20, l_21, l_30, l_31, l_32, l_36, l_40, l_41, l_42, l_43, l_44, l_45, l_46, l_47, l_48, l_49, l_50, l_51, l_52, l_57, l_58, l_60, l_64, l_72, l_80, l_92, l_98, l_99, l_100, l_102, l_105, l_111, l_112, l_114, l_115, l_116, l_117, l_120, l_144, l_200, l_201, l_240, l_300, l_320, l_400, l_500, l_550, l_560, l_649, l_650, l_1000, l_1400, l_2000, l_4000, l_10000, iN_add, iN_sub, iN_mul, iN_le_t, iN_le_f, iN_lt_t, iN_lt_f, iN_eq_f, inb_iN, ix_iN, isZ_0, isZ_1, ↓reduceIte, eq_self, c1, kd_b ho, in7, e2]
      · unfold f_X8_odds
        simp (disch := omega) only [chk_t, beq_self_eq_true, nm_s, bj1_s, bj2_s, bj3_s, mo_1, mo_0, l_0, l_1, l_2, l_3, l_4, l_5, l_6, l_7, l_8, l_9, l_10, l_11, l_12, l_13, l_14, l_15, l_16, l_17, l_18, l_19, l_20, l_21, l_30, l_31, l_32, l_36, l_40, l_41, l_42, l_43, l_44, l_45, l_46, l_47, l_48, l_49, l_50, l_51, l_52, l_57, l_58, l_60, l_64, l_72, l_80, l_92, l_98, l_99, l_100, l_102, l_105, l_111, l_112, l_114, l_115, l_116, l_117, l_120, l_144, l_200, l_201, l_240, l_300, l_320, l_400, l_500, l_550, l_560, l_649, l_650, l_1000, l_1400, l_2000, l_4000, l_10000, iN_add, iN_sub, iN_mul, iN_le_t, iN_le_f, iN_lt_t, iN_lt_f, iN_eq_f, inb_iN, ix_iN, isZ_0, isZ_1, ↓reduceIte, eq_self, row8, e1, place8, e2]
    · rcases row_what h.1 hr with ⟨f, f1, f5, w7, w8⟩ | ⟨w7, z, hz, ez, hN⟩
      · have f0 : (iN f = iN 0) = False := iN_eq_f (by omega) (by omega) (by omega)
        refine pOK_found (f := f) ⟨f1, f5⟩ h ?_ ?_
        · unfold f_X7_odds
          simp (disch := omega) only [chk_t, beq_self_eq_true, nm_s, bj1_s, bj2_s, bj3_s, mo_1, mo_0, l_0, l_1, l_2, l_3, l_4, l_5, l_6, l_7, l_8, l_9, l_10, l_11, l_12, l_13, l_14, l_15, l_16, l_17, l_18, l_19, l_20, l_21, l_30, l_31, l_32, l_36, l_40, l_41, l_42, l_43, l_44, l_45, l_46, l_47, l_48, l_49, l_50, l_51, l_52, l_57, l_58, l_60, l_64, l_72, l_80, l_92, l_98, l_99, l_100, l_102, l_105, l_111, l_112, l_114, l_115, l_116, l_117, l_120, l_144, l_200, l_201, l_240, l_300, l_320, l_400, l_500, l_550, l_560, l_649, l_650, l_1000, l_1400, l_2000, l_4000, l_10000, iN_add, iN_sub, iN_mul, iN_le_t, iN_le_f, iN_lt_t, iN_lt_f, iN_eq_f, inb_iN, ix_iN, isZ_0, isZ_1, ↓reduceIte, eq_self, c1, kd_b ho, in7, e2, w7, f0, found_ok]
        · unfold f_X8_odds
          simp (disch := omega) only [chk_t, beq_self_eq_true, nm_s, bj1_s, bj2_s, bj3_s, mo_1, mo_0, l_0, l_1, l_2, l_3, l_4, l_5, l_6, l_7, l_8, l_9, l_10, l_11, l_12, l_13, l_14, l_15, l_16, l_17, l_18, l_19, l_20, l_21, l_30, l_31, l_32, l_36, l_40, l_41, l_42, l_43, l_44, l_45, l_46, l_47, l_48, l_49, l_50, l_51, l_52, l_57, l_58, l_60, l_64, l_72, l_80, l_92, l_98, l_99, l_100, l_102, l_105, l_111, l_112, l_114, l_115, l_116, l_117, l_120, l_144, l_200, l_201, l_240, l_300, l_320, l_400, l_500, l_550, l_560, l_649, l_650, l_1000, l_1400, l_2000, l_4000, l_10000, iN_add, iN_sub, iN_mul, iN_le_t, iN_le_f, iN_lt_t, iN_lt_f, iN_eq_f, inb_iN, ix_iN, isZ_0, isZ_1, ↓reduceIte, eq_self, row8, e1, place8, e2, w8, le_m3]
      · have hf := uS_r r z G hz
        obtain ⟨C, hC, ccC, c48⟩ := cleast_ok h.1 hr hz ez
        rcases leS_ok hf 16 (by omega) with ⟨g1, g2⟩ | ⟨b, c, g1, g2, g3, g4, g5, g6⟩
        · obtain ⟨H, m1, m2, m3⟩ := hN (fndC 4 C) (fun q hq => (fndC_o (by omega) (by omega)).trans (cc_at ccC (by omega)))
          have m4 := leastP_ok hf m3
          rw [g1] at hC m4
          refine pOK_found3 (f := 4) (by omega) (G1 := C) (H := H) h ccC ?_ m2 ?_
          · unfold f_X7_odds
            simp (disch := omega) only [chk_t, beq_self_eq_true, nm_s, bj1_s, bj2_s, bj3_s, mo_1, mo_0, l_0, l_1, l_2, l_3, l_4, l_5, l_6, l_7, l_8, l_9, l_10, l_11, l_12, l_13, l_14, l_15, l_16, l_17, l_18, l_19, l_20, l_21, l_30, l_31, l_32, l_36, l_40, l_41, l_42, l_43, l_44, l_45, l_46, l_47, l_48, l_49, l_50, l_51, l_52, l_57, l_58, l_60, l_64, l_72, l_80, l_92, l_98, l_99, l_100, l_102, l_105, l_111, l_112, l_114, l_115, l_116, l_117, l_120, l_144, l_200, l_201, l_240, l_300, l_320, l_400, l_500, l_550, l_560, l_649, l_650, l_1000, l_1400, l_2000, l_4000, l_10000, iN_add, iN_sub, iN_mul, iN_le_t, iN_le_f, iN_lt_t, iN_lt_f, iN_eq_f, inb_iN, ix_iN, isZ_0, isZ_1, ↓reduceIte, eq_self, c1, kd_b ho, in7, e2, w7, hC, le_m1, found_ok]
          · unfold f_X8_odds
            simp (disch := omega) only [chk_t, beq_self_eq_true, nm_s, bj1_s, bj2_s, bj3_s, mo_1, mo_0, l_0, l_1, l_2, l_3, l_4, l_5, l_6, l_7, l_8, l_9, l_10, l_11, l_12, l_13, l_14, l_15, l_16, l_17, l_18, l_19, l_20, l_21, l_30, l_31, l_32, l_36, l_40, l_41, l_42, l_43, l_44, l_45, l_46, l_47, l_48, l_49, l_50, l_51, l_52, l_57, l_58, l_60, l_64, l_72, l_80, l_92, l_98, l_99, l_100, l_102, l_105, l_111, l_112, l_114, l_115, l_116, l_117, l_120, l_144, l_200, l_201, l_240, l_300, l_320, l_400, l_500, l_550, l_560, l_649, l_650, l_1000, l_1400, l_2000, l_4000, l_10000, iN_add, iN_sub, iN_mul, iN_le_t, iN_le_f, iN_lt_t, iN_lt_f, iN_eq_f, inb_iN, ix_iN, isZ_0, isZ_1, ↓reduceIte, eq_self, row8, e1, place8, e2, m1, m4, meets_ok]
        · obtain ⟨x, y, x1, y1, hx1, hx2, hy⟩ := od_N (uS r z G) (iN c) a2 g1 g3
          obtain ⟨u, hu⟩ : ∃ u, u = jN (y / Nat.gcd x y) := ⟨_, rfl⟩
          obtain ⟨l, hl⟩ : ∃ l, l = jN (x / Nat.gcd x y) := ⟨_, rfl⟩
          have ct := ctell_ok (G := C) hy hx2 hx1
          rw [← hu, ← hl] at ct
          obtain ⟨H, m1, m2, m3⟩ := hN (sJ (sJ C 0 17 u) 0 18 l) (fun q hq => show C.1 q = G.1 q from cc_at ccC (by omega))
          have m4 := leastP_ok hf m3
          rw [g4] at hC m4
          have mt := mtell_ok (x := iN x) (G := H) hy hx2 hx1
          rw [← hu, ← hl] at mt
          have e9 : (iN b = -iN 9) = False := eq_false (ne_m9 (by omega))
          have eb : H.1 144 b = iN c := (m3 b g1).trans g3
          have ediv : ∀ j, j < 16 → iN j / iN 4 = iN (j / 4) := fun j hj => iN_div (by omega) (by omega) (by omega)
          have az : ∀ x : Int32, x + iN 0 = x := fun x => Int32.add_zero x
          have kC : f_X7_odds_l66_15 a2 (iN c) C FU (iN 0) (iN 0) (iN 0) = some (iN x, iN y) := by
            rw [← x1, ← y1]
            refine loop_cl (fun n v (s : Int32 × Int32) => f_X7_odds_l66_15 a2 (iN c) C n s.1 s.2 v) (fun j => (odA (uS r z G) (iN c) j, odB (uS r z G) (iN c) a2 j)) 0 16 _ ?_ ?_ (by omega) (n := FU) (fu_lt (by omega))
            · intro n j h1 h2
              have ej := c48 j h2
              have ed := ediv j h2
              show f_X7_odds_l66_15 a2 (iN c) C (n + 1) (odA (uS r z G) (iN c) j) (odB (uS r z G) (iN c) a2 j) (iN j) = f_X7_odds_l66_15 a2 (iN c) C n (odA (uS r z G) (iN c) j + if uS r z G j = iN c then iN 1 else iN 0) (odB (uS r z G) (iN c) a2 j + if uS r z G j = iN c then (if iN (j - j / 4 * 4) = a2 then iN 1 else iN 0) else iN 0) (iN (j + 1))
              conv => lhs; unfold f_X7_odds_l66_15
              by_cases d : uS r z G j = iN c
              · by_cases d2 : iN (j - j / 4 * 4) = a2
                · simp (disch := omega) only [chk_t, beq_self_eq_true, nm_s, bj1_s, bj2_s, bj3_s, mo_1, mo_0, l_0, l_1, l_2, l_3, l_4, l_5, l_6, l_7, l_8, l_9, l_10, l_11, l_12, l_13, l_14, l_15, l_16, l_17, l_18, l_19, l_20, l_21, l_30, l_31, l_32, l_36, l_40, l_41, l_42, l_43, l_44, l_45, l_46, l_47, l_48, l_49, l_50, l_51, l_52, l_57, l_58, l_60, l_64, l_72, l_80, l_92, l_98, l_99, l_100, l_102, l_105, l_111, l_112, l_114, l_115, l_116, l_117, l_120, l_144, l_200, l_201, l_240, l_300, l_320, l_400, l_500, l_550, l_560, l_649, l_650, l_1000, l_1400, l_2000, l_4000, l_10000, iN_add, iN_sub, iN_mul, iN_le_t, iN_le_f, iN_lt_t, iN_lt_f, iN_eq_f, inb_iN, ix_iN, isZ_0, isZ_1, ↓reduceIte, eq_self, ej, if_pos d, ed, if_pos d2]
                · simp (disch := omega) only [chk_t, beq_self_eq_true, nm_s, bj1_s, bj2_s, bj3_s, mo_1, mo_0, l_0, l_1, l_2, l_3, l_4, l_5, l_6, l_7, l_8, l_9, l_10, l_11, l_12, l_13, l_14, l_15, l_16, l_17, l_18, l_19, l_20, l_21, l_30, l_31, l_32, l_36, l_40, l_41, l_42, l_43, l_44, l_45, l_46, l_47, l_48, l_49, l_50, l_51, l_52, l_57, l_58, l_60, l_64, l_72, l_80, l_92, l_98, l_99, l_100, l_102, l_105, l_111, l_112, l_114, l_115, l_116, l_117, l_120, l_144, l_200, l_201, l_240, l_300, l_320, l_400, l_500, l_550, l_560, l_649, l_650, l_1000, l_1400, l_2000, l_4000, l_10000, iN_add, iN_sub, iN_mul, iN_le_t, iN_le_f, iN_lt_t, iN_lt_f, iN_eq_f, inb_iN, ix_iN, isZ_0, isZ_1, ↓reduceIte, eq_self, ej, if_pos d, ed, if_neg d2]
              · simp (disch := omega) only [chk_t, beq_self_eq_true, nm_s, bj1_s, bj2_s, bj3_s, mo_1, mo_0, l_0, l_1, l_2, l_3, l_4, l_5, l_6, l_7, l_8, l_9, l_10, l_11, l_12, l_13, l_14, l_15, l_16, l_17, l_18, l_19, l_20, l_21, l_30, l_31, l_32, l_36, l_40, l_41, l_42, l_43, l_44, l_45, l_46, l_47, l_48, l_49, l_50, l_51, l_52, l_57, l_58, l_60, l_64, l_72, l_80, l_92, l_98, l_99, l_100, l_102, l_105, l_111, l_112, l_114, l_115, l_116, l_117, l_120, l_144, l_200, l_201, l_240, l_300, l_320, l_400, l_500, l_550, l_560, l_649, l_650, l_1000, l_1400, l_2000, l_4000, l_10000, iN_add, iN_sub, iN_mul, iN_le_t, iN_le_f, iN_lt_t, iN_lt_f, iN_eq_f, inb_iN, ix_iN, isZ_0, isZ_1, ↓reduceIte, eq_self, ej, if_neg d, az]
            · intro n
              show f_X7_odds_l66_15 a2 (iN c) C (n + 1) (odA (uS r z G) (iN c) 16) (odB (uS r z G) (iN c) a2 16) (iN 16) = _
              unfold f_X7_odds_l66_15
              simp (disch := omega) only [chk_t, beq_self_eq_true, nm_s, bj1_s, bj2_s, bj3_s, mo_1, mo_0, l_0, l_1, l_2, l_3, l_4, l_5, l_6, l_7, l_8, l_9, l_10, l_11, l_12, l_13, l_14, l_15, l_16, l_17, l_18, l_19, l_20, l_21, l_30, l_31, l_32, l_36, l_40, l_41, l_42, l_43, l_44, l_45, l_46, l_47, l_48, l_49, l_50, l_51, l_52, l_57, l_58, l_60, l_64, l_72, l_80, l_92, l_98, l_99, l_100, l_102, l_105, l_111, l_112, l_114, l_115, l_116, l_117, l_120, l_144, l_200, l_201, l_240, l_300, l_320, l_400, l_500, l_550, l_560, l_649, l_650, l_1000, l_1400, l_2000, l_4000, l_10000, iN_add, iN_sub, iN_mul, iN_le_t, iN_le_f, iN_lt_t, iN_lt_f, iN_eq_f, inb_iN, ix_iN, isZ_0, isZ_1, ↓reduceIte, eq_self]
          have kM : f_X8_odds_l56_13 a2 (iN b) H FU (iN 0) (iN 0) (iN 0) = some (iN x, iN y) := by
            rw [← x1, ← y1]
            refine loop_cl (fun n v (s : Int32 × Int32) => f_X8_odds_l56_13 a2 (iN b) H n s.1 s.2 v) (fun j => (odA (uS r z G) (iN c) j, odB (uS r z G) (iN c) a2 j)) 0 16 _ ?_ ?_ (by omega) (n := FU) (fu_lt (by omega))
            · intro n j h1 h2
              have ej := m3 j h2
              have ed := ediv j h2
              show f_X8_odds_l56_13 a2 (iN b) H (n + 1) (odA (uS r z G) (iN c) j) (odB (uS r z G) (iN c) a2 j) (iN j) = f_X8_odds_l56_13 a2 (iN b) H n (odA (uS r z G) (iN c) j + if uS r z G j = iN c then iN 1 else iN 0) (odB (uS r z G) (iN c) a2 j + if uS r z G j = iN c then (if iN (j - j / 4 * 4) = a2 then iN 1 else iN 0) else iN 0) (iN (j + 1))
              conv => lhs; unfold f_X8_odds_l56_13
              by_cases d : uS r z G j = iN c
              · by_cases d2 : iN (j - j / 4 * 4) = a2
                · simp (disch := omega) only [chk_t, beq_self_eq_true, nm_s, bj1_s, bj2_s, bj3_s, mo_1, mo_0, l_0, l_1, l_2, l_3, l_4, l_5, l_6, l_7, l_8, l_9, l_10, l_11, l_12, l_13, l_14, l_15, l_16, l_17, l_18, l_19, l_20, l_21, l_30, l_31, l_32, l_36, l_40, l_41, l_42, l_43, l_44, l_45, l_46, l_47, l_48, l_49, l_50, l_51, l_52, l_57, l_58, l_60, l_64, l_72, l_80, l_92, l_98, l_99, l_100, l_102, l_105, l_111, l_112, l_114, l_115, l_116, l_117, l_120, l_144, l_200, l_201, l_240, l_300, l_320, l_400, l_500, l_550, l_560, l_649, l_650, l_1000, l_1400, l_2000, l_4000, l_10000, iN_add, iN_sub, iN_mul, iN_le_t, iN_le_f, iN_lt_t, iN_lt_f, iN_eq_f, inb_iN, ix_iN, isZ_0, isZ_1, ↓reduceIte, eq_self, ej, eb, if_pos d, ed, if_pos d2]
                · simp (disch := omega) only [chk_t, beq_self_eq_true, nm_s, bj1_s, bj2_s, bj3_s, mo_1, mo_0, l_0, l_1, l_2, l_3, l_4, l_5, l_6, l_7, l_8, l_9, l_10, l_11, l_12, l_13, l_14, l_15, l_16, l_17, l_18, l_19, l_20, l_21, l_30, l_31, l_32, l_36, l_40, l_41, l_42, l_43, l_44, l_45, l_46, l_47, l_48, l_49, l_50, l_51, l_52, l_57, l_58, l_60, l_64, l_72, l_80, l_92, l_98, l_99, l_100, l_102, l_105, l_111, l_112, l_114, l_115, l_116, l_117, l_120, l_144, l_200, l_201, l_240, l_300, l_320, l_400, l_500, l_550, l_560, l_649, l_650, l_1000, l_1400, l_2000, l_4000, l_10000, iN_add, iN_sub, iN_mul, iN_le_t, iN_le_f, iN_lt_t, iN_lt_f, iN_eq_f, inb_iN, ix_iN, isZ_0, isZ_1, ↓reduceIte, eq_self, ej, eb, if_pos d, ed, if_neg d2]
              · simp (disch := omega) only [chk_t, beq_self_eq_true, nm_s, bj1_s, bj2_s, bj3_s, mo_1, mo_0, l_0, l_1, l_2, l_3, l_4, l_5, l_6, l_7, l_8, l_9, l_10, l_11, l_12, l_13, l_14, l_15, l_16, l_17, l_18, l_19, l_20, l_21, l_30, l_31, l_32, l_36, l_40, l_41, l_42, l_43, l_44, l_45, l_46, l_47, l_48, l_49, l_50, l_51, l_52, l_57, l_58, l_60, l_64, l_72, l_80, l_92, l_98, l_99, l_100, l_102, l_105, l_111, l_112, l_114, l_115, l_116, l_117, l_120, l_144, l_200, l_201, l_240, l_300, l_320, l_400, l_500, l_550, l_560, l_649, l_650, l_1000, l_1400, l_2000, l_4000, l_10000, iN_add, iN_sub, iN_mul, iN_le_t, iN_le_f, iN_lt_t, iN_lt_f, iN_eq_f, inb_iN, ix_iN, isZ_0, isZ_1, ↓reduceIte, eq_self, ej, eb, if_neg d]
            · intro n
              show f_X8_odds_l56_13 a2 (iN b) H (n + 1) (odA (uS r z G) (iN c) 16) (odB (uS r z G) (iN c) a2 16) (iN 16) = _
              unfold f_X8_odds_l56_13
              simp (disch := omega) only [chk_t, beq_self_eq_true, nm_s, bj1_s, bj2_s, bj3_s, mo_1, mo_0, l_0, l_1, l_2, l_3, l_4, l_5, l_6, l_7, l_8, l_9, l_10, l_11, l_12, l_13, l_14, l_15, l_16, l_17, l_18, l_19, l_20, l_21, l_30, l_31, l_32, l_36, l_40, l_41, l_42, l_43, l_44, l_45, l_46, l_47, l_48, l_49, l_50, l_51, l_52, l_57, l_58, l_60, l_64, l_72, l_80, l_92, l_98, l_99, l_100, l_102, l_105, l_111, l_112, l_114, l_115, l_116, l_117, l_120, l_144, l_200, l_201, l_240, l_300, l_320, l_400, l_500, l_550, l_560, l_649, l_650, l_1000, l_1400, l_2000, l_4000, l_10000, iN_add, iN_sub, iN_mul, iN_le_t, iN_le_f, iN_lt_t, iN_lt_f, iN_eq_f, inb_iN, ix_iN, isZ_0, isZ_1, ↓reduceIte, eq_self]
          refine ⟨iN x, sJ (sJ C 0 17 u) 0 18 l, sJ (sJ H 124 3 u) 124 4 l, ?_, ?_, RR_J h ccC m2⟩
          · unfold f_X7_odds
            simp (disch := omega) only [chk_t, beq_self_eq_true, nm_s, bj1_s, bj2_s, bj3_s, mo_1, mo_0, l_0, l_1, l_2, l_3, l_4, l_5, l_6, l_7, l_8, l_9, l_10, l_11, l_12, l_13, l_14, l_15, l_16, l_17, l_18, l_19, l_20, l_21, l_30, l_31, l_32, l_36, l_40, l_41, l_42, l_43, l_44, l_45, l_46, l_47, l_48, l_49, l_50, l_51, l_52, l_57, l_58, l_60, l_64, l_72, l_80, l_92, l_98, l_99, l_100, l_102, l_105, l_111, l_112, l_114, l_115, l_116, l_117, l_120, l_144, l_200, l_201, l_240, l_300, l_320, l_400, l_500, l_550, l_560, l_649, l_650, l_1000, l_1400, l_2000, l_4000, l_10000, iN_add, iN_sub, iN_mul, iN_le_t, iN_le_f, iN_lt_t, iN_lt_f, iN_eq_f, inb_iN, ix_iN, isZ_0, isZ_1, ↓reduceIte, eq_self, c1, kd_b ho, in7, e2, w7, hC, kC, ct]
          · unfold f_X8_odds
            simp (disch := omega) only [chk_t, beq_self_eq_true, nm_s, bj1_s, bj2_s, bj3_s, mo_1, mo_0, l_0, l_1, l_2, l_3, l_4, l_5, l_6, l_7, l_8, l_9, l_10, l_11, l_12, l_13, l_14, l_15, l_16, l_17, l_18, l_19, l_20, l_21, l_30, l_31, l_32, l_36, l_40, l_41, l_42, l_43, l_44, l_45, l_46, l_47, l_48, l_49, l_50, l_51, l_52, l_57, l_58, l_60, l_64, l_72, l_80, l_92, l_98, l_99, l_100, l_102, l_105, l_111, l_112, l_114, l_115, l_116, l_117, l_120, l_144, l_200, l_201, l_240, l_300, l_320, l_400, l_500, l_550, l_560, l_649, l_650, l_1000, l_1400, l_2000, l_4000, l_10000, iN_add, iN_sub, iN_mul, iN_le_t, iN_le_f, iN_lt_t, iN_lt_f, iN_eq_f, inb_iN, ix_iN, isZ_0, isZ_1, ↓reduceIte, eq_self, row8, e1, place8, e2, m1, m4, e9, kM, i64, mt]

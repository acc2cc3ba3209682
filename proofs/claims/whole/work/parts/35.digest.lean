/-! digest -/
def hj (h : Int64) (G : G_) : G_ := sJ G 124 30 h
theorem hj_1 {h : Int64} {G : G_} : (hj h G).1 = G.1 := rfl
theorem hj_h {h : Int64} {G : G_} : (hj h G).2 124 30 = h := by
  show u2 G.2 124 30 h 124 30 = h
  rw [u2_eq, if_pos rfl, if_pos rfl]
theorem hj_hj {h h' : Int64} {G : G_} : hj h (hj h' G) = hj h G := by
  refine Prod.ext rfl ?_
  funext q i
  show u2 (u2 G.2 124 30 h') 124 30 h q i = u2 G.2 124 30 h q i
  simp only [u2_eq]
  by_cases e : q = 124
  · simp only [if_pos e]
    by_cases e2 : i = 30
    · simp only [if_pos e2]
    · simp only [if_neg e2]
  · simp only [if_neg e]
theorem mix_ok {a h : Int64} {G : G_} : f_X8_mix a (hj h G) = some (hj (31 * h + a) G) := by
  unfold f_X8_mix
  rw [hj_h]
  show some (hj (31 * h + a) (hj h G)) = _
  rw [hj_hj]
def itL (s : Nat → Int64 → Int64) : Nat → Int64 → Int64
  | 0, h => h
  | n + 1, h => s n (itL s n h)
theorem loop_it (L : Nat → Int64 → Int32 → Option Int64) (s : Nat → Int64 → Int64) (b : Nat) (h0 : Int64)
    (step : ∀ n k h, k < b → L (n + 1) h (iN k) = L n (s k h) (iN (k + 1))) (done : ∀ n h, L (n + 1) h (iN b) = some h) {n : Nat} (hb : b < n) : L n h0 (iN 0) = some (itL s b h0) := by
  have key := loop_cl (fun n v h => L n h v) (fun j => itL s j h0) 0 b (some (itL s b h0)) (fun n k _ h => step n k _ h) (fun n => done n _) (Nat.zero_le b) (n := n) (by omega)
  exact key
theorem loop_ih (L : Nat → Int32 → G_ → Option G_) (s : Nat → Int64 → Int64) (b : Nat) (h0 : Int64) (B : G_)
    (step : ∀ n k h, k < b → L (n + 1) (iN k) (hj h B) = L n (iN (k + 1)) (hj (s k h) B)) (done : ∀ n h, L (n + 1) (iN b) (hj h B) = some (hj h B)) {n : Nat} (hb : b < n) : L n (iN 0) (hj h0 B) = some (hj (itL s b h0) B) := by
  have key := loop_cl L (fun j => hj (itL s j h0) B) 0 b (some (hj (itL s b h0) B)) (fun n k _ h => step n k _ h) (fun n => done n _) (Nat.zero_le b) (n := n) (by omega)
  exact key
def dg1 (G : G_) (w : Nat) (h : Int64) : Int64 := 31 * h + (cntS w G).toInt64
def dg2 (G : G_) (k : Nat) (h : Int64) : Int64 := if G.1 131 k = iN 0 then 31 * h + -1 else itL (fun j h => 31 * h + (G.1 132 (4 * k + j)).toInt64) 4 h
def dg3 (G : G_) (k : Nat) (h : Int64) : Int64 := if G.1 133 k = iN 0 then 31 * h + -1 else itL (fun i h => 31 * (31 * h + (G.1 135 (36 * k + 3 * i)).toInt64) + (iN 100 * G.1 135 (36 * k + 3 * i + 1) + G.1 135 (36 * k + 3 * i + 2)).toInt64) (ix (G.1 134 k)) h
def dg4 (D : Nat → Int32) (h : Int64) : Int64 := itL (fun s h => itL (fun w h => 31 * h + (skinS s w D).toInt64) 4 h) 2 (itL (fun i h => itL (fun w h => 31 * h + (D (52 + 20 * w + i)).toInt64) 3 h) (nD D) h)
def dg5 (G : G_) (r : Nat) (h : Int64) : Int64 := itL (fun i h => 31 * h + (G.1 127 (40 * r + i)).toInt64) (ix (G.1 126 r)) (31 * h + (G.1 126 r).toInt64)
def dg6 (G : G_) (t : Nat) (h : Int64) : Int64 := itL (fun i h => 31 * h + (G.1 130 (80 * t + i)).toInt64) (ix (G.1 129 t)) (31 * h + (G.1 129 t).toInt64)
def digS (G : G_) : Int64 := itL (dg6 G) 4 (itL (dg5 G) 6 ((if G.1 138 0 = iN 0 then fun h => 31 * h + -1 else dg4 (DM 0 G)) (itL (dg3 G) 4 (itL (dg2 G) 4 (itL (dg1 G) 8 17)))))
theorem sub_m1 (a : Int64) : a - 1 = a + -1 := Int64.sub_eq_add_neg a 1
theorem sz_N {b : Nat} {s : Int32} (h : szR b s) (hb : b ≤ 1000) : ∃ z, z ≤ b ∧ ix s = z ∧ ∀ k, k ≤ 1000 → ((s ≤ iN k) = True ↔ z ≤ k) := by
  rcases h with rfl | ⟨z, hz, rfl⟩
  · refine ⟨0, by omega, rfl, fun k hk => ⟨fun _ => by omega, fun _ => eq_true (t_le.mpr (by rw [li (by omega), show (-iN 1).toInt = -1 from by decide]; omega))⟩⟩
  · refine ⟨z, hz, ix_iN (by omega), fun k hk => ⟨fun e => ?_, fun e => iN_le_t e (by omega)⟩⟩
    exact (iN_le (by omega) (by omega)).mp (of_eq_true e)
theorem value_t {o z i : Nat} {G : G_} (ho : kd o = 4) (hz : G.1 o 1 = iN z) (h40 : z ≤ 40) (hi : i < z) : f_X4_value o (iN i) G = some (G.1 (o + 1) i) := by
  rcases rhas_cases ho hz h40 (iN i) with ⟨c, c2⟩ | ⟨k, hk, ek, c, c2⟩
  · rw [iN_sub (by omega), inS_t (by omega) (by omega)] at c2
    exact absurd c2 (by decide)
  · have ek := (iN_inj (by omega) (by omega)).mp ek
    subst ek
    unfold f_X4_value
    simp (disch := omega) only [chk_t, beq_self_eq_true, nm_s, bj1_s, bj2_s, bj3_s, mo_1, mo_0, l_0, l_1, l_2, l_3, l_4, l_5, l_6, l_7, l_8, l_9, l_10, l_11, l_12, l_13, l_14, l_15, l_16, l_17, l_18, l_19, l_20, l_21, l_30, l_31, l_32, l_36, l_40, l_41, l_42, l_43, l_44, l_45, l_46, l_47, l_48, l_49, l_50, l_51, l_52, l_57, l_58, l_60, l_64, l_72, l_80, l_92, l_98, l_99, l_100, l_102, l_105, l_111, l_112, l_114, l_115, l_116, l_117, l_120, l_144, l_200, l_201, l_240, l_300, l_320, l_400, l_500, l_550, l_560, l_649, l_650, l_1000, l_1400, l_2000, l_4000, l_10000, iN_add, iN_sub, iN_mul, iN_le_t, iN_le_f, iN_lt_t, iN_lt_f, iN_eq_f, inb_iN, ix_iN, isZ_0, isZ_1, ↓reduceIte, eq_self, kd_b ho, c]
theorem tvalue_t {o z i : Nat} {G : G_} (ho : kd o = 6) (hz : G.1 o 1 = iN z) (h40 : z ≤ 80) (hi : i < z) : f_X6_value o (iN i) G = some (G.1 (o + 1) i) := by
  rcases thas_cases ho hz h40 (iN i) with ⟨c, c2⟩ | ⟨k, hk, ek, c, c2⟩
  · rw [iN_sub (by omega), inS_t (by omega) (by omega)] at c2
    exact absurd c2 (by decide)
  · have ek := (iN_inj (by omega) (by omega)).mp ek
    subst ek
    unfold f_X6_value
    simp (disch := omega) only [chk_t, beq_self_eq_true, nm_s, bj1_s, bj2_s, bj3_s, mo_1, mo_0, l_0, l_1, l_2, l_3, l_4, l_5, l_6, l_7, l_8, l_9, l_10, l_11, l_12, l_13, l_14, l_15, l_16, l_17, l_18, l_19, l_20, l_21, l_30, l_31, l_32, l_36, l_40, l_41, l_42, l_43, l_44, l_45, l_46, l_47, l_48, l_49, l_50, l_51, l_52, l_57, l_58, l_60, l_64, l_72, l_80, l_92, l_98, l_99, l_100, l_102, l_105, l_111, l_112, l_114, l_115, l_116, l_117, l_120, l_144, l_200, l_201, l_240, l_300, l_320, l_400, l_500, l_550, l_560, l_649, l_650, l_1000, l_1400, l_2000, l_4000, l_10000, iN_add, iN_sub, iN_mul, iN_le_t, iN_le_f, iN_lt_t, iN_lt_f, iN_eq_f, inb_iN, ix_iN, isZ_0, isZ_1, ↓reduceIte, eq_self, kd_b ho, c]
theorem dT (D : Nat → Int32) {n i w : Nat} {G : G_} {o : Nat} (ho : kd o = 0) (hn : okN D n) (hc : cD o D G) (hi : i < n) (hw : w < 3) : f_X0_depthTells o (iN i) (iN w) G = some (D (52 + 20 * w + i)) := by
  have hw' : w = 0 ∨ w = 1 ∨ w = 2 := by omega
  unfold f_X0_depthTells
  rcases hw' with rfl | rfl | rfl
  · simp (disch := omega) only [chk_t, beq_self_eq_true, nm_s, bj1_s, bj2_s, bj3_s, mo_1, mo_0, l_0, l_1, l_2, l_3, l_4, l_5, l_6, l_7, l_8, l_9, l_10, l_11, l_12, l_13, l_14, l_15, l_16, l_17, l_18, l_19, l_20, l_21, l_30, l_31, l_32, l_36, l_40, l_41, l_42, l_43, l_44, l_45, l_46, l_47, l_48, l_49, l_50, l_51, l_52, l_57, l_58, l_60, l_64, l_72, l_80, l_92, l_98, l_99, l_100, l_102, l_105, l_111, l_112, l_114, l_115, l_116, l_117, l_120, l_144, l_200, l_201, l_240, l_300, l_320, l_400, l_500, l_550, l_560, l_649, l_650, l_1000, l_1400, l_2000, l_4000, l_10000, iN_add, iN_sub, iN_mul, iN_le_t, iN_le_f, iN_lt_t, iN_lt_f, iN_eq_f, inb_iN, ix_iN, isZ_0, isZ_1, ↓reduceIte, eq_self, kd_b ho, warmthAt_ok ho hn hc hi]
  · simp (disch := omega) only [chk_t, beq_self_eq_true, nm_s, bj1_s, bj2_s, bj3_s, mo_1, mo_0, l_0, l_1, l_2, l_3, l_4, l_5, l_6, l_7, l_8, l_9, l_10, l_11, l_12, l_13, l_14, l_15, l_16, l_17, l_18, l_19, l_20, l_21, l_30, l_31, l_32, l_36, l_40, l_41, l_42, l_43, l_44, l_45, l_46, l_47, l_48, l_49, l_50, l_51, l_52, l_57, l_58, l_60, l_64, l_72, l_80, l_92, l_98, l_99, l_100, l_102, l_105, l_111, l_112, l_114, l_115, l_116, l_117, l_120, l_144, l_200, l_201, l_240, l_300, l_320, l_400, l_500, l_550, l_560, l_649, l_650, l_1000, l_1400, l_2000, l_4000, l_10000, iN_add, iN_sub, iN_mul, iN_le_t, iN_le_f, iN_lt_t, iN_lt_f, iN_eq_f, inb_iN, ix_iN, isZ_0, isZ_1, ↓reduceIte, eq_self, kd_b ho, mostAt_ok ho hn hc hi]
  · simp (disch := omega) only [chk_t, beq_self_eq_true, nm_s, bj1_s, bj2_s, bj3_s, mo_1, mo_0, l_0, l_1, l_2, l_3, l_4, l_5, l_6, l_7, l_8, l_9, l_10, l_11, l_12, l_13, l_14, l_15, l_16, l_17, l_18, l_19, l_20, l_21, l_30, l_31, l_32, l_36, l_40, l_41, l_42, l_43, l_44, l_45, l_46, l_47, l_48, l_49, l_50, l_51, l_52, l_57, l_58, l_60, l_64, l_72, l_80, l_92, l_98, l_99, l_100, l_102, l_105, l_111, l_112, l_114, l_115, l_116, l_117, l_120, l_144, l_200, l_201, l_240, l_300, l_320, l_400, l_500, l_550, l_560, l_649, l_650, l_1000, l_1400, l_2000, l_4000, l_10000, iN_add, iN_sub, iN_mul, iN_le_t, iN_le_f, iN_lt_t, iN_lt_f, iN_eq_f, inb_iN, ix_iN, isZ_0, isZ_1, ↓reduceIte, eq_self, kd_b ho, juiceAt_ok ho hn hc hi]
theorem dTm {i w : Nat} {G : G_} (hi : i < 20) (hw : w < 3) : f_X8_depthTells (iN i) (iN w) (LG 0 G) = some (DM 0 G (52 + 20 * w + i)) := by
  have hw' : w = 0 ∨ w = 1 ∨ w = 2 := by omega
  unfold f_X8_depthTells
  rcases hw' with rfl | rfl | rfl <;> simp (disch := omega) only [chk_t, beq_self_eq_true, nm_s, bj1_s, bj2_s, bj3_s, mo_1, mo_0, l_0, l_1, l_2, l_3, l_4, l_5, l_6, l_7, l_8, l_9, l_10, l_11, l_12, l_13, l_14, l_15, l_16, l_17, l_18, l_19, l_20, l_21, l_30, l_31, l_32, l_36, l_40, l_41, l_42, l_43, l_44, l_45, l_46, l_47, l_48, l_49, l_50, l_51, l_52, l_57, l_58, l_60, l_64, l_72, l_80, l_92, l_98, l_99, l_100, l_102, l_105, l_111, l_112, l_114, l_115, l_116, l_117, l_120, l_144, l_200, l_201, l_240, l_300, l_320, l_400, l_500, l_550, l_560, l_649, l_650, l_1000, l_1400, l_2000, l_4000, l_10000, iN_add, iN_sub, iN_mul, iN_le_t, iN_le_f, iN_lt_t, iN_lt_f, iN_eq_f, inb_iN, ix_iN, isZ_0, isZ_1, ↓reduceIte, eq_self, v_LG]
theorem cdig_ok {G : G_} (h : RR0 G) : f_X7_digest G = some (digS G) := by
  have hh := h
  obtain ⟨h1, h2, h3, h4, h5, h6⟩ := h
  have k1 : ∀ h0, f_X7_digest_l6_3 G FU h0 (iN 0) = some (itL (dg1 G) 8 h0) := by
    intro h0
    refine loop_it (fun n h v => f_X7_digest_l6_3 G n h v) _ 8 h0 ?_ ?_ (fu_lt (by omega))
    · intro f k h hk
      show f_X7_digest_l6_3 G (f + 1) h (iN k) = f_X7_digest_l6_3 G f (31 * h + (cntS k G).toInt64) (iN (k + 1))
      conv => lhs; unfold f_X7_digest_l6_3
      simp (disch := omega) only [chk_t, beq_self_eq_true, nm_s, bj1_s, bj2_s, bj3_s, mo_1, mo_0, l_0, l_1, l_2, l_3, l_4, l_5, l_6, l_7, l_8, l_9, l_10, l_11, l_12, l_13, l_14, l_15, l_16, l_17, l_18, l_19, l_20, l_21, l_30, l_31, l_32, l_36, l_40, l_41, l_42, l_43, l_44, l_45, l_46, l_47, l_48, l_49, l_50, l_51, l_52, l_57, l_58, l_60, l_64, l_72, l_80, l_92, l_98, l_99, l_100, l_102, l_105, l_111, l_112, l_114, l_115, l_116, l_117, l_120, l_144, l_200, l_201, l_240, l_300, l_320, l_400, l_500, l_550, l_560, l_649, l_650, l_1000, l_1400, l_2000, l_4000, l_10000, iN_add, iN_sub, iN_mul, iN_le_t, iN_le_f, iN_lt_t, iN_lt_f, iN_eq_f, inb_iN, ix_iN, isZ_0, isZ_1, ↓reduceIte, eq_self, ccount_ok (show k ≤ 7 by omega) hh]
    · intro f h
      show f_X7_digest_l6_3 G (f + 1) h (iN 8) = _
      unfold f_X7_digest_l6_3
      simp (disch := omega) only [chk_t, beq_self_eq_true, nm_s, bj1_s, bj2_s, bj3_s, mo_1, mo_0, l_0, l_1, l_2, l_3, l_4, l_5, l_6, l_7, l_8, l_9, l_10, l_11, l_12, l_13, l_14, l_15, l_16, l_17, l_18, l_19, l_20, l_21, l_30, l_31, l_32, l_36, l_40, l_41, l_42, l_43, l_44, l_45, l_46, l_47, l_48, l_49, l_50, l_51, l_52, l_57, l_58, l_60, l_64, l_72, l_80, l_92, l_98, l_99, l_100, l_102, l_105, l_111, l_112, l_114, l_115, l_116, l_117, l_120, l_144, l_200, l_201, l_240, l_300, l_320, l_400, l_500, l_550, l_560, l_649, l_650, l_1000, l_1400, l_2000, l_4000, l_10000, iN_add, iN_sub, iN_mul, iN_le_t, iN_le_f, iN_lt_t, iN_lt_f, iN_eq_f, inb_iN, ix_iN, isZ_0, isZ_1, ↓reduceIte, eq_self]
  have k2 : ∀ h0, f_X7_digest_l43_9 G FU h0 (iN 0) = some (itL (dg2 G) 4 h0) := by
    intro h0
    refine loop_it (fun n h v => f_X7_digest_l43_9 G n h v) _ 4 h0 ?_ ?_ (fu_lt (by omega))
    · intro f k h hk
      obtain ⟨p1, p2⟩ := rsk k hk
      obtain ⟨r1, r2, r3⟩ := h3 k hk
      have hd : f_X5_digestOn (71 + k) h G = some (dg2 G k h) := by
        unfold f_X5_digestOn dg2
        rcases r2 with r2 | ⟨r2, -⟩
        · simp (disch := omega) only [chk_t, beq_self_eq_true, nm_s, bj1_s, bj2_s, bj3_s, mo_1, mo_0, l_0, l_1, l_2, l_3, l_4, l_5, l_6, l_7, l_8, l_9, l_10, l_11, l_12, l_13, l_14, l_15, l_16, l_17, l_18, l_19, l_20, l_21, l_30, l_31, l_32, l_36, l_40, l_41, l_42, l_43, l_44, l_45, l_46, l_47, l_48, l_49, l_50, l_51, l_52, l_57, l_58, l_60, l_64, l_72, l_80, l_92, l_98, l_99, l_100, l_102, l_105, l_111, l_112, l_114, l_115, l_116, l_117, l_120, l_144, l_200, l_201, l_240, l_300, l_320, l_400, l_500, l_550, l_560, l_649, l_650, l_1000, l_1400, l_2000, l_4000, l_10000, iN_add, iN_sub, iN_mul, iN_le_t, iN_le_f, iN_lt_t, iN_lt_f, iN_eq_f, inb_iN, ix_iN, isZ_0, isZ_1, ↓reduceIte, eq_self, kd_b p2, r1, r2, sub_m1]
        · have e10 : (iN 1 = iN 0) = False := iN_eq_f (by omega) (by omega) (by omega)
          have inner : f_X5_digestOn_l20_3 (71 + k) G FU h (iN 0) = some (itL (fun j h => 31 * h + (G.1 132 (4 * k + j)).toInt64) 4 h) := by
            refine loop_it (fun n h v => f_X5_digestOn_l20_3 (71 + k) G n h v) _ 4 h ?_ ?_ (fu_lt (by omega))
            · intro f w h hw
              have ev : f_X5_tells (71 + k) (iN w) G = some (G.1 132 (4 * k + w)) := by
                obtain ⟨s0, s1, s2, s3⟩ := r3
                have hw : w = 0 ∨ w = 1 ∨ w = 2 ∨ w = 3 := by omega
                unfold f_X5_tells
                rcases hw with rfl | rfl | rfl | rfl
                · simp (disch := omega) only [chk_t, beq_self_eq_true, nm_s, bj1_s, bj2_s, bj3_s, mo_1, mo_0, l_0, l_1, l_2, l_3, l_4, l_5, l_6, l_7, l_8, l_9, l_10, l_11, l_12, l_13, l_14, l_15, l_16, l_17, l_18, l_19, l_20, l_21, l_30, l_31, l_32, l_36, l_40, l_41, l_42, l_43, l_44, l_45, l_46, l_47, l_48, l_49, l_50, l_51, l_52, l_57, l_58, l_60, l_64, l_72, l_80, l_92, l_98, l_99, l_100, l_102, l_105, l_111, l_112, l_114, l_115, l_116, l_117, l_120, l_144, l_200, l_201, l_240, l_300, l_320, l_400, l_500, l_550, l_560, l_649, l_650, l_1000, l_1400, l_2000, l_4000, l_10000, iN_add, iN_sub, iN_mul, iN_le_t, iN_le_f, iN_lt_t, iN_lt_f, iN_eq_f, inb_iN, ix_iN, isZ_0, isZ_1, ↓reduceIte, eq_self, kd_b p2]
                  rw [s0]
                  rfl
                · simp (disch := omega) only [chk_t, beq_self_eq_true, nm_s, bj1_s, bj2_s, bj3_s, mo_1, mo_0, l_0, l_1, l_2, l_3, l_4, l_5, l_6, l_7, l_8, l_9, l_10, l_11, l_12, l_13, l_14, l_15, l_16, l_17, l_18, l_19, l_20, l_21, l_30, l_31, l_32, l_36, l_40, l_41, l_42, l_43, l_44, l_45, l_46, l_47, l_48, l_49, l_50, l_51, l_52, l_57, l_58, l_60, l_64, l_72, l_80, l_92, l_98, l_99, l_100, l_102, l_105, l_111, l_112, l_114, l_115, l_116, l_117, l_120, l_144, l_200, l_201, l_240, l_300, l_320, l_400, l_500, l_550, l_560, l_649, l_650, l_1000, l_1400, l_2000, l_4000, l_10000, iN_add, iN_sub, iN_mul, iN_le_t, iN_le_f, iN_lt_t, iN_lt_f, iN_eq_f, inb_iN, ix_iN, isZ_0, isZ_1, ↓reduceIte, eq_self, kd_b p2]
                  rw [s1]
                  rfl
                · simp (disch := omega) only [chk_t, beq_self_eq_true, nm_s, bj1_s, bj2_s, bj3_s, mo_1, mo_0, l_0, l_1, l_2, l_3, l_4, l_5, l_6, l_7, l_8, l_9, l_10, l_11, l_12, l_13, l_14, l_15, l_16, l_17, l_18, l_19, l_20, l_21, l_30, l_31, l_32, l_36, l_40, l_41, l_42, l_43, l_44, l_45, l_46, l_47, l_48, l_49, l_50, l_51, l_52, l_57, l_58, l_60, l_64, l_72, l_80, l_92, l_98, l_99, l_100, l_102, l_105, l_111, l_112, l_114, l_115, l_116, l_117, l_120, l_144, l_200, l_201, l_240, l_300, l_320, l_400, l_500, l_550, l_560, l_649, l_650, l_1000, l_1400, l_2000, l_4000, l_10000, iN_add, iN_sub, iN_mul, iN_le_t, iN_le_f, iN_lt_t, iN_lt_f, iN_eq_f, inb_iN, ix_iN, isZ_0, isZ_1, ↓reduceIte, eq_self, kd_b p2]
                  rw [s2]
                  rfl
                · simp (disch := omega) only [chk_t, beq_self_eq_true, nm_s, bj1_s, bj2_s, bj3_s, mo_1, mo_0, l_0, l_1, l_2, l_3, l_4, l_5, l_6, l_7, l_8, l_9, l_10, l_11, l_12, l_13, l_14, l_15, l_16, l_17, l_18, l_19, l_20, l_21, l_30, l_31, l_32, l_36, l_40, l_41, l_42, l_43, l_44, l_45, l_46, l_47, l_48, l_49, l_50, l_51, l_52, l_57, l_58, l_60, l_64, l_72, l_80, l_92, l_98, l_99, l_100, l_102, l_105, l_111, l_112, l_114, l_115, l_116, l_117, l_120, l_144, l_200, l_201, l_240, l_300, l_320, l_400, l_500, l_550, l_560, l_649, l_650, l_1000, l_1400, l_2000, l_4000, l_10000, iN_add, iN_sub, iN_mul, iN_le_t, iN_le_f, iN_lt_t, iN_lt_f, iN_eq_f, inb_iN, ix_iN, isZ_0, isZ_1, ↓reduceIte, eq_self, kd_b p2]
                  rw [s3]
                  rfl
              show f_X5_digestOn_l20_3 (71 + k) G (f + 1) h (iN w) = f_X5_digestOn_l20_3 (71 + k) G f (31 * h + (G.1 132 (4 * k + w)).toInt64) (iN (w + 1))
              conv => lhs; unfold f_X5_digestOn_l20_3
              simp (disch := omega) only [chk_t, beq_self_eq_true, nm_s, bj1_s, bj2_s, bj3_s, mo_1, mo_0, l_0, l_1, l_2, l_3, l_4, l_5, l_6, l_7, l_8, l_9, l_10, l_11, l_12, l_13, l_14, l_15, l_16, l_17, l_18, l_19, l_20, l_21, l_30, l_31, l_32, l_36, l_40, l_41, l_42, l_43, l_44, l_45, l_46, l_47, l_48, l_49, l_50, l_51, l_52, l_57, l_58, l_60, l_64, l_72, l_80, l_92, l_98, l_99, l_100, l_102, l_105, l_111, l_112, l_114, l_115, l_116, l_117, l_120, l_144, l_200, l_201, l_240, l_300, l_320, l_400, l_500, l_550, l_560, l_649, l_650, l_1000, l_1400, l_2000, l_4000, l_10000, iN_add, iN_sub, iN_mul, iN_le_t, iN_le_f, iN_lt_t, iN_lt_f, iN_eq_f, inb_iN, ix_iN, isZ_0, isZ_1, ↓reduceIte, eq_self, ev]
            · intro f h
              show f_X5_digestOn_l20_3 (71 + k) G (f + 1) h (iN 4) = _
              unfold f_X5_digestOn_l20_3
              simp (disch := omega) only [chk_t, beq_self_eq_true, nm_s, bj1_s, bj2_s, bj3_s, mo_1, mo_0, l_0, l_1, l_2, l_3, l_4, l_5, l_6, l_7, l_8, l_9, l_10, l_11, l_12, l_13, l_14, l_15, l_16, l_17, l_18, l_19, l_20, l_21, l_30, l_31, l_32, l_36, l_40, l_41, l_42, l_43, l_44, l_45, l_46, l_47, l_48, l_49, l_50, l_51, l_52, l_57, l_58, l_60, l_64, l_72, l_80, l_92, l_98, l_99, l_100, l_102, l_105, l_111, l_112, l_114, l_115, l_116, l_117, l_120, l_144, l_200, l_201, l_240, l_300, l_320, l_400, l_500, l_550, l_560, l_649, l_650, l_1000, l_1400, l_2000, l_4000, l_10000, iN_add, iN_sub, iN_mul, iN_le_t, iN_le_f, iN_lt_t, iN_lt_f, iN_eq_f, inb_iN, ix_iN, isZ_0, isZ_1, ↓reduceIte, eq_self]
          simp (disch := omega) only [chk_t, beq_self_eq_true, nm_s, bj1_s, bj2_s, bj3_s, mo_1, mo_0, l_0, l_1, l_2, l_3, l_4, l_5, l_6, l_7, l_8, l_9, l_10, l_11, l_12, l_13, l_14, l_15, l_16, l_17, l_18, l_19, l_20, l_21, l_30, l_31, l_32, l_36, l_40, l_41, l_42, l_43, l_44, l_45, l_46, l_47, l_48, l_49, l_50, l_51, l_52, l_57, l_58, l_60, l_64, l_72, l_80, l_92, l_98, l_99, l_100, l_102, l_105, l_111, l_112, l_114, l_115, l_116, l_117, l_120, l_144, l_200, l_201, l_240, l_300, l_320, l_400, l_500, l_550, l_560, l_649, l_650, l_1000, l_1400, l_2000, l_4000, l_10000, iN_add, iN_sub, iN_mul, iN_le_t, iN_le_f, iN_lt_t, iN_lt_f, iN_eq_f, inb_iN, ix_iN, isZ_0, isZ_1, ↓reduceIte, eq_self, kd_b p2, r1, r2, inner]
      show f_X7_digest_l43_9 G (f + 1) h (iN k) = f_X7_digest_l43_9 G f (dg2 G k h) (iN (k + 1))
      conv => lhs; unfold f_X7_digest_l43_9
      simp (disch := omega) only [chk_t, beq_self_eq_true, nm_s, bj1_s, bj2_s, bj3_s, mo_1, mo_0, l_0, l_1, l_2, l_3, l_4, l_5, l_6, l_7, l_8, l_9, l_10, l_11, l_12, l_13, l_14, l_15, l_16, l_17, l_18, l_19, l_20, l_21, l_30, l_31, l_32, l_36, l_40, l_41, l_42, l_43, l_44, l_45, l_46, l_47, l_48, l_49, l_50, l_51, l_52, l_57, l_58, l_60, l_64, l_72, l_80, l_92, l_98, l_99, l_100, l_102, l_105, l_111, l_112, l_114, l_115, l_116, l_117, l_120, l_144, l_200, l_201, l_240, l_300, l_320, l_400, l_500, l_550, l_560, l_649, l_650, l_1000, l_1400, l_2000, l_4000, l_10000, iN_add, iN_sub, iN_mul, iN_le_t, iN_le_f, iN_lt_t, iN_lt_f, iN_eq_f, inb_iN, ix_iN, isZ_0, isZ_1, ↓reduceIte, eq_self, p1, kd_b p2, hd]
    · intro f h
      show f_X7_digest_l43_9 G (f + 1) h (iN 4) = _
      unfold f_X7_digest_l43_9
      simp (disch := omega) only [chk_t, beq_self_eq_true, nm_s, bj1_s, bj2_s, bj3_s, mo_1, mo_0, l_0, l_1, l_2, l_3, l_4, l_5, l_6, l_7, l_8, l_9, l_10, l_11, l_12, l_13, l_14, l_15, l_16, l_17, l_18, l_19, l_20, l_21, l_30, l_31, l_32, l_36, l_40, l_41, l_42, l_43, l_44, l_45, l_46, l_47, l_48, l_49, l_50, l_51, l_52, l_57, l_58, l_60, l_64, l_72, l_80, l_92, l_98, l_99, l_100, l_102, l_105, l_111, l_112, l_114, l_115, l_116, l_117, l_120, l_144, l_200, l_201, l_240, l_300, l_320, l_400, l_500, l_550, l_560, l_649, l_650, l_1000, l_1400, l_2000, l_4000, l_10000, iN_add, iN_sub, iN_mul, iN_le_t, iN_le_f, iN_lt_t, iN_lt_f, iN_eq_f, inb_iN, ix_iN, isZ_0, isZ_1, ↓reduceIte, eq_self]
  have k3 : ∀ h0, f_X7_digest_l90_18 G FU h0 (iN 0) = some (itL (dg3 G) 4 h0) := by
    intro h0
    refine loop_it (fun n h v => f_X7_digest_l90_18 G n h v) _ 4 h0 ?_ ?_ (fu_lt (by omega))
    · intro f k h hk
      obtain ⟨p1, p2⟩ := rpk k hk
      obtain ⟨r1, r2, r3⟩ := h4 k hk
      have hd : f_X2_digestOn (75 + 4 * k) h G = some (dg3 G k h) := by
        unfold f_X2_digestOn dg3
        rcases r2 with r2 | ⟨r2, mm, hp⟩
        · simp (disch := omega) only [chk_t, beq_self_eq_true, nm_s, bj1_s, bj2_s, bj3_s, mo_1, mo_0, l_0, l_1, l_2, l_3, l_4, l_5, l_6, l_7, l_8, l_9, l_10, l_11, l_12, l_13, l_14, l_15, l_16, l_17, l_18, l_19, l_20, l_21, l_30, l_31, l_32, l_36, l_40, l_41, l_42, l_43, l_44, l_45, l_46, l_47, l_48, l_49, l_50, l_51, l_52, l_57, l_58, l_60, l_64, l_72, l_80, l_92, l_98, l_99, l_100, l_102, l_105, l_111, l_112, l_114, l_115, l_116, l_117, l_120, l_144, l_200, l_201, l_240, l_300, l_320, l_400, l_500, l_550, l_560, l_649, l_650, l_1000, l_1400, l_2000, l_4000, l_10000, iN_add, iN_sub, iN_mul, iN_le_t, iN_le_f, iN_lt_t, iN_lt_f, iN_eq_f, inb_iN, ix_iN, isZ_0, isZ_1, ↓reduceIte, eq_self, kd_b p2, r1, r2, sub_m1]
        · have hm := hp.2.1
          have e4 : G.1 134 k = iN mm := hp.1
          have hc : G.1 (75 + 4 * k) 4 = iN mm := (r3 r2).1.trans hp.1
          have eI : ix (G.1 134 k) = mm := by rw [e4, ix_iN (by omega)]
          rw [eI]
          have inner : f_X2_digestOn_l20_3 (75 + 4 * k) G FU h (iN 0) = some (itL (fun i h => 31 * (31 * h + (G.1 135 (36 * k + 3 * i)).toInt64) + (iN 100 * G.1 135 (36 * k + 3 * i + 1) + G.1 135 (36 * k + 3 * i + 2)).toInt64) mm h) := by
            refine loop_it (fun n h v => f_X2_digestOn_l20_3 (75 + 4 * k) G n h v) _ mm h ?_ ?_ (fu_lt (by omega))
            · intro f i h hi
              have hs := (r3 r2).2.2 i (by rw [mD_N hp.1 hm]; exact hi)
              have ep : ∀ q, q < 3 → PL k G (5 + 3 * i + q) = G.1 135 (36 * k + 3 * i + q) := fun q hq => by
                unfold PL
                rw [if_neg (by omega), show 36 * k + (5 + 3 * i + q - 5) = 36 * k + 3 * i + q by omega]
              have g0 : G.1 (75 + 4 * k + 1) i = G.1 135 (36 * k + 3 * i) := hs.1.trans (ep 0 (by omega))
              have g1 : G.1 (75 + 4 * k + 2) i = G.1 135 (36 * k + 3 * i + 1) := hs.2.1.trans (ep 1 (by omega))
              have g2 : G.1 (75 + 4 * k + 3) i = G.1 135 (36 * k + 3 * i + 2) := hs.2.2.trans (ep 2 (by omega))
              show f_X2_digestOn_l20_3 (75 + 4 * k) G (f + 1) h (iN i) = f_X2_digestOn_l20_3 (75 + 4 * k) G f (31 * (31 * h + (G.1 135 (36 * k + 3 * i)).toInt64) + (iN 100 * G.1 135 (36 * k + 3 * i + 1) + G.1 135 (36 * k + 3 * i + 2)).toInt64) (iN (i + 1))
              conv => lhs; unfold f_X2_digestOn_l20_3
              unfold f_X2_numbersAt
              simp (disch := omega) only [chk_t, beq_self_eq_true, nm_s, bj1_s, bj2_s, bj3_s, mo_1, mo_0, l_0, l_1, l_2, l_3, l_4, l_5, l_6, l_7, l_8, l_9, l_10, l_11, l_12, l_13, l_14, l_15, l_16, l_17, l_18, l_19, l_20, l_21, l_30, l_31, l_32, l_36, l_40, l_41, l_42, l_43, l_44, l_45, l_46, l_47, l_48, l_49, l_50, l_51, l_52, l_57, l_58, l_60, l_64, l_72, l_80, l_92, l_98, l_99, l_100, l_102, l_105, l_111, l_112, l_114, l_115, l_116, l_117, l_120, l_144, l_200, l_201, l_240, l_300, l_320, l_400, l_500, l_550, l_560, l_649, l_650, l_1000, l_1400, l_2000, l_4000, l_10000, iN_add, iN_sub, iN_mul, iN_le_t, iN_le_f, iN_lt_t, iN_lt_f, iN_eq_f, inb_iN, ix_iN, isZ_0, isZ_1, ↓reduceIte, eq_self, hc, kd_b p2, pkind_t p2 hc hm hi, pheat_t p2 hc hm hi, plen_t p2 hc hm hi, g0, g1, g2]
            · intro f h
              show f_X2_digestOn_l20_3 (75 + 4 * k) G (f + 1) h (iN mm) = _
              unfold f_X2_digestOn_l20_3
              simp (disch := omega) only [chk_t, beq_self_eq_true, nm_s, bj1_s, bj2_s, bj3_s, mo_1, mo_0, l_0, l_1, l_2, l_3, l_4, l_5, l_6, l_7, l_8, l_9, l_10, l_11, l_12, l_13, l_14, l_15, l_16, l_17, l_18, l_19, l_20, l_21, l_30, l_31, l_32, l_36, l_40, l_41, l_42, l_43, l_44, l_45, l_46, l_47, l_48, l_49, l_50, l_51, l_52, l_57, l_58, l_60, l_64, l_72, l_80, l_92, l_98, l_99, l_100, l_102, l_105, l_111, l_112, l_114, l_115, l_116, l_117, l_120, l_144, l_200, l_201, l_240, l_300, l_320, l_400, l_500, l_550, l_560, l_649, l_650, l_1000, l_1400, l_2000, l_4000, l_10000, iN_add, iN_sub, iN_mul, iN_le_t, iN_le_f, iN_lt_t, iN_lt_f, iN_eq_f, inb_iN, ix_iN, isZ_0, isZ_1, ↓reduceIte, eq_self, hc]
          simp (disch := omega) only [chk_t, beq_self_eq_true, nm_s, bj1_s, bj2_s, bj3_s, mo_1, mo_0, l_0, l_1, l_2, l_3, l_4, l_5, l_6, l_7, l_8, l_9, l_10, l_11, l_12, l_13, l_14, l_15, l_16, l_17, l_18, l_19, l_20, l_21, l_30, l_31, l_32, l_36, l_40, l_41, l_42, l_43, l_44, l_45, l_46, l_47, l_48, l_49, l_50, l_51, l_52, l_57, l_58, l_60, l_64, l_72, l_80, l_92, l_98, l_99, l_100, l_102, l_105, l_111, l_112, l_114, l_115, l_116, l_117, l_120, l_144, l_200, l_201, l_240, l_300, l_320, l_400, l_500, l_550, l_560, l_649, l_650, l_1000, l_1400, l_2000, l_4000, l_10000, iN_add, iN_sub, iN_mul, iN_le_t, iN_le_f, iN_lt_t, iN_lt_f, iN_eq_f, inb_iN, ix_iN, isZ_0, isZ_1, ↓reduceIte, eq_self, kd_b p2, r1, r2, inner]
      show f_X7_digest_l90_18 G (f + 1) h (iN k) = f_X7_digest_l90_18 G f (dg3 G k h) (iN (k + 1))
      conv => lhs; unfold f_X7_digest_l90_18
      simp (disch := omega) only [chk_t, beq_self_eq_true, nm_s, bj1_s, bj2_s, bj3_s, mo_1, mo_0, l_0, l_1, l_2, l_3, l_4, l_5, l_6, l_7, l_8, l_9, l_10, l_11, l_12, l_13, l_14, l_15, l_16, l_17, l_18, l_19, l_20, l_21, l_30, l_31, l_32, l_36, l_40, l_41, l_42, l_43, l_44, l_45, l_46, l_47, l_48, l_49, l_50, l_51, l_52, l_57, l_58, l_60, l_64, l_72, l_80, l_92, l_98, l_99, l_100, l_102, l_105, l_111, l_112, l_114, l_115, l_116, l_117, l_120, l_144, l_200, l_201, l_240, l_300, l_320, l_400, l_500, l_550, l_560, l_649, l_650, l_1000, l_1400, l_2000, l_4000, l_10000, iN_add, iN_sub, iN_mul, iN_le_t, iN_le_f, iN_lt_t, iN_lt_f, iN_eq_f, inb_iN, ix_iN, isZ_0, isZ_1, ↓reduceIte, eq_self, p1, kd_b p2, hd]
    · intro f h
      show f_X7_digest_l90_18 G (f + 1) h (iN 4) = _
      unfold f_X7_digest_l90_18
      simp (disch := omega) only [chk_t, beq_self_eq_true, nm_s, bj1_s, bj2_s, bj3_s, mo_1, mo_0, l_0, l_1, l_2, l_3, l_4, l_5, l_6, l_7, l_8, l_9, l_10, l_11, l_12, l_13, l_14, l_15, l_16, l_17, l_18, l_19, l_20, l_21, l_30, l_31, l_32, l_36, l_40, l_41, l_42, l_43, l_44, l_45, l_46, l_47, l_48, l_49, l_50, l_51, l_52, l_57, l_58, l_60, l_64, l_72, l_80, l_92, l_98, l_99, l_100, l_102, l_105, l_111, l_112, l_114, l_115, l_116, l_117, l_120, l_144, l_200, l_201, l_240, l_300, l_320, l_400, l_500, l_550, l_560, l_649, l_650, l_1000, l_1400, l_2000, l_4000, l_10000, iN_add, iN_sub, iN_mul, iN_le_t, iN_le_f, iN_lt_t, iN_lt_f, iN_eq_f, inb_iN, ix_iN, isZ_0, isZ_1, ↓reduceIte, eq_self]
  have k4 : ∀ h0, f_X0_digestOn (iN 5 |> fun _ => 5) h0 G = some ((if G.1 138 0 = iN 0 then fun h => 31 * h + -1 else dg4 (DM 0 G)) h0) := by
    intro h0
    show f_X0_digestOn 5 h0 G = _
    obtain ⟨d1, d2⟩ := dish0 hh
    unfold f_X0_digestOn
    rcases d2 with d2 | ⟨d2, n, mm, hg, hu, hc⟩
    · rw [if_pos d2]
      simp (disch := omega) only [chk_t, beq_self_eq_true, nm_s, bj1_s, bj2_s, bj3_s, mo_1, mo_0, l_0, l_1, l_2, l_3, l_4, l_5, l_6, l_7, l_8, l_9, l_10, l_11, l_12, l_13, l_14, l_15, l_16, l_17, l_18, l_19, l_20, l_21, l_30, l_31, l_32, l_36, l_40, l_41, l_42, l_43, l_44, l_45, l_46, l_47, l_48, l_49, l_50, l_51, l_52, l_57, l_58, l_60, l_64, l_72, l_80, l_92, l_98, l_99, l_100, l_102, l_105, l_111, l_112, l_114, l_115, l_116, l_117, l_120, l_144, l_200, l_201, l_240, l_300, l_320, l_400, l_500, l_550, l_560, l_649, l_650, l_1000, l_1400, l_2000, l_4000, l_10000, iN_add, iN_sub, iN_mul, iN_le_t, iN_le_f, iN_lt_t, iN_lt_f, iN_eq_f, inb_iN, ix_iN, isZ_0, isZ_1, ↓reduceIte, eq_self, kd_b kd5, d1, d2, sub_m1]
    · have e10 : ¬ G.1 138 0 = iN 0 := by rw [d2]; decide
      have hn := hg.1.1
      have hb := hn.2
      have e8 : G.1 5 8 = iN n := (c_8 hc).trans hn.1
      have l1 : f_X0_digestOn_l20_3 5 G FU h0 (iN 0) = some (itL (fun i h => itL (fun w h => 31 * h + (DM 0 G (52 + 20 * w + i)).toInt64) 3 h) n h0) := by
        refine loop_it (fun n h v => f_X0_digestOn_l20_3 5 G n h v) _ n h0 ?_ ?_ (fu_lt (by omega))
        · intro f i h hi
          have inner : f_X0_digestOn_l32_6 5 (iN i) G FU h (iN 0) = some (itL (fun w h => 31 * h + (DM 0 G (52 + 20 * w + i)).toInt64) 3 h) := by
            refine loop_it (fun n h v => f_X0_digestOn_l32_6 5 (iN i) G n h v) _ 3 h ?_ ?_ (fu_lt (by omega))
            · intro f w h hw
              show f_X0_digestOn_l32_6 5 (iN i) G (f + 1) h (iN w) = f_X0_digestOn_l32_6 5 (iN i) G f (31 * h + (DM 0 G (52 + 20 * w + i)).toInt64) (iN (w + 1))
              conv => lhs; unfold f_X0_digestOn_l32_6
              simp (disch := omega) only [chk_t, beq_self_eq_true, nm_s, bj1_s, bj2_s, bj3_s, mo_1, mo_0, l_0, l_1, l_2, l_3, l_4, l_5, l_6, l_7, l_8, l_9, l_10, l_11, l_12, l_13, l_14, l_15, l_16, l_17, l_18, l_19, l_20, l_21, l_30, l_31, l_32, l_36, l_40, l_41, l_42, l_43, l_44, l_45, l_46, l_47, l_48, l_49, l_50, l_51, l_52, l_57, l_58, l_60, l_64, l_72, l_80, l_92, l_98, l_99, l_100, l_102, l_105, l_111, l_112, l_114, l_115, l_116, l_117, l_120, l_144, l_200, l_201, l_240, l_300, l_320, l_400, l_500, l_550, l_560, l_649, l_650, l_1000, l_1400, l_2000, l_4000, l_10000, iN_add, iN_sub, iN_mul, iN_le_t, iN_le_f, iN_lt_t, iN_lt_f, iN_eq_f, inb_iN, ix_iN, isZ_0, isZ_1, ↓reduceIte, eq_self, dT (DM 0 G) kd5 hn hc hi hw]
            · intro f h
              show f_X0_digestOn_l32_6 5 (iN i) G (f + 1) h (iN 3) = _
              unfold f_X0_digestOn_l32_6
              simp (disch := omega) only [chk_t, beq_self_eq_true, nm_s, bj1_s, bj2_s, bj3_s, mo_1, mo_0, l_0, l_1, l_2, l_3, l_4, l_5, l_6, l_7, l_8, l_9, l_10, l_11, l_12, l_13, l_14, l_15, l_16, l_17, l_18, l_19, l_20, l_21, l_30, l_31, l_32, l_36, l_40, l_41, l_42, l_43, l_44, l_45, l_46, l_47, l_48, l_49, l_50, l_51, l_52, l_57, l_58, l_60, l_64, l_72, l_80, l_92, l_98, l_99, l_100, l_102, l_105, l_111, l_112, l_114, l_115, l_116, l_117, l_120, l_144, l_200, l_201, l_240, l_300, l_320, l_400, l_500, l_550, l_560, l_649, l_650, l_1000, l_1400, l_2000, l_4000, l_10000, iN_add, iN_sub, iN_mul, iN_le_t, iN_le_f, iN_lt_t, iN_lt_f, iN_eq_f, inb_iN, ix_iN, isZ_0, isZ_1, ↓reduceIte, eq_self]
          show f_X0_digestOn_l20_3 5 G (f + 1) h (iN i) = f_X0_digestOn_l20_3 5 G f (itL (fun w h => 31 * h + (DM 0 G (52 + 20 * w + i)).toInt64) 3 h) (iN (i + 1))
          conv => lhs; unfold f_X0_digestOn_l20_3
          simp (disch := omega) only [chk_t, beq_self_eq_true, nm_s, bj1_s, bj2_s, bj3_s, mo_1, mo_0, l_0, l_1, l_2, l_3, l_4, l_5, l_6, l_7, l_8, l_9, l_10, l_11, l_12, l_13, l_14, l_15, l_16, l_17, l_18, l_19, l_20, l_21, l_30, l_31, l_32, l_36, l_40, l_41, l_42, l_43, l_44, l_45, l_46, l_47, l_48, l_49, l_50, l_51, l_52, l_57, l_58, l_60, l_64, l_72, l_80, l_92, l_98, l_99, l_100, l_102, l_105, l_111, l_112, l_114, l_115, l_116, l_117, l_120, l_144, l_200, l_201, l_240, l_300, l_320, l_400, l_500, l_550, l_560, l_649, l_650, l_1000, l_1400, l_2000, l_4000, l_10000, iN_add, iN_sub, iN_mul, iN_le_t, iN_le_f, iN_lt_t, iN_lt_f, iN_eq_f, inb_iN, ix_iN, isZ_0, isZ_1, ↓reduceIte, eq_self, e8, inner]
        · intro f h
          show f_X0_digestOn_l20_3 5 G (f + 1) h (iN n) = _
          unfold f_X0_digestOn_l20_3
          simp (disch := omega) only [chk_t, beq_self_eq_true, nm_s, bj1_s, bj2_s, bj3_s, mo_1, mo_0, l_0, l_1, l_2, l_3, l_4, l_5, l_6, l_7, l_8, l_9, l_10, l_11, l_12, l_13, l_14, l_15, l_16, l_17, l_18, l_19, l_20, l_21, l_30, l_31, l_32, l_36, l_40, l_41, l_42, l_43, l_44, l_45, l_46, l_47, l_48, l_49, l_50, l_51, l_52, l_57, l_58, l_60, l_64, l_72, l_80, l_92, l_98, l_99, l_100, l_102, l_105, l_111, l_112, l_114, l_115, l_116, l_117, l_120, l_144, l_200, l_201, l_240, l_300, l_320, l_400, l_500, l_550, l_560, l_649, l_650, l_1000, l_1400, l_2000, l_4000, l_10000, iN_add, iN_sub, iN_mul, iN_le_t, iN_le_f, iN_lt_t, iN_lt_f, iN_eq_f, inb_iN, ix_iN, isZ_0, isZ_1, ↓reduceIte, eq_self, e8]
      have l2 : ∀ h1, f_X0_digestOn_l69_13 5 G FU h1 (iN 0) = some (itL (fun s h => itL (fun w h => 31 * h + (skinS s w (DM 0 G)).toInt64) 4 h) 2 h1) := by
        intro h1
        refine loop_it (fun n h v => f_X0_digestOn_l69_13 5 G n h v) _ 2 h1 ?_ ?_ (fu_lt (by omega))
        · intro f s h hs
          have inner : f_X0_digestOn_l78_16 5 (iN s) G FU h (iN 0) = some (itL (fun w h => 31 * h + (skinS s w (DM 0 G)).toInt64) 4 h) := by
            refine loop_it (fun n h v => f_X0_digestOn_l78_16 5 (iN s) G n h v) _ 4 h ?_ ?_ (fu_lt (by omega))
            · intro f w h hw
              show f_X0_digestOn_l78_16 5 (iN s) G (f + 1) h (iN w) = f_X0_digestOn_l78_16 5 (iN s) G f (31 * h + (skinS s w (DM 0 G)).toInt64) (iN (w + 1))
              conv => lhs; unfold f_X0_digestOn_l78_16
              simp (disch := omega) only [chk_t, beq_self_eq_true, nm_s, bj1_s, bj2_s, bj3_s, mo_1, mo_0, l_0, l_1, l_2, l_3, l_4, l_5, l_6, l_7, l_8, l_9, l_10, l_11, l_12, l_13, l_14, l_15, l_16, l_17, l_18, l_19, l_20, l_21, l_30, l_31, l_32, l_36, l_40, l_41, l_42, l_43, l_44, l_45, l_46, l_47, l_48, l_49, l_50, l_51, l_52, l_57, l_58, l_60, l_64, l_72, l_80, l_92, l_98, l_99, l_100, l_102, l_105, l_111, l_112, l_114, l_115, l_116, l_117, l_120, l_144, l_200, l_201, l_240, l_300, l_320, l_400, l_500, l_550, l_560, l_649, l_650, l_1000, l_1400, l_2000, l_4000, l_10000, iN_add, iN_sub, iN_mul, iN_le_t, iN_le_f, iN_lt_t, iN_lt_f, iN_eq_f, inb_iN, ix_iN, isZ_0, isZ_1, ↓reduceIte, eq_self, cskin_ok kd5 hc hs (show w ≤ 3 by omega)]
            · intro f h
              show f_X0_digestOn_l78_16 5 (iN s) G (f + 1) h (iN 4) = _
              unfold f_X0_digestOn_l78_16
              simp (disch := omega) only [chk_t, beq_self_eq_true, nm_s, bj1_s, bj2_s, bj3_s, mo_1, mo_0, l_0, l_1, l_2, l_3, l_4, l_5, l_6, l_7, l_8, l_9, l_10, l_11, l_12, l_13, l_14, l_15, l_16, l_17, l_18, l_19, l_20, l_21, l_30, l_31, l_32, l_36, l_40, l_41, l_42, l_43, l_44, l_45, l_46, l_47, l_48, l_49, l_50, l_51, l_52, l_57, l_58, l_60, l_64, l_72, l_80, l_92, l_98, l_99, l_100, l_102, l_105, l_111, l_112, l_114, l_115, l_116, l_117, l_120, l_144, l_200, l_201, l_240, l_300, l_320, l_400, l_500, l_550, l_560, l_649, l_650, l_1000, l_1400, l_2000, l_4000, l_10000, iN_add, iN_sub, iN_mul, iN_le_t, iN_le_f, iN_lt_t, iN_lt_f, iN_eq_f, inb_iN, ix_iN, isZ_0, isZ_1, ↓reduceIte, eq_self]
          show f_X0_digestOn_l69_13 5 G (f + 1) h (iN s) = f_X0_digestOn_l69_13 5 G f (itL (fun w h => 31 * h + (skinS s w (DM 0 G)).toInt64) 4 h) (iN (s + 1))
          conv => lhs; unfold f_X0_digestOn_l69_13
          simp (disch := omega) only [chk_t, beq_self_eq_true, nm_s, bj1_s, bj2_s, bj3_s, mo_1, mo_0, l_0, l_1, l_2, l_3, l_4, l_5, l_6, l_7, l_8, l_9, l_10, l_11, l_12, l_13, l_14, l_15, l_16, l_17, l_18, l_19, l_20, l_21, l_30, l_31, l_32, l_36, l_40, l_41, l_42, l_43, l_44, l_45, l_46, l_47, l_48, l_49, l_50, l_51, l_52, l_57, l_58, l_60, l_64, l_72, l_80, l_92, l_98, l_99, l_100, l_102, l_105, l_111, l_112, l_114, l_115, l_116, l_117, l_120, l_144, l_200, l_201, l_240, l_300, l_320, l_400, l_500, l_550, l_560, l_649, l_650, l_1000, l_1400, l_2000, l_4000, l_10000, iN_add, iN_sub, iN_mul, iN_le_t, iN_le_f, iN_lt_t, iN_lt_f, iN_eq_f, inb_iN, ix_iN, isZ_0, isZ_1, ↓reduceIte, eq_self, inner]
        · intro f h
          show f_X0_digestOn_l69_13 5 G (f + 1) h (iN 2) = _
          unfold f_X0_digestOn_l69_13
          simp (disch := omega) only [chk_t, beq_self_eq_true, nm_s, bj1_s, bj2_s, bj3_s, mo_1, mo_0, l_0, l_1, l_2, l_3, l_4, l_5, l_6, l_7, l_8, l_9, l_10, l_11, l_12, l_13, l_14, l_15, l_16, l_17, l_18, l_19, l_20, l_21, l_30, l_31, l_32, l_36, l_40, l_41, l_42, l_43, l_44, l_45, l_46, l_47, l_48, l_49, l_50, l_51, l_52, l_57, l_58, l_60, l_64, l_72, l_80, l_92, l_98, l_99, l_100, l_102, l_105, l_111, l_112, l_114, l_115, l_116, l_117, l_120, l_144, l_200, l_201, l_240, l_300, l_320, l_400, l_500, l_550, l_560, l_649, l_650, l_1000, l_1400, l_2000, l_4000, l_10000, iN_add, iN_sub, iN_mul, iN_le_t, iN_le_f, iN_lt_t, iN_lt_f, iN_eq_f, inb_iN, ix_iN, isZ_0, isZ_1, ↓reduceIte, eq_self]
      rw [if_neg e10]
      unfold dg4
      rw [okN_n hn]
      simp (disch := omega) only [chk_t, beq_self_eq_true, nm_s, bj1_s, bj2_s, bj3_s, mo_1, mo_0, l_0, l_1, l_2, l_3, l_4, l_5, l_6, l_7, l_8, l_9, l_10, l_11, l_12, l_13, l_14, l_15, l_16, l_17, l_18, l_19, l_20, l_21, l_30, l_31, l_32, l_36, l_40, l_41, l_42, l_43, l_44, l_45, l_46, l_47, l_48, l_49, l_50, l_51, l_52, l_57, l_58, l_60, l_64, l_72, l_80, l_92, l_98, l_99, l_100, l_102, l_105, l_111, l_112, l_114, l_115, l_116, l_117, l_120, l_144, l_200, l_201, l_240, l_300, l_320, l_400, l_500, l_550, l_560, l_649, l_650, l_1000, l_1400, l_2000, l_4000, l_10000, iN_add, iN_sub, iN_mul, iN_le_t, iN_le_f, iN_lt_t, iN_lt_f, iN_eq_f, inb_iN, ix_iN, isZ_0, isZ_1, ↓reduceIte, eq_self, kd_b kd5, d1, d2, l1, l2]
  have k5 : ∀ h0, f_X7_digest_l146_29 G FU h0 (iN 0) = some (itL (dg5 G) 6 h0) := by
    intro h0
    refine loop_it (fun n h v => f_X7_digest_l146_29 G n h v) _ 6 h0 ?_ ?_ (fu_lt (by omega))
    · intro f r h hr
      obtain ⟨p1, p2⟩ := rrk r hr
      obtain ⟨s1, s2, s3⟩ := h1 r hr
      have hd : f_X4_digestOn (51 + 2 * r) h G = some (dg5 G r h) := by
        unfold f_X4_digestOn dg5
        obtain ⟨z, hz, ez, ek⟩ := sz_N s2 (by omega)
        rw [ez]
        have inner : ∀ h', f_X4_digestOn_l15_3 (51 + 2 * r) G FU h' (iN 0) = some (itL (fun i h => 31 * h + (G.1 127 (40 * r + i)).toInt64) z h') := by
          intro h'
          refine loop_it (fun n h v => f_X4_digestOn_l15_3 (51 + 2 * r) G n h v) _ z h' ?_ ?_ (fu_lt (by omega))
          · intro f i h hi
            have szN : G.1 126 r = iN z := by
              rcases s2 with e | ⟨z', hz', e⟩
              · have := ez
                rw [e] at this
                have : z = 0 := this.symm
                omega
              · rw [e, ix_iN (by omega)] at ez
                rw [e, ez]
            have ev := value_t p2 (s1.trans szN) hz hi
            rw [show 51 + 2 * r + 1 = 52 + 2 * r by omega, s3 i (by omega)] at ev
            have c0 : (G.1 126 r ≤ iN i) = False := by rw [szN]; exact iN_le_f hi (by omega)
            show f_X4_digestOn_l15_3 (51 + 2 * r) G (f + 1) h (iN i) = f_X4_digestOn_l15_3 (51 + 2 * r) G f (31 * h + (G.1 127 (40 * r + i)).toInt64) (iN (i + 1))
            conv => lhs; unfold f_X4_digestOn_l15_3
            simp (disch := omega) only [chk_t, beq_self_eq_true, nm_s, bj1_s, bj2_s, bj3_s, mo_1, mo_0, l_0, l_1, l_2, l_3, l_4, l_5, l_6, l_7, l_8, l_9, l_10, l_11, l_12, l_13, l_14, l_15, l_16, l_17, l_18, l_19, l_20, l_21, l_30, l_31, l_32, l_36, l_40, l_41, l_42, l_43, l_44, l_45, l_46, l_47, l_48, l_49, l_50, l_51, l_52, l_57, l_58, l_60, l_64, l_72, l_80, l_92, l_98, l_99, l_100, l_102, l_105, l_111, l_112, l_114, l_115, l_116, l_117, l_120, l_144, l_200, l_201, l_240, l_300, l_320, l_400, l_500, l_550, l_560, l_649, l_650, l_1000, l_1400, l_2000, l_4000, l_10000, iN_add, iN_sub, iN_mul, iN_le_t, iN_le_f, iN_lt_t, iN_lt_f, iN_eq_f, inb_iN, ix_iN, isZ_0, isZ_1, ↓reduceIte, eq_self, s1, c0, ev]
          · intro f h
            have c0 : (G.1 126 r ≤ iN z) = True := (ek z (by omega)).mpr (Nat.le_refl z)
            show f_X4_digestOn_l15_3 (51 + 2 * r) G (f + 1) h (iN z) = _
            unfold f_X4_digestOn_l15_3
            simp (disch := omega) only [chk_t, beq_self_eq_true, nm_s, bj1_s, bj2_s, bj3_s, mo_1, mo_0, l_0, l_1, l_2, l_3, l_4, l_5, l_6, l_7, l_8, l_9, l_10, l_11, l_12, l_13, l_14, l_15, l_16, l_17, l_18, l_19, l_20, l_21, l_30, l_31, l_32, l_36, l_40, l_41, l_42, l_43, l_44, l_45, l_46, l_47, l_48, l_49, l_50, l_51, l_52, l_57, l_58, l_60, l_64, l_72, l_80, l_92, l_98, l_99, l_100, l_102, l_105, l_111, l_112, l_114, l_115, l_116, l_117, l_120, l_144, l_200, l_201, l_240, l_300, l_320, l_400, l_500, l_550, l_560, l_649, l_650, l_1000, l_1400, l_2000, l_4000, l_10000, iN_add, iN_sub, iN_mul, iN_le_t, iN_le_f, iN_lt_t, iN_lt_f, iN_eq_f, inb_iN, ix_iN, isZ_0, isZ_1, ↓reduceIte, eq_self, s1, c0]
        simp (disch := omega) only [chk_t, beq_self_eq_true, nm_s, bj1_s, bj2_s, bj3_s, mo_1, mo_0, l_0, l_1, l_2, l_3, l_4, l_5, l_6, l_7, l_8, l_9, l_10, l_11, l_12, l_13, l_14, l_15, l_16, l_17, l_18, l_19, l_20, l_21, l_30, l_31, l_32, l_36, l_40, l_41, l_42, l_43, l_44, l_45, l_46, l_47, l_48, l_49, l_50, l_51, l_52, l_57, l_58, l_60, l_64, l_72, l_80, l_92, l_98, l_99, l_100, l_102, l_105, l_111, l_112, l_114, l_115, l_116, l_117, l_120, l_144, l_200, l_201, l_240, l_300, l_320, l_400, l_500, l_550, l_560, l_649, l_650, l_1000, l_1400, l_2000, l_4000, l_10000, iN_add, iN_sub, iN_mul, iN_le_t, iN_le_f, iN_lt_t, iN_lt_f, iN_eq_f, inb_iN, ix_iN, isZ_0, isZ_1, ↓reduceIte, eq_self, kd_b p2, s1, inner]
      show f_X7_digest_l146_29 G (f + 1) h (iN r) = f_X7_digest_l146_29 G f (dg5 G r h) (iN (r + 1))
      conv => lhs; unfold f_X7_digest_l146_29
      simp (disch := omega) only [chk_t, beq_self_eq_true, nm_s, bj1_s, bj2_s, bj3_s, mo_1, mo_0, l_0, l_1, l_2, l_3, l_4, l_5, l_6, l_7, l_8, l_9, l_10, l_11, l_12, l_13, l_14, l_15, l_16, l_17, l_18, l_19, l_20, l_21, l_30, l_31, l_32, l_36, l_40, l_41, l_42, l_43, l_44, l_45, l_46, l_47, l_48, l_49, l_50, l_51, l_52, l_57, l_58, l_60, l_64, l_72, l_80, l_92, l_98, l_99, l_100, l_102, l_105, l_111, l_112, l_114, l_115, l_116, l_117, l_120, l_144, l_200, l_201, l_240, l_300, l_320, l_400, l_500, l_550, l_560, l_649, l_650, l_1000, l_1400, l_2000, l_4000, l_10000, iN_add, iN_sub, iN_mul, iN_le_t, iN_le_f, iN_lt_t, iN_lt_f, iN_eq_f, inb_iN, ix_iN, isZ_0, isZ_1, ↓reduceIte, eq_self, p1, kd_b p2, hd]
    · intro f h
      show f_X7_digest_l146_29 G (f + 1) h (iN 6) = _
      unfold f_X7_digest_l146_29
      simp (disch := omega) only [chk_t, beq_self_eq_true, nm_s, bj1_s, bj2_s, bj3_s, mo_1, mo_0, l_0, l_1, l_2, l_3, l_4, l_5, l_6, l_7, l_8, l_9, l_10, l_11, l_12, l_13, l_14, l_15, l_16, l_17, l_18, l_19, l_20, l_21, l_30, l_31, l_32, l_36, l_40, l_41, l_42, l_43, l_44, l_45, l_46, l_47, l_48, l_49, l_50, l_51, l_52, l_57, l_58, l_60, l_64, l_72, l_80, l_92, l_98, l_99, l_100, l_102, l_105, l_111, l_112, l_114, l_115, l_116, l_117, l_120, l_144, l_200, l_201, l_240, l_300, l_320, l_400, l_500, l_550, l_560, l_649, l_650, l_1000, l_1400, l_2000, l_4000, l_10000, iN_add, iN_sub, iN_mul, iN_le_t, iN_le_f, iN_lt_t, iN_lt_f, iN_eq_f, inb_iN, ix_iN, isZ_0, isZ_1, ↓reduceIte, eq_self]
  have k6 : ∀ h0, f_X7_digest_l193_38 G FU h0 (iN 0) = some (itL (dg6 G) 4 h0) := by
    intro h0
    refine loop_it (fun n h v => f_X7_digest_l193_38 G n h v) _ 4 h0 ?_ ?_ (fu_lt (by omega))
    · intro f r h hr
      obtain ⟨p1, p2⟩ := rtk r hr
      obtain ⟨s1, s2, s3⟩ := h2 r hr
      have hd : f_X6_digestOn (63 + 2 * r) h G = some (dg6 G r h) := by
        unfold f_X6_digestOn dg6
        obtain ⟨z, hz, ez, ek⟩ := sz_N s2 (by omega)
        rw [ez]
        have inner : ∀ h', f_X6_digestOn_l15_3 (63 + 2 * r) G FU h' (iN 0) = some (itL (fun i h => 31 * h + (G.1 130 (80 * r + i)).toInt64) z h') := by
          intro h'
          refine loop_it (fun n h v => f_X6_digestOn_l15_3 (63 + 2 * r) G n h v) _ z h' ?_ ?_ (fu_lt (by omega))
          · intro f i h hi
            have szN : G.1 129 r = iN z := by
              rcases s2 with e | ⟨z', hz', e⟩
              · have := ez
                rw [e] at this
                have : z = 0 := this.symm
                omega
              · rw [e, ix_iN (by omega)] at ez
                rw [e, ez]
            have ev := tvalue_t p2 (s1.trans szN) hz hi
            rw [show 63 + 2 * r + 1 = 64 + 2 * r by omega, s3 i (by omega)] at ev
            have c0 : (G.1 129 r ≤ iN i) = False := by rw [szN]; exact iN_le_f hi (by omega)
            show f_X6_digestOn_l15_3 (63 + 2 * r) G (f + 1) h (iN i) = f_X6_digestOn_l15_3 (63 + 2 * r) G f (31 * h + (G.1 130 (80 * r + i)).toInt64) (iN (i + 1))
            conv => lhs; unfold f_X6_digestOn_l15_3
            simp (disch := omega) only [chk_t, beq_self_eq_true, nm_s, bj1_s, bj2_s, bj3_s, mo_1, mo_0, l_0, l_1, l_2, l_3, l_4, l_5, l_6, l_7, l_8, l_9, l_10, l_11, l_12, l_13, l_14, l_15, l_16, l_17, l_18, l_19, l_20, l_21, l_30, l_31, l_32, l_36, l_40, l_41, l_42, l_43, l_44, l_45, l_46, l_47, l_48, l_49, l_50, l_51, l_52, l_57, l_58, l_60, l_64, l_72, l_80, l_92, l_98, l_99, l_100, l_102, l_105, l_111, l_112, l_114, l_115, l_116, l_117, l_120, l_144, l_200, l_201, l_240, l_300, l_320, l_400, l_500, l_550, l_560, l_649, l_650, l_1000, l_1400, l_2000, l_4000, l_10000, iN_add, iN_sub, iN_mul, iN_le_t, iN_le_f, iN_lt_t, iN_lt_f, iN_eq_f, inb_iN, ix_iN, isZ_0, isZ_1, ↓reduceIte, eq_self, s1, c0, ev]
          · intro f h
            have c0 : (G.1 129 r ≤ iN z) = True := (ek z (by omega)).mpr (Nat.le_refl z)
            show f_X6_digestOn_l15_3 (63 + 2 * r) G (f + 1) h (iN z) = _
            unfold f_X6_digestOn_l15_3
            simp (disch := omega) only [chk_t, beq_self_eq_true, nm_s, bj1_s, bj2_s, bj3_s, mo_1, mo_0, l_0, l_1, l_2, l_3, l_4, l_5, l_6, l_7, l_8, l_9, l_10, l_11, l_12, l_13, l_14, l_15, l_16, l_17, l_18, l_19, l_20, l_21, l_30, l_31, l_32, l_36, l_40, l_41, l_42, l_43, l_44, l_45, l_46, l_47, l_48, l_49, l_50, l_51, l_52, l_57, l_58, l_60, l_64, l_72, l_80, l_92, l_98, l_99, l_100, l_102, l_105, l_111, l_112, l_114, l_115, l_116, l_117, l_120, l_144, l_200, l_201, l_240, l_300, l_320, l_400, l_500, l_550, l_560, l_649, l_650, l_1000, l_1400, l_2000, l_4000, l_10000, iN_add, iN_sub, iN_mul, iN_le_t, iN_le_f, iN_lt_t, iN_lt_f, iN_eq_f, inb_iN, ix_iN, isZ_0, isZ_1, ↓reduceIte, eq_self, s1, c0]
        simp (disch := omega) only [chk_t, beq_self_eq_true, nm_s, bj1_s, bj2_s, bj3_s, mo_1, mo_0, l_0, l_1, l_2, l_3, l_4, l_5, l_6, l_7, l_8, l_9, l_10, l_11, l_12, l_13, l_14, l_15, l_16, l_17, l_18, l_19, l_20, l_21, l_30, l_31, l_32, l_36, l_40, l_41, l_42, l_43, l_44, l_45, l_46, l_47, l_48, l_49, l_50, l_51, l_52, l_57, l_58, l_60, l_64, l_72, l_80, l_92, l_98, l_99, l_100, l_102, l_105, l_111, l_112, l_114, l_115, l_116, l_117, l_120, l_144, l_200, l_201, l_240, l_300, l_320, l_400, l_500, l_550, l_560, l_649, l_650, l_1000, l_1400, l_2000, l_4000, l_10000, iN_add, iN_sub, iN_mul, iN_le_t, iN_le_f, iN_lt_t, iN_lt_f, iN_eq_f, inb_iN, ix_iN, isZ_0, isZ_1, ↓reduceIte, eq_self, kd_b p2, s1, inner]
      show f_X7_digest_l193_38 G (f + 1) h (iN r) = f_X7_digest_l193_38 G f (dg6 G r h) (iN (r + 1))
      conv => lhs; unfold f_X7_digest_l193_38
      simp (disch := omega) only [chk_t, beq_self_eq_true, nm_s, bj1_s, bj2_s, bj3_s, mo_1, mo_0, l_0, l_1, l_2, l_3, l_4, l_5, l_6, l_7, l_8, l_9, l_10, l_11, l_12, l_13, l_14, l_15, l_16, l_17, l_18, l_19, l_20, l_21, l_30, l_31, l_32, l_36, l_40, l_41, l_42, l_43, l_44, l_45, l_46, l_47, l_48, l_49, l_50, l_51, l_52, l_57, l_58, l_60, l_64, l_72, l_80, l_92, l_98, l_99, l_100, l_102, l_105, l_111, l_112, l_114, l_115, l_116, l_117, l_120, l_144, l_200, l_201, l_240, l_300, l_320, l_400, l_500, l_550, l_560, l_649, l_650, l_1000, l_1400, l_2000, l_4000, l_10000, iN_add, iN_sub, iN_mul, iN_le_t, iN_le_f, iN_lt_t, iN_lt_f, iN_eq_f, inb_iN, ix_iN, isZ_0, isZ_1, ↓reduceIte, eq_self, p1, kd_b p2, hd]
    · intro f h
      show f_X7_digest_l193_38 G (f + 1) h (iN 4) = _
      unfold f_X7_digest_l193_38
      simp (disch := omega) only [chk_t, beq_self_eq_true, nm_s, bj1_s, bj2_s, bj3_s, mo_1, mo_0, l_0, l_1, l_2, l_3, l_4, l_5, l_6, l_7, l_8, l_9, l_10, l_11, l_12, l_13, l_14, l_15, l_16, l_17, l_18, l_19, l_20, l_21, l_30, l_31, l_32, l_36, l_40, l_41, l_42, l_43, l_44, l_45, l_46, l_47, l_48, l_49, l_50, l_51, l_52, l_57, l_58, l_60, l_64, l_72, l_80, l_92, l_98, l_99, l_100, l_102, l_105, l_111, l_112, l_114, l_115, l_116, l_117, l_120, l_144, l_200, l_201, l_240, l_300, l_320, l_400, l_500, l_550, l_560, l_649, l_650, l_1000, l_1400, l_2000, l_4000, l_10000, iN_add, iN_sub, iN_mul, iN_le_t, iN_le_f, iN_lt_t, iN_lt_f, iN_eq_f, inb_iN, ix_iN, isZ_0, isZ_1, ↓reduceIte, eq_self]
  have k4' : ∀ h0, f_X0_digestOn 5 h0 G = some ((if G.1 138 0 = iN 0 then fun h => 31 * h + -1 else dg4 (DM 0 G)) h0) := k4
  unfold f_X7_digest digS
  simp (disch := omega) only [chk_t, beq_self_eq_true, nm_s, bj1_s, bj2_s, bj3_s, mo_1, mo_0, l_0, l_1, l_2, l_3, l_4, l_5, l_6, l_7, l_8, l_9, l_10, l_11, l_12, l_13, l_14, l_15, l_16, l_17, l_18, l_19, l_20, l_21, l_30, l_31, l_32, l_36, l_40, l_41, l_42, l_43, l_44, l_45, l_46, l_47, l_48, l_49, l_50, l_51, l_52, l_57, l_58, l_60, l_64, l_72, l_80, l_92, l_98, l_99, l_100, l_102, l_105, l_111, l_112, l_114, l_115, l_116, l_117, l_120, l_144, l_200, l_201, l_240, l_300, l_320, l_400, l_500, l_550, l_560, l_649, l_650, l_1000, l_1400, l_2000, l_4000, l_10000, iN_add, iN_sub, iN_mul, iN_le_t, iN_le_f, iN_lt_t, iN_lt_f, iN_eq_f, inb_iN, ix_iN, isZ_0, isZ_1, ↓reduceIte, eq_self, k1, k2, k3, k4', k5, k6]
-- the reference
theorem LG_hj {m : Nat} {h : Int64} {G : G_} : LG m (hj h G) = hj h (LG m G) := rfl
theorem LG_LG {m : Nat} {G : G_} : LG m (LG m G) = LG m G := sI_self sI_eq
theorem RR0_hj {h : Int64} {G : G_} (hR : RR0 G) : RR0 (hj h G) := by
  refine RR0_kp hR ⟨fun _ _ => rfl, rfl, rfl, fun _ _ => rfl, ?_, ?_, ?_, id⟩
  · show u2 G.2 124 30 h 0 = G.2 0
    exact u2_ne (by omega)
  · show u2 G.2 124 30 h 124 3 = _
    rw [u2_eq, if_pos rfl, if_neg (by omega)]
  · show u2 G.2 124 30 h 124 4 = _
    rw [u2_eq, if_pos rfl, if_neg (by omega)]
theorem cnt_LG {w : Nat} {G : G_} : cntS w (LG 0 G) = cntS w G := by
  have e : ∀ q, q ≠ 124 → (LG 0 G).1 q = G.1 q := fun q hq => LG_o hq
  have c1 : c1S w (LG 0 G) = c1S w G := by
    funext k
    unfold c1S
    rw [e 131 (by omega), e 133 (by omega), e 138 (by omega), e 129 (by omega)]
  have c2 : c2S w (LG 0 G) = c2S w G := by
    funext k
    unfold c2S
    rw [e 126 (by omega)]
  have c3 : c3S w (LG 0 G) = c3S w G := by
    funext k
    unfold c3S
    rw [DM_LG]
  unfold cntS
  rw [c1, c2, c3, DM_LG, e 138 (by omega)]
theorem counted_hj {w : Nat} {h : Int64} {G : G_} (hw : w ≤ 7) (hR : RR0 G) : f_X8_counted (iN w) (hj h G) = some (cntS w G, hj h (LG 0 G)) := counted_ok hw (RR0_hj hR)
theorem v_hj {a : Int32} {h : Int64} {G : G_} : f_X8_v a (hj h G) = f_X8_v a G := rfl
theorem dT_hj {a b : Int32} {h : Int64} {G : G_} : f_X8_depthTells a b (hj h G) = f_X8_depthTells a b G := rfl
theorem sT_hj {a b : Int32} {h : Int64} {G : G_} : f_X8_skinTells a b (hj h G) = f_X8_skinTells a b G := rfl
theorem look_hj {h : Int64} {G : G_} : f_X8_look (iN 0) (hj h (LG 0 G)) = some (hj h (LG 0 G)) := by
  rw [look_ok, LG_hj, LG_LG]
theorem mdig_ok {G : G_} (hR : RR0 G) : f_X8_digest G = some (digS G, hj (digS G) (LG 0 G)) := by
  have hRL : RR0 (LG 0 G) := RR0_kp hR (kp_mf mf_LG)
  obtain ⟨h1, h2, h3, h4, h5, h6⟩ := hR
  have hR : RR0 G := ⟨h1, h2, h3, h4, h5, h6⟩
  have eq : ∀ q, q ≠ 124 → (hj 0 (LG 0 G)).1 q = G.1 q := fun q hq => LG_o hq
  have eB : ∀ q (h : Int64), q ≠ 124 → (hj h (LG 0 G)).1 q = G.1 q := fun q h hq => LG_o hq
  have k1 : f_X8_digest_l9_4 FU (iN 0) (hj 17 G) = some (hj (itL (dg1 G) 8 17) (LG 0 G)) := by
    have first : ∀ f, f_X8_digest_l9_4 (f + 1) (iN 0) (hj 17 G) = f_X8_digest_l9_4 f (iN 1) (hj (dg1 G 0 17) (LG 0 G)) := by
      intro f
      conv => lhs; unfold f_X8_digest_l9_4
      simp (disch := omega) only [chk_t, beq_self_eq_true, nm_s, bj1_s, bj2_s, bj3_s, mo_1, mo_0, l_0, l_1, l_2, l_3, l_4, l_5, l_6, l_7, l_8, l_9, l_10, l_11, l_12, l_13, l_14, l_15, l_16, l_17, l_18, l_19, l_20, l_21, l_30, l_31, l_32, l_36, l_40, l_41, l_42, l_43, l_44, l_45, l_46, l_47, l_48, l_49, l_50, l_51, l_52, l_57, l_58, l_60, l_64, l_72, l_80, l_92, l_98, l_99, l_100, l_102, l_105, l_111, l_112, l_114, l_115, l_116, l_117, l_120, l_144, l_200, l_201, l_240, l_300, l_320, l_400, l_500, l_550, l_560, l_649, l_650, l_1000, l_1400, l_2000, l_4000, l_10000, iN_add, iN_sub, iN_mul, iN_le_t, iN_le_f, iN_lt_t, iN_lt_f, iN_eq_f, inb_iN, ix_iN, isZ_0, isZ_1, ↓reduceIte, eq_self, counted_hj (w := 0) (h := 17) (by omega) hR, mix_ok]
      rfl
    show f_X8_digest_l9_4 (999 + 1) (iN 0) (hj 17 G) = _
    rw [first]
    have key := loop_cl f_X8_digest_l9_4 (fun j => hj (itL (dg1 G) j 17) (LG 0 G)) 1 8 (some (hj (itL (dg1 G) 8 17) (LG 0 G))) ?_ ?_ (by omega) (n := 999) (by omega)
    · exact key
    · intro f k h3 hk
      conv => lhs; unfold f_X8_digest_l9_4
      have e := counted_hj (w := k) (h := itL (dg1 G) k 17) (G := LG 0 G) (by omega) hRL
      rw [LG_LG, cnt_LG] at e
      simp (disch := omega) only [chk_t, beq_self_eq_true, nm_s, bj1_s, bj2_s, bj3_s, mo_1, mo_0, l_0, l_1, l_2, l_3, l_4, l_5, l_6, l_7, l_8, l_9, l_10, l_11, l_12, l_13, l_14, l_15, l_16, l_17, l_18, l_19, l_20, l_21, l_30, l_31, l_32, l_36, l_40, l_41, l_42, l_43, l_44, l_45, l_46, l_47, l_48, l_49, l_50, l_51, l_52, l_57, l_58, l_60, l_64, l_72, l_80, l_92, l_98, l_99, l_100, l_102, l_105, l_111, l_112, l_114, l_115, l_116, l_117, l_120, l_144, l_200, l_201, l_240, l_300, l_320, l_400, l_500, l_550, l_560, l_649, l_650, l_1000, l_1400, l_2000, l_4000, l_10000, iN_add, iN_sub, iN_mul, iN_le_t, iN_le_f, iN_lt_t, iN_lt_f, iN_eq_f, inb_iN, ix_iN, isZ_0, isZ_1, ↓reduceIte, eq_self, e, mix_ok]
      rfl
    · intro f
      unfold f_X8_digest_l9_4
      simp (disch := omega) only [chk_t, beq_self_eq_true, nm_s, bj1_s, bj2_s, bj3_s, mo_1, mo_0, l_0, l_1, l_2, l_3, l_4, l_5, l_6, l_7, l_8, l_9, l_10, l_11, l_12, l_13, l_14, l_15, l_16, l_17, l_18, l_19, l_20, l_21, l_30, l_31, l_32, l_36, l_40, l_41, l_42, l_43, l_44, l_45, l_46, l_47, l_48, l_49, l_50, l_51, l_52, l_57, l_58, l_60, l_64, l_72, l_80, l_92, l_98, l_99, l_100, l_102, l_105, l_111, l_112, l_114, l_115, l_116, l_117, l_120, l_144, l_200, l_201, l_240, l_300, l_320, l_400, l_500, l_550, l_560, l_649, l_650, l_1000, l_1400, l_2000, l_4000, l_10000, iN_add, iN_sub, iN_mul, iN_le_t, iN_le_f, iN_lt_t, iN_lt_f, iN_eq_f, inb_iN, ix_iN, isZ_0, isZ_1, ↓reduceIte, eq_self]
  have k2 : ∀ h0, f_X8_mixBooks_l2_3 FU (iN 0) (hj h0 (LG 0 G)) = some (hj (itL (dg2 G) 4 h0) (LG 0 G)) := by
    intro h0
    refine loop_ih f_X8_mixBooks_l2_3 _ 4 h0 (LG 0 G) ?_ ?_ (fu_lt (by omega))
    · intro f k h hk
      obtain ⟨r1, r2, r3⟩ := h3 k hk
      unfold dg2
      conv => lhs; unfold f_X8_mixBooks_l2_3
      rcases r2 with r2 | ⟨r2, -⟩
      · have inner : ∀ h', f_X8_mixBooks_l25_11 (iN k) FU (iN 0) (hj h' (LG 0 G)) = some (hj h' (LG 0 G)) := by
          intro h'
          show f_X8_mixBooks_l25_11 (iN k) (999 + 1) (iN 0) (hj h' (LG 0 G)) = _
          unfold f_X8_mixBooks_l25_11
          simp (disch := omega) only [chk_t, beq_self_eq_true, nm_s, bj1_s, bj2_s, bj3_s, mo_1, mo_0, l_0, l_1, l_2, l_3, l_4, l_5, l_6, l_7, l_8, l_9, l_10, l_11, l_12, l_13, l_14, l_15, l_16, l_17, l_18, l_19, l_20, l_21, l_30, l_31, l_32, l_36, l_40, l_41, l_42, l_43, l_44, l_45, l_46, l_47, l_48, l_49, l_50, l_51, l_52, l_57, l_58, l_60, l_64, l_72, l_80, l_92, l_98, l_99, l_100, l_102, l_105, l_111, l_112, l_114, l_115, l_116, l_117, l_120, l_144, l_200, l_201, l_240, l_300, l_320, l_400, l_500, l_550, l_560, l_649, l_650, l_1000, l_1400, l_2000, l_4000, l_10000, iN_add, iN_sub, iN_mul, iN_le_t, iN_le_f, iN_lt_t, iN_lt_f, iN_eq_f, inb_iN, ix_iN, isZ_0, isZ_1, ↓reduceIte, eq_self, eB, r2]
        simp (disch := omega) only [chk_t, beq_self_eq_true, nm_s, bj1_s, bj2_s, bj3_s, mo_1, mo_0, l_0, l_1, l_2, l_3, l_4, l_5, l_6, l_7, l_8, l_9, l_10, l_11, l_12, l_13, l_14, l_15, l_16, l_17, l_18, l_19, l_20, l_21, l_30, l_31, l_32, l_36, l_40, l_41, l_42, l_43, l_44, l_45, l_46, l_47, l_48, l_49, l_50, l_51, l_52, l_57, l_58, l_60, l_64, l_72, l_80, l_92, l_98, l_99, l_100, l_102, l_105, l_111, l_112, l_114, l_115, l_116, l_117, l_120, l_144, l_200, l_201, l_240, l_300, l_320, l_400, l_500, l_550, l_560, l_649, l_650, l_1000, l_1400, l_2000, l_4000, l_10000, iN_add, iN_sub, iN_mul, iN_le_t, iN_le_f, iN_lt_t, iN_lt_f, iN_eq_f, inb_iN, ix_iN, isZ_0, isZ_1, ↓reduceIte, eq_self, eB, r2, mix_ok, inner]
      · have inner : ∀ h', f_X8_mixBooks_l25_11 (iN k) FU (iN 0) (hj h' (LG 0 G)) = some (hj (itL (fun j h => 31 * h + (G.1 132 (4 * k + j)).toInt64) 4 h') (LG 0 G)) := by
          intro h'
          refine loop_ih (f_X8_mixBooks_l25_11 (iN k)) _ 4 h' (LG 0 G) ?_ ?_ (fu_lt (by omega))
          · intro f j h hj'
            conv => lhs; unfold f_X8_mixBooks_l25_11
            simp (disch := omega) only [chk_t, beq_self_eq_true, nm_s, bj1_s, bj2_s, bj3_s, mo_1, mo_0, l_0, l_1, l_2, l_3, l_4, l_5, l_6, l_7, l_8, l_9, l_10, l_11, l_12, l_13, l_14, l_15, l_16, l_17, l_18, l_19, l_20, l_21, l_30, l_31, l_32, l_36, l_40, l_41, l_42, l_43, l_44, l_45, l_46, l_47, l_48, l_49, l_50, l_51, l_52, l_57, l_58, l_60, l_64, l_72, l_80, l_92, l_98, l_99, l_100, l_102, l_105, l_111, l_112, l_114, l_115, l_116, l_117, l_120, l_144, l_200, l_201, l_240, l_300, l_320, l_400, l_500, l_550, l_560, l_649, l_650, l_1000, l_1400, l_2000, l_4000, l_10000, iN_add, iN_sub, iN_mul, iN_le_t, iN_le_f, iN_lt_t, iN_lt_f, iN_eq_f, inb_iN, ix_iN, isZ_0, isZ_1, ↓reduceIte, eq_self, eB, r2, mix_ok]
          · intro f h
            unfold f_X8_mixBooks_l25_11
            simp (disch := omega) only [chk_t, beq_self_eq_true, nm_s, bj1_s, bj2_s, bj3_s, mo_1, mo_0, l_0, l_1, l_2, l_3, l_4, l_5, l_6, l_7, l_8, l_9, l_10, l_11, l_12, l_13, l_14, l_15, l_16, l_17, l_18, l_19, l_20, l_21, l_30, l_31, l_32, l_36, l_40, l_41, l_42, l_43, l_44, l_45, l_46, l_47, l_48, l_49, l_50, l_51, l_52, l_57, l_58, l_60, l_64, l_72, l_80, l_92, l_98, l_99, l_100, l_102, l_105, l_111, l_112, l_114, l_115, l_116, l_117, l_120, l_144, l_200, l_201, l_240, l_300, l_320, l_400, l_500, l_550, l_560, l_649, l_650, l_1000, l_1400, l_2000, l_4000, l_10000, iN_add, iN_sub, iN_mul, iN_le_t, iN_le_f, iN_lt_t, iN_lt_f, iN_eq_f, inb_iN, ix_iN, isZ_0, isZ_1, ↓reduceIte, eq_self]
        simp (disch := omega) only [chk_t, beq_self_eq_true, nm_s, bj1_s, bj2_s, bj3_s, mo_1, mo_0, l_0, l_1, l_2, l_3, l_4, l_5, l_6, l_7, l_8, l_9, l_10, l_11, l_12, l_13, l_14, l_15, l_16, l_17, l_18, l_19, l_20, l_21, l_30, l_31, l_32, l_36, l_40, l_41, l_42, l_43, l_44, l_45, l_46, l_47, l_48, l_49, l_50, l_51, l_52, l_57, l_58, l_60, l_64, l_72, l_80, l_92, l_98, l_99, l_100, l_102, l_105, l_111, l_112, l_114, l_115, l_116, l_117, l_120, l_144, l_200, l_201, l_240, l_300, l_320, l_400, l_500, l_550, l_560, l_649, l_650, l_1000, l_1400, l_2000, l_4000, l_10000, iN_add, iN_sub, iN_mul, iN_le_t, iN_le_f, iN_lt_t, iN_lt_f, iN_eq_f, inb_iN, ix_iN, isZ_0, isZ_1, ↓reduceIte, eq_self, eB, r2, inner]
    · intro f h
      unfold f_X8_mixBooks_l2_3
      simp (disch := omega) only [chk_t, beq_self_eq_true, nm_s, bj1_s, bj2_s, bj3_s, mo_1, mo_0, l_0, l_1, l_2, l_3, l_4, l_5, l_6, l_7, l_8, l_9, l_10, l_11, l_12, l_13, l_14, l_15, l_16, l_17, l_18, l_19, l_20, l_21, l_30, l_31, l_32, l_36, l_40, l_41, l_42, l_43, l_44, l_45, l_46, l_47, l_48, l_49, l_50, l_51, l_52, l_57, l_58, l_60, l_64, l_72, l_80, l_92, l_98, l_99, l_100, l_102, l_105, l_111, l_112, l_114, l_115, l_116, l_117, l_120, l_144, l_200, l_201, l_240, l_300, l_320, l_400, l_500, l_550, l_560, l_649, l_650, l_1000, l_1400, l_2000, l_4000, l_10000, iN_add, iN_sub, iN_mul, iN_le_t, iN_le_f, iN_lt_t, iN_lt_f, iN_eq_f, inb_iN, ix_iN, isZ_0, isZ_1, ↓reduceIte, eq_self]
  have k3 : ∀ h0, f_X8_mixBooks_l68_20 FU (iN 0) (hj h0 (LG 0 G)) = some (hj (itL (dg3 G) 4 h0) (LG 0 G)) := by
    intro h0
    refine loop_ih f_X8_mixBooks_l68_20 _ 4 h0 (LG 0 G) ?_ ?_ (fu_lt (by omega))
    · intro f k h hk
      obtain ⟨r1, r2, r3⟩ := h4 k hk
      unfold dg3
      conv => lhs; unfold f_X8_mixBooks_l68_20
      rcases r2 with r2 | ⟨r2, mm, hp⟩
      · have inner : ∀ h', f_X8_mixBooks_l91_28 (iN k) FU (iN 0) (hj h' (LG 0 G)) = some (hj h' (LG 0 G)) := by
          intro h'
          show f_X8_mixBooks_l91_28 (iN k) (999 + 1) (iN 0) (hj h' (LG 0 G)) = _
          unfold f_X8_mixBooks_l91_28
          simp (disch := omega) only [chk_t, beq_self_eq_true, nm_s, bj1_s, bj2_s, bj3_s, mo_1, mo_0, l_0, l_1, l_2, l_3, l_4, l_5, l_6, l_7, l_8, l_9, l_10, l_11, l_12, l_13, l_14, l_15, l_16, l_17, l_18, l_19, l_20, l_21, l_30, l_31, l_32, l_36, l_40, l_41, l_42, l_43, l_44, l_45, l_46, l_47, l_48, l_49, l_50, l_51, l_52, l_57, l_58, l_60, l_64, l_72, l_80, l_92, l_98, l_99, l_100, l_102, l_105, l_111, l_112, l_114, l_115, l_116, l_117, l_120, l_144, l_200, l_201, l_240, l_300, l_320, l_400, l_500, l_550, l_560, l_649, l_650, l_1000, l_1400, l_2000, l_4000, l_10000, iN_add, iN_sub, iN_mul, iN_le_t, iN_le_f, iN_lt_t, iN_lt_f, iN_eq_f, inb_iN, ix_iN, isZ_0, isZ_1, ↓reduceIte, eq_self, eB, r2]
          split <;> rfl
        simp (disch := omega) only [chk_t, beq_self_eq_true, nm_s, bj1_s, bj2_s, bj3_s, mo_1, mo_0, l_0, l_1, l_2, l_3, l_4, l_5, l_6, l_7, l_8, l_9, l_10, l_11, l_12, l_13, l_14, l_15, l_16, l_17, l_18, l_19, l_20, l_21, l_30, l_31, l_32, l_36, l_40, l_41, l_42, l_43, l_44, l_45, l_46, l_47, l_48, l_49, l_50, l_51, l_52, l_57, l_58, l_60, l_64, l_72, l_80, l_92, l_98, l_99, l_100, l_102, l_105, l_111, l_112, l_114, l_115, l_116, l_117, l_120, l_144, l_200, l_201, l_240, l_300, l_320, l_400, l_500, l_550, l_560, l_649, l_650, l_1000, l_1400, l_2000, l_4000, l_10000, iN_add, iN_sub, iN_mul, iN_le_t, iN_le_f, iN_lt_t, iN_lt_f, iN_eq_f, inb_iN, ix_iN, isZ_0, isZ_1, ↓reduceIte, eq_self, eB, r2, mix_ok, inner]
      · have hm := hp.2.1
        have e4 : G.1 134 k = iN mm := hp.1
        have eI : ix (iN mm) = mm := ix_iN (by omega)
        have inner : ∀ h', f_X8_mixBooks_l91_28 (iN k) FU (iN 0) (hj h' (LG 0 G)) = some (hj (itL (fun i h => 31 * (31 * h + (G.1 135 (36 * k + 3 * i)).toInt64) + (iN 100 * G.1 135 (36 * k + 3 * i + 1) + G.1 135 (36 * k + 3 * i + 2)).toInt64) mm h') (LG 0 G)) := by
          intro h'
          refine loop_ih (f_X8_mixBooks_l91_28 (iN k)) _ mm h' (LG 0 G) ?_ ?_ (fu_lt (by omega))
          · intro f i h hi
            conv => lhs; unfold f_X8_mixBooks_l91_28
            unfold f_X8_stepTells
            simp (disch := omega) only [chk_t, beq_self_eq_true, nm_s, bj1_s, bj2_s, bj3_s, mo_1, mo_0, l_0, l_1, l_2, l_3, l_4, l_5, l_6, l_7, l_8, l_9, l_10, l_11, l_12, l_13, l_14, l_15, l_16, l_17, l_18, l_19, l_20, l_21, l_30, l_31, l_32, l_36, l_40, l_41, l_42, l_43, l_44, l_45, l_46, l_47, l_48, l_49, l_50, l_51, l_52, l_57, l_58, l_60, l_64, l_72, l_80, l_92, l_98, l_99, l_100, l_102, l_105, l_111, l_112, l_114, l_115, l_116, l_117, l_120, l_144, l_200, l_201, l_240, l_300, l_320, l_400, l_500, l_550, l_560, l_649, l_650, l_1000, l_1400, l_2000, l_4000, l_10000, iN_add, iN_sub, iN_mul, iN_le_t, iN_le_f, iN_lt_t, iN_lt_f, iN_eq_f, inb_iN, ix_iN, isZ_0, isZ_1, ↓reduceIte, eq_self, eB, r2, e4, mix_ok]
          · intro f h
            unfold f_X8_mixBooks_l91_28
            simp (disch := omega) only [chk_t, beq_self_eq_true, nm_s, bj1_s, bj2_s, bj3_s, mo_1, mo_0, l_0, l_1, l_2, l_3, l_4, l_5, l_6, l_7, l_8, l_9, l_10, l_11, l_12, l_13, l_14, l_15, l_16, l_17, l_18, l_19, l_20, l_21, l_30, l_31, l_32, l_36, l_40, l_41, l_42, l_43, l_44, l_45, l_46, l_47, l_48, l_49, l_50, l_51, l_52, l_57, l_58, l_60, l_64, l_72, l_80, l_92, l_98, l_99, l_100, l_102, l_105, l_111, l_112, l_114, l_115, l_116, l_117, l_120, l_144, l_200, l_201, l_240, l_300, l_320, l_400, l_500, l_550, l_560, l_649, l_650, l_1000, l_1400, l_2000, l_4000, l_10000, iN_add, iN_sub, iN_mul, iN_le_t, iN_le_f, iN_lt_t, iN_lt_f, iN_eq_f, inb_iN, ix_iN, isZ_0, isZ_1, ↓reduceIte, eq_self, eB, e4]
        simp (disch := omega) only [chk_t, beq_self_eq_true, nm_s, bj1_s, bj2_s, bj3_s, mo_1, mo_0, l_0, l_1, l_2, l_3, l_4, l_5, l_6, l_7, l_8, l_9, l_10, l_11, l_12, l_13, l_14, l_15, l_16, l_17, l_18, l_19, l_20, l_21, l_30, l_31, l_32, l_36, l_40, l_41, l_42, l_43, l_44, l_45, l_46, l_47, l_48, l_49, l_50, l_51, l_52, l_57, l_58, l_60, l_64, l_72, l_80, l_92, l_98, l_99, l_100, l_102, l_105, l_111, l_112, l_114, l_115, l_116, l_117, l_120, l_144, l_200, l_201, l_240, l_300, l_320, l_400, l_500, l_550, l_560, l_649, l_650, l_1000, l_1400, l_2000, l_4000, l_10000, iN_add, iN_sub, iN_mul, iN_le_t, iN_le_f, iN_lt_t, iN_lt_f, iN_eq_f, inb_iN, ix_iN, isZ_0, isZ_1, ↓reduceIte, eq_self, eB, r2, e4, eI, inner]
    · intro f h
      unfold f_X8_mixBooks_l68_20
      simp (disch := omega) only [chk_t, beq_self_eq_true, nm_s, bj1_s, bj2_s, bj3_s, mo_1, mo_0, l_0, l_1, l_2, l_3, l_4, l_5, l_6, l_7, l_8, l_9, l_10, l_11, l_12, l_13, l_14, l_15, l_16, l_17, l_18, l_19, l_20, l_21, l_30, l_31, l_32, l_36, l_40, l_41, l_42, l_43, l_44, l_45, l_46, l_47, l_48, l_49, l_50, l_51, l_52, l_57, l_58, l_60, l_64, l_72, l_80, l_92, l_98, l_99, l_100, l_102, l_105, l_111, l_112, l_114, l_115, l_116, l_117, l_120, l_144, l_200, l_201, l_240, l_300, l_320, l_400, l_500, l_550, l_560, l_649, l_650, l_1000, l_1400, l_2000, l_4000, l_10000, iN_add, iN_sub, iN_mul, iN_le_t, iN_le_f, iN_lt_t, iN_lt_f, iN_eq_f, inb_iN, ix_iN, isZ_0, isZ_1, ↓reduceIte, eq_self]
  have k4 : ∀ h0, f_X8_mixDish (hj h0 (LG 0 G)) = some (hj ((if G.1 138 0 = iN 0 then fun h => 31 * h + -1 else dg4 (DM 0 G)) h0) (LG 0 G)) := by
    intro h0
    obtain ⟨d1, d2⟩ := dish0 hR
    unfold f_X8_mixDish
    rcases d2 with d2 | ⟨d2, n, mm, hg, hu, hc⟩
    · rw [if_pos d2]
      simp (disch := omega) only [chk_t, beq_self_eq_true, nm_s, bj1_s, bj2_s, bj3_s, mo_1, mo_0, l_0, l_1, l_2, l_3, l_4, l_5, l_6, l_7, l_8, l_9, l_10, l_11, l_12, l_13, l_14, l_15, l_16, l_17, l_18, l_19, l_20, l_21, l_30, l_31, l_32, l_36, l_40, l_41, l_42, l_43, l_44, l_45, l_46, l_47, l_48, l_49, l_50, l_51, l_52, l_57, l_58, l_60, l_64, l_72, l_80, l_92, l_98, l_99, l_100, l_102, l_105, l_111, l_112, l_114, l_115, l_116, l_117, l_120, l_144, l_200, l_201, l_240, l_300, l_320, l_400, l_500, l_550, l_560, l_649, l_650, l_1000, l_1400, l_2000, l_4000, l_10000, iN_add, iN_sub, iN_mul, iN_le_t, iN_le_f, iN_lt_t, iN_lt_f, iN_eq_f, inb_iN, ix_iN, isZ_0, isZ_1, ↓reduceIte, eq_self, look_hj, eB, d2, mix_ok]
    · have e10 : ¬ G.1 138 0 = iN 0 := by rw [d2]; decide
      have hn := hg.1.1
      have hb := hn.2
      have e0 : DM 0 G 0 = iN n := hn.1
      have l1 : f_X8_mixDish_l24_6 FU (iN 0) (hj h0 (LG 0 G)) = some (hj (itL (fun i h => itL (fun w h => 31 * h + (DM 0 G (52 + 20 * w + i)).toInt64) 3 h) n h0) (LG 0 G)) := by
        refine loop_ih f_X8_mixDish_l24_6 _ n h0 (LG 0 G) ?_ ?_ (fu_lt (by omega))
        · intro f i h hi
          have inner : f_X8_mixDish_l35_11 (iN i) FU (iN 0) (hj h (LG 0 G)) = some (hj (itL (fun w h => 31 * h + (DM 0 G (52 + 20 * w + i)).toInt64) 3 h) (LG 0 G)) := by
            refine loop_ih (f_X8_mixDish_l35_11 (iN i)) _ 3 h (LG 0 G) ?_ ?_ (fu_lt (by omega))
            · intro f w h hw
              conv => lhs; unfold f_X8_mixDish_l35_11
              simp (disch := omega) only [chk_t, beq_self_eq_true, nm_s, bj1_s, bj2_s, bj3_s, mo_1, mo_0, l_0, l_1, l_2, l_3, l_4, l_5, l_6, l_7, l_8, l_9, l_10, l_11, l_12, l_13, l_14, l_15, l_16, l_17, l_18, l_19, l_20, l_21, l_30, l_31, l_32, l_36, l_40, l_41, l_42, l_43, l_44, l_45, l_46, l_47, l_48, l_49, l_50, l_51, l_52, l_57, l_58, l_60, l_64, l_72, l_80, l_92, l_98, l_99, l_100, l_102, l_105, l_111, l_112, l_114, l_115, l_116, l_117, l_120, l_144, l_200, l_201, l_240, l_300, l_320, l_400, l_500, l_550, l_560, l_649, l_650, l_1000, l_1400, l_2000, l_4000, l_10000, iN_add, iN_sub, iN_mul, iN_le_t, iN_le_f, iN_lt_t, iN_lt_f, iN_eq_f, inb_iN, ix_iN, isZ_0, isZ_1, ↓reduceIte, eq_self, dT_hj, dTm (show i < 20 by omega) hw, mix_ok]
            · intro f h
              unfold f_X8_mixDish_l35_11
              simp (disch := omega) only [chk_t, beq_self_eq_true, nm_s, bj1_s, bj2_s, bj3_s, mo_1, mo_0, l_0, l_1, l_2, l_3, l_4, l_5, l_6, l_7, l_8, l_9, l_10, l_11, l_12, l_13, l_14, l_15, l_16, l_17, l_18, l_19, l_20, l_21, l_30, l_31, l_32, l_36, l_40, l_41, l_42, l_43, l_44, l_45, l_46, l_47, l_48, l_49, l_50, l_51, l_52, l_57, l_58, l_60, l_64, l_72, l_80, l_92, l_98, l_99, l_100, l_102, l_105, l_111, l_112, l_114, l_115, l_116, l_117, l_120, l_144, l_200, l_201, l_240, l_300, l_320, l_400, l_500, l_550, l_560, l_649, l_650, l_1000, l_1400, l_2000, l_4000, l_10000, iN_add, iN_sub, iN_mul, iN_le_t, iN_le_f, iN_lt_t, iN_lt_f, iN_eq_f, inb_iN, ix_iN, isZ_0, isZ_1, ↓reduceIte, eq_self]
          conv => lhs; unfold f_X8_mixDish_l24_6
          simp (disch := omega) only [chk_t, beq_self_eq_true, nm_s, bj1_s, bj2_s, bj3_s, mo_1, mo_0, l_0, l_1, l_2, l_3, l_4, l_5, l_6, l_7, l_8, l_9, l_10, l_11, l_12, l_13, l_14, l_15, l_16, l_17, l_18, l_19, l_20, l_21, l_30, l_31, l_32, l_36, l_40, l_41, l_42, l_43, l_44, l_45, l_46, l_47, l_48, l_49, l_50, l_51, l_52, l_57, l_58, l_60, l_64, l_72, l_80, l_92, l_98, l_99, l_100, l_102, l_105, l_111, l_112, l_114, l_115, l_116, l_117, l_120, l_144, l_200, l_201, l_240, l_300, l_320, l_400, l_500, l_550, l_560, l_649, l_650, l_1000, l_1400, l_2000, l_4000, l_10000, iN_add, iN_sub, iN_mul, iN_le_t, iN_le_f, iN_lt_t, iN_lt_f, iN_eq_f, inb_iN, ix_iN, isZ_0, isZ_1, ↓reduceIte, eq_self, v_hj, v_LG, e0, inner]
        · intro f h
          unfold f_X8_mixDish_l24_6
          simp (disch := omega) only [chk_t, beq_self_eq_true, nm_s, bj1_s, bj2_s, bj3_s, mo_1, mo_0, l_0, l_1, l_2, l_3, l_4, l_5, l_6, l_7, l_8, l_9, l_10, l_11, l_12, l_13, l_14, l_15, l_16, l_17, l_18, l_19, l_20, l_21, l_30, l_31, l_32, l_36, l_40, l_41, l_42, l_43, l_44, l_45, l_46, l_47, l_48, l_49, l_50, l_51, l_52, l_57, l_58, l_60, l_64, l_72, l_80, l_92, l_98, l_99, l_100, l_102, l_105, l_111, l_112, l_114, l_115, l_116, l_117, l_120, l_144, l_200, l_201, l_240, l_300, l_320, l_400, l_500, l_550, l_560, l_649, l_650, l_1000, l_1400, l_2000, l_4000, l_10000, iN_add, iN_sub, iN_mul, iN_le_t, iN_le_f, iN_lt_t, iN_lt_f, iN_eq_f, inb_iN, ix_iN, isZ_0, isZ_1, ↓reduceIte, eq_self, v_hj, v_LG, e0]
      have l2 : ∀ h1, f_X8_mixDish_l65_20 FU (iN 0) (hj h1 (LG 0 G)) = some (hj (itL (fun s h => itL (fun w h => 31 * h + (skinS s w (DM 0 G)).toInt64) 4 h) 2 h1) (LG 0 G)) := by
        intro h1
        refine loop_ih f_X8_mixDish_l65_20 _ 2 h1 (LG 0 G) ?_ ?_ (fu_lt (by omega))
        · intro f s h hs
          have inner : f_X8_mixDish_l72_23 (iN s) FU (iN 0) (hj h (LG 0 G)) = some (hj (itL (fun w h => 31 * h + (skinS s w (DM 0 G)).toInt64) 4 h) (LG 0 G)) := by
            refine loop_ih (f_X8_mixDish_l72_23 (iN s)) _ 4 h (LG 0 G) ?_ ?_ (fu_lt (by omega))
            · intro f w h hw
              conv => lhs; unfold f_X8_mixDish_l72_23
              simp (disch := omega) only [chk_t, beq_self_eq_true, nm_s, bj1_s, bj2_s, bj3_s, mo_1, mo_0, l_0, l_1, l_2, l_3, l_4, l_5, l_6, l_7, l_8, l_9, l_10, l_11, l_12, l_13, l_14, l_15, l_16, l_17, l_18, l_19, l_20, l_21, l_30, l_31, l_32, l_36, l_40, l_41, l_42, l_43, l_44, l_45, l_46, l_47, l_48, l_49, l_50, l_51, l_52, l_57, l_58, l_60, l_64, l_72, l_80, l_92, l_98, l_99, l_100, l_102, l_105, l_111, l_112, l_114, l_115, l_116, l_117, l_120, l_144, l_200, l_201, l_240, l_300, l_320, l_400, l_500, l_550, l_560, l_649, l_650, l_1000, l_1400, l_2000, l_4000, l_10000, iN_add, iN_sub, iN_mul, iN_le_t, iN_le_f, iN_lt_t, iN_lt_f, iN_eq_f, inb_iN, ix_iN, isZ_0, isZ_1, ↓reduceIte, eq_self, sT_hj, mskin_LG hs (show w ≤ 3 by omega) hu, mix_ok]
            · intro f h
              unfold f_X8_mixDish_l72_23
              simp (disch := omega) only [chk_t, beq_self_eq_true, nm_s, bj1_s, bj2_s, bj3_s, mo_1, mo_0, l_0, l_1, l_2, l_3, l_4, l_5, l_6, l_7, l_8, l_9, l_10, l_11, l_12, l_13, l_14, l_15, l_16, l_17, l_18, l_19, l_20, l_21, l_30, l_31, l_32, l_36, l_40, l_41, l_42, l_43, l_44, l_45, l_46, l_47, l_48, l_49, l_50, l_51, l_52, l_57, l_58, l_60, l_64, l_72, l_80, l_92, l_98, l_99, l_100, l_102, l_105, l_111, l_112, l_114, l_115, l_116, l_117, l_120, l_144, l_200, l_201, l_240, l_300, l_320, l_400, l_500, l_550, l_560, l_649, l_650, l_1000, l_1400, l_2000, l_4000, l_10000, iN_add, iN_sub, iN_mul, iN_le_t, iN_le_f, iN_lt_t, iN_lt_f, iN_eq_f, inb_iN, ix_iN, isZ_0, isZ_1, ↓reduceIte, eq_self]
          conv => lhs; unfold f_X8_mixDish_l65_20
          simp (disch := omega) only [chk_t, beq_self_eq_true, nm_s, bj1_s, bj2_s, bj3_s, mo_1, mo_0, l_0, l_1, l_2, l_3, l_4, l_5, l_6, l_7, l_8, l_9, l_10, l_11, l_12, l_13, l_14, l_15, l_16, l_17, l_18, l_19, l_20, l_21, l_30, l_31, l_32, l_36, l_40, l_41, l_42, l_43, l_44, l_45, l_46, l_47, l_48, l_49, l_50, l_51, l_52, l_57, l_58, l_60, l_64, l_72, l_80, l_92, l_98, l_99, l_100, l_102, l_105, l_111, l_112, l_114, l_115, l_116, l_117, l_120, l_144, l_200, l_201, l_240, l_300, l_320, l_400, l_500, l_550, l_560, l_649, l_650, l_1000, l_1400, l_2000, l_4000, l_10000, iN_add, iN_sub, iN_mul, iN_le_t, iN_le_f, iN_lt_t, iN_lt_f, iN_eq_f, inb_iN, ix_iN, isZ_0, isZ_1, ↓reduceIte, eq_self, inner]
        · intro f h
          unfold f_X8_mixDish_l65_20
          simp (disch := omega) only [chk_t, beq_self_eq_true, nm_s, bj1_s, bj2_s, bj3_s, mo_1, mo_0, l_0, l_1, l_2, l_3, l_4, l_5, l_6, l_7, l_8, l_9, l_10, l_11, l_12, l_13, l_14, l_15, l_16, l_17, l_18, l_19, l_20, l_21, l_30, l_31, l_32, l_36, l_40, l_41, l_42, l_43, l_44, l_45, l_46, l_47, l_48, l_49, l_50, l_51, l_52, l_57, l_58, l_60, l_64, l_72, l_80, l_92, l_98, l_99, l_100, l_102, l_105, l_111, l_112, l_114, l_115, l_116, l_117, l_120, l_144, l_200, l_201, l_240, l_300, l_320, l_400, l_500, l_550, l_560, l_649, l_650, l_1000, l_1400, l_2000, l_4000, l_10000, iN_add, iN_sub, iN_mul, iN_le_t, iN_le_f, iN_lt_t, iN_lt_f, iN_eq_f, inb_iN, ix_iN, isZ_0, isZ_1, ↓reduceIte, eq_self]
      rw [if_neg e10]
      unfold dg4
      rw [okN_n hn]
      simp (disch := omega) only [chk_t, beq_self_eq_true, nm_s, bj1_s, bj2_s, bj3_s, mo_1, mo_0, l_0, l_1, l_2, l_3, l_4, l_5, l_6, l_7, l_8, l_9, l_10, l_11, l_12, l_13, l_14, l_15, l_16, l_17, l_18, l_19, l_20, l_21, l_30, l_31, l_32, l_36, l_40, l_41, l_42, l_43, l_44, l_45, l_46, l_47, l_48, l_49, l_50, l_51, l_52, l_57, l_58, l_60, l_64, l_72, l_80, l_92, l_98, l_99, l_100, l_102, l_105, l_111, l_112, l_114, l_115, l_116, l_117, l_120, l_144, l_200, l_201, l_240, l_300, l_320, l_400, l_500, l_550, l_560, l_649, l_650, l_1000, l_1400, l_2000, l_4000, l_10000, iN_add, iN_sub, iN_mul, iN_le_t, iN_le_f, iN_lt_t, iN_lt_f, iN_eq_f, inb_iN, ix_iN, isZ_0, isZ_1, ↓reduceIte, eq_self, look_hj, eB, d2, l1, l2]
  have szz : ∀ (b : Nat) (s : Int32) (z i : Nat), szR b s → ix s = z → i < z → z ≤ 1000 → s = iN z := by
    intro b s z i hs hz hi hz2
    rcases hs with e | ⟨z', hz', e⟩
    · rw [e] at hz
      have : z = 0 := hz.symm
      omega
    · rw [e]
      by_cases c : z' < 2147483648
      · rw [e, ix_iN c] at hz
        rw [hz]
      · rw [← hz, e]
        exact iN_ex (by
          have hp : 0 < ix s := by omega
          rw [e] at hp
          have : (ix (iN z') : Int) = (iN z').toInt.toNat := rfl
          omega)
  have k5 : ∀ h0, f_X8_digest_l41_17 FU (iN 0) (hj h0 (LG 0 G)) = some (hj (itL (dg5 G) 6 h0) (LG 0 G)) := by
    intro h0
    refine loop_ih f_X8_digest_l41_17 _ 6 h0 (LG 0 G) ?_ ?_ (fu_lt (by omega))
    · intro f r h hr
      obtain ⟨s1, s2, s3⟩ := h1 r hr
      unfold dg5
      obtain ⟨z, hz, ez, ek⟩ := sz_N s2 (by omega)
      rw [ez]
      have inner : ∀ h', f_X8_digest_l60_23 (iN r) FU (iN 0) (hj h' (LG 0 G)) = some (hj (itL (fun i h => 31 * h + (G.1 127 (40 * r + i)).toInt64) z h') (LG 0 G)) := by
        intro h'
        refine loop_ih (f_X8_digest_l60_23 (iN r)) _ z h' (LG 0 G) ?_ ?_ (fu_lt (by omega))
        · intro f i h hi
          have c0 : (G.1 126 r ≤ iN i) = False := by rw [szz 40 _ z i s2 ez hi (by omega)]; exact iN_le_f hi (by omega)
          conv => lhs; unfold f_X8_digest_l60_23
          unfold f_X8_rowAt
          simp (disch := omega) only [chk_t, beq_self_eq_true, nm_s, bj1_s, bj2_s, bj3_s, mo_1, mo_0, l_0, l_1, l_2, l_3, l_4, l_5, l_6, l_7, l_8, l_9, l_10, l_11, l_12, l_13, l_14, l_15, l_16, l_17, l_18, l_19, l_20, l_21, l_30, l_31, l_32, l_36, l_40, l_41, l_42, l_43, l_44, l_45, l_46, l_47, l_48, l_49, l_50, l_51, l_52, l_57, l_58, l_60, l_64, l_72, l_80, l_92, l_98, l_99, l_100, l_102, l_105, l_111, l_112, l_114, l_115, l_116, l_117, l_120, l_144, l_200, l_201, l_240, l_300, l_320, l_400, l_500, l_550, l_560, l_649, l_650, l_1000, l_1400, l_2000, l_4000, l_10000, iN_add, iN_sub, iN_mul, iN_le_t, iN_le_f, iN_lt_t, iN_lt_f, iN_eq_f, inb_iN, ix_iN, isZ_0, isZ_1, ↓reduceIte, eq_self, eB, c0, mix_ok]
        · intro f h
          have c0 : (G.1 126 r ≤ iN z) = True := (ek z (by omega)).mpr (Nat.le_refl z)
          unfold f_X8_digest_l60_23
          simp (disch := omega) only [chk_t, beq_self_eq_true, nm_s, bj1_s, bj2_s, bj3_s, mo_1, mo_0, l_0, l_1, l_2, l_3, l_4, l_5, l_6, l_7, l_8, l_9, l_10, l_11, l_12, l_13, l_14, l_15, l_16, l_17, l_18, l_19, l_20, l_21, l_30, l_31, l_32, l_36, l_40, l_41, l_42, l_43, l_44, l_45, l_46, l_47, l_48, l_49, l_50, l_51, l_52, l_57, l_58, l_60, l_64, l_72, l_80, l_92, l_98, l_99, l_100, l_102, l_105, l_111, l_112, l_114, l_115, l_116, l_117, l_120, l_144, l_200, l_201, l_240, l_300, l_320, l_400, l_500, l_550, l_560, l_649, l_650, l_1000, l_1400, l_2000, l_4000, l_10000, iN_add, iN_sub, iN_mul, iN_le_t, iN_le_f, iN_lt_t, iN_lt_f, iN_eq_f, inb_iN, ix_iN, isZ_0, isZ_1, ↓reduceIte, eq_self, eB, c0]
      conv => lhs; unfold f_X8_digest_l41_17
      simp (disch := omega) only [chk_t, beq_self_eq_true, nm_s, bj1_s, bj2_s, bj3_s, mo_1, mo_0, l_0, l_1, l_2, l_3, l_4, l_5, l_6, l_7, l_8, l_9, l_10, l_11, l_12, l_13, l_14, l_15, l_16, l_17, l_18, l_19, l_20, l_21, l_30, l_31, l_32, l_36, l_40, l_41, l_42, l_43, l_44, l_45, l_46, l_47, l_48, l_49, l_50, l_51, l_52, l_57, l_58, l_60, l_64, l_72, l_80, l_92, l_98, l_99, l_100, l_102, l_105, l_111, l_112, l_114, l_115, l_116, l_117, l_120, l_144, l_200, l_201, l_240, l_300, l_320, l_400, l_500, l_550, l_560, l_649, l_650, l_1000, l_1400, l_2000, l_4000, l_10000, iN_add, iN_sub, iN_mul, iN_le_t, iN_le_f, iN_lt_t, iN_lt_f, iN_eq_f, inb_iN, ix_iN, isZ_0, isZ_1, ↓reduceIte, eq_self, eB, mix_ok, inner]
    · intro f h
      unfold f_X8_digest_l41_17
      simp (disch := omega) only [chk_t, beq_self_eq_true, nm_s, bj1_s, bj2_s, bj3_s, mo_1, mo_0, l_0, l_1, l_2, l_3, l_4, l_5, l_6, l_7, l_8, l_9, l_10, l_11, l_12, l_13, l_14, l_15, l_16, l_17, l_18, l_19, l_20, l_21, l_30, l_31, l_32, l_36, l_40, l_41, l_42, l_43, l_44, l_45, l_46, l_47, l_48, l_49, l_50, l_51, l_52, l_57, l_58, l_60, l_64, l_72, l_80, l_92, l_98, l_99, l_100, l_102, l_105, l_111, l_112, l_114, l_115, l_116, l_117, l_120, l_144, l_200, l_201, l_240, l_300, l_320, l_400, l_500, l_550, l_560, l_649, l_650, l_1000, l_1400, l_2000, l_4000, l_10000, iN_add, iN_sub, iN_mul, iN_le_t, iN_le_f, iN_lt_t, iN_lt_f, iN_eq_f, inb_iN, ix_iN, isZ_0, isZ_1, ↓reduceIte, eq_self]
  have k6 : ∀ h0, f_X8_digest_l95_33 FU (iN 0) (hj h0 (LG 0 G)) = some (hj (itL (dg6 G) 4 h0) (LG 0 G)) := by
    intro h0
    refine loop_ih f_X8_digest_l95_33 _ 4 h0 (LG 0 G) ?_ ?_ (fu_lt (by omega))
    · intro f r h hr
      obtain ⟨s1, s2, s3⟩ := h2 r hr
      unfold dg6
      obtain ⟨z, hz, ez, ek⟩ := sz_N s2 (by omega)
      rw [ez]
      have inner : ∀ h', f_X8_digest_l113_39 (iN r) FU (iN 0) (hj h' (LG 0 G)) = some (hj (itL (fun i h => 31 * h + (G.1 130 (80 * r + i)).toInt64) z h') (LG 0 G)) := by
        intro h'
        refine loop_ih (f_X8_digest_l113_39 (iN r)) _ z h' (LG 0 G) ?_ ?_ (fu_lt (by omega))
        · intro f i h hi
          have c0 : (G.1 129 r ≤ iN i) = False := by rw [szz 80 _ z i s2 ez hi (by omega)]; exact iN_le_f hi (by omega)
          conv => lhs; unfold f_X8_digest_l113_39
          unfold f_X8_byteAt
          simp (disch := omega) only [chk_t, beq_self_eq_true, nm_s, bj1_s, bj2_s, bj3_s, mo_1, mo_0, l_0, l_1, l_2, l_3, l_4, l_5, l_6, l_7, l_8, l_9, l_10, l_11, l_12, l_13, l_14, l_15, l_16, l_17, l_18, l_19, l_20, l_21, l_30, l_31, l_32, l_36, l_40, l_41, l_42, l_43, l_44, l_45, l_46, l_47, l_48, l_49, l_50, l_51, l_52, l_57, l_58, l_60, l_64, l_72, l_80, l_92, l_98, l_99, l_100, l_102, l_105, l_111, l_112, l_114, l_115, l_116, l_117, l_120, l_144, l_200, l_201, l_240, l_300, l_320, l_400, l_500, l_550, l_560, l_649, l_650, l_1000, l_1400, l_2000, l_4000, l_10000, iN_add, iN_sub, iN_mul, iN_le_t, iN_le_f, iN_lt_t, iN_lt_f, iN_eq_f, inb_iN, ix_iN, isZ_0, isZ_1, ↓reduceIte, eq_self, eB, c0, mix_ok]
        · intro f h
          have c0 : (G.1 129 r ≤ iN z) = True := (ek z (by omega)).mpr (Nat.le_refl z)
          unfold f_X8_digest_l113_39
          simp (disch := omega) only [chk_t, beq_self_eq_true, nm_s, bj1_s, bj2_s, bj3_s, mo_1, mo_0, l_0, l_1, l_2, l_3, l_4, l_5, l_6, l_7, l_8, l_9, l_10, l_11, l_12, l_13, l_14, l_15, l_16, l_17, l_18, l_19, l_20, l_21, l_30, l_31, l_32, l_36, l_40, l_41, l_42, l_43, l_44, l_45, l_46, l_47, l_48, l_49, l_50, l_51, l_52, l_57, l_58, l_60, l_64, l_72, l_80, l_92, l_98, l_99, l_100, l_102, l_105, l_111, l_112, l_114, l_115, l_116, l_117, l_120, l_144, l_200, l_201, l_240, l_300, l_320, l_400, l_500, l_550, l_560, l_649, l_650, l_1000, l_1400, l_2000, l_4000, l_10000, iN_add, iN_sub, iN_mul, iN_le_t, iN_le_f, iN_lt_t, iN_lt_f, iN_eq_f, inb_iN, ix_iN, isZ_0, isZ_1, ↓reduceIte, eq_self, eB, c0]
      conv => lhs; unfold f_X8_digest_l95_33
      simp (disch := omega) only [chk_t, beq_self_eq_true, nm_s, bj1_s, bj2_s, bj3_s, mo_1, mo_0, l_0, l_1, l_2, l_3, l_4, l_5, l_6, l_7, l_8, l_9, l_10, l_11, l_12, l_13, l_14, l_15, l_16, l_17, l_18, l_19, l_20, l_21, l_30, l_31, l_32, l_36, l_40, l_41, l_42, l_43, l_44, l_45, l_46, l_47, l_48, l_49, l_50, l_51, l_52, l_57, l_58, l_60, l_64, l_72, l_80, l_92, l_98, l_99, l_100, l_102, l_105, l_111, l_112, l_114, l_115, l_116, l_117, l_120, l_144, l_200, l_201, l_240, l_300, l_320, l_400, l_500, l_550, l_560, l_649, l_650, l_1000, l_1400, l_2000, l_4000, l_10000, iN_add, iN_sub, iN_mul, iN_le_t, iN_le_f, iN_lt_t, iN_lt_f, iN_eq_f, inb_iN, ix_iN, isZ_0, isZ_1, ↓reduceIte, eq_self, eB, mix_ok, inner]
    · intro f h
      unfold f_X8_digest_l95_33
      simp (disch := omega) only [chk_t, beq_self_eq_true, nm_s, bj1_s, bj2_s, bj3_s, mo_1, mo_0, l_0, l_1, l_2, l_3, l_4, l_5, l_6, l_7, l_8, l_9, l_10, l_11, l_12, l_13, l_14, l_15, l_16, l_17, l_18, l_19, l_20, l_21, l_30, l_31, l_32, l_36, l_40, l_41, l_42, l_43, l_44, l_45, l_46, l_47, l_48, l_49, l_50, l_51, l_52, l_57, l_58, l_60, l_64, l_72, l_80, l_92, l_98, l_99, l_100, l_102, l_105, l_111, l_112, l_114, l_115, l_116, l_117, l_120, l_144, l_200, l_201, l_240, l_300, l_320, l_400, l_500, l_550, l_560, l_649, l_650, l_1000, l_1400, l_2000, l_4000, l_10000, iN_add, iN_sub, iN_mul, iN_le_t, iN_le_f, iN_lt_t, iN_lt_f, iN_eq_f, inb_iN, ix_iN, isZ_0, isZ_1, ↓reduceIte, eq_self]
  have fin : f_X8_digest G = bj1 (f_X8_digest_l9_4 FU (iN 0) (hj 17 G)) (fun G10 => bj1 (f_X8_mixBooks G10) fun G11 => bj1 (f_X8_mixDish G11) fun G13 => bj1 (f_X8_digest_l41_17 FU (iN 0) G13) fun G30 => bj1 (f_X8_digest_l95_33 FU (iN 0) G30) fun G46 => some (G46.2 124 30, G46)) := rfl
  rw [fin, k1, bj1_s]
  unfold f_X8_mixBooks
  simp (disch := omega) only [chk_t, beq_self_eq_true, nm_s, bj1_s, bj2_s, bj3_s, mo_1, mo_0, l_0, l_1, l_2, l_3, l_4, l_5, l_6, l_7, l_8, l_9, l_10, l_11, l_12, l_13, l_14, l_15, l_16, l_17, l_18, l_19, l_20, l_21, l_30, l_31, l_32, l_36, l_40, l_41, l_42, l_43, l_44, l_45, l_46, l_47, l_48, l_49, l_50, l_51, l_52, l_57, l_58, l_60, l_64, l_72, l_80, l_92, l_98, l_99, l_100, l_102, l_105, l_111, l_112, l_114, l_115, l_116, l_117, l_120, l_144, l_200, l_201, l_240, l_300, l_320, l_400, l_500, l_550, l_560, l_649, l_650, l_1000, l_1400, l_2000, l_4000, l_10000, iN_add, iN_sub, iN_mul, iN_le_t, iN_le_f, iN_lt_t, iN_lt_f, iN_eq_f, inb_iN, ix_iN, isZ_0, isZ_1, ↓reduceIte, eq_self, k2, k3, k4, k5, k6, hj_h]
  rfl
theorem op_digest {G : G_} (h : RR G) : ∃ x H, f_X7_digest G = some x ∧ f_X8_digest G = some (x, H) ∧ RR H := by
  refine ⟨digS G, hj (digS G) (LG 0 G), cdig_ok h.1, mdig_ok h.1, RR0_hj (RR0_kp h.1 (kp_mf mf_LG)), ?_⟩
  show (LG 0 G).1 0 16 = (LG 0 G).1 124 2
  rw [LG_o (by omega), LG_j (by omega)]
  exact h.2

/-! order -/
theorem RR_1k {G G' : G_} (h : RR G) (r1 : R1 G') (e : ∀ q, relq q → (q < 51 ∨ 63 ≤ q) → q ≠ 126 → q ≠ 127 → G'.1 q = G.1 q) (e0 : G'.1 0 15 = G.1 0 15) (e1 : G'.1 124 0 = G.1 124 0) (e3 : ∀ j, j < 448 → G'.1 139 j = G.1 139 j) (e2 : G'.2 = G.2) (ez : isZ (G'.1 17 7) = true) (ra : G'.1 0 16 = G'.1 124 2) : RR G' := by
  obtain ⟨⟨_, r2, r3, r4, r5, r6⟩, _⟩ := h
  have e : ∀ q, ((1 ≤ q ∧ q ≤ 16) ∨ (50 ≤ q ∧ q < 124) ∨ (125 ≤ q ∧ q ≤ 135 ∧ q ≠ 128) ∨ q = 138) → (q < 51 ∨ 63 ≤ q) → q ≠ 126 → q ≠ 127 → G'.1 q = G.1 q := e
  refine ⟨⟨r1, R2_fr r2 (fun q hq => e q (by omega) (by omega) (by omega) (by omega)), R3_fr r3 (fun q hq => e q (by omega) (by omega) (by omega) (by omega)), R4_fr r4 (fun q hq => e q (by omega) (by omega) (by omega) (by omega)), R5_fr r5 (fun q hq => e q (by omega) (by omega) (by omega) (by omega)) e3, ?_⟩, ra⟩
  exact ⟨by rw [e0, e1]; exact r6.1, by rw [e 50 (by omega) (by omega) (by omega) (by omega), e 125 (by omega) (by omega) (by omega) (by omega)]; exact r6.2.1, by rw [e2]; exact r6.2.2.1, by rw [e2]; exact r6.2.2.2.1, ez⟩
theorem t_shrN : ∀ x, x < 4 → ∀ s, s < 16 → (iN s >>> (iN x &&& iN 31)) &&& iN 1 = iN (s / 2 ^ x % 2) := by decide +kernel
def thr (G : G_) (k : Nat) : Prop := G.1 131 k = iN 1 ∧ G.1 133 k = iN 1
def thA4 (a : Nat) (G : G_) (j : Nat) : Prop := ∀ i, i < j → a / 2 ^ i % 2 = 1 → thr G i
theorem N01 : ¬ iN 0 = iN 1 := by decide
theorem both_01 {G : G_} {k : Nat} (h : RR G) (hk : k < 4) : (G.1 131 k = iN 0 ∨ G.1 131 k = iN 1) ∧ (G.1 133 k = iN 0 ∨ G.1 133 k = iN 1) := by
  have r := (h.1.2.2.1 k hk).2.1
  have t := (h.1.2.2.2.1 k hk).2.1
  refine ⟨?_, ?_⟩
  · rcases r with r | r
    · exact Or.inl r
    · exact Or.inr r.1
  · rcases t with r | r
    · exact Or.inl r
    · exact Or.inr r.1
theorem hasB_t {G : G_} {k : Nat} (h : RR G) (hk : k < 4) (ht : thr G k) : f_X7_hasBoth (iN k) G = some (iN 1) := by
  obtain ⟨pa, pk⟩ := planAt_ok (G := G) hk
  obtain ⟨sa, sk⟩ := slabAt_ok (G := G) hk
  have r := (h.1.2.2.1 k hk).1
  have t := (h.1.2.2.2.1 k hk).1
  rw [ht.1] at r
  rw [ht.2] at t
  unfold f_X7_hasBoth
  simp (disch := omega) only [chk_t, beq_self_eq_true, nm_s, bj1_s, bj2_s, bj3_s, mo_1, mo_0, l_0, l_1, l_2, l_3, l_4, l_5, l_6, l_7, l_8, l_9, l_10, l_11, l_12, l_13, l_14, l_15, l_16, l_17, l_18, l_19, l_20, l_21, l_30, l_31, l_32, l_36, l_40, l_41, l_42, l_43, l_44, l_45, l_46, l_47, l_48, l_49, l_50, l_51, l_52, l_57, l_58, l_60, l_64, l_72, l_80, l_92, l_98, l_99, l_100, l_102, l_105, l_111, l_112, l_114, l_115, l_116, l_117, l_120, l_144, l_200, l_201, l_240, l_300, l_320, l_400, l_500, l_550, l_560, l_649, l_650, l_1000, l_1400, l_2000, l_4000, l_10000, iN_add, iN_sub, iN_mul, iN_le_t, iN_le_f, iN_lt_t, iN_lt_f, iN_eq_f, inb_iN, ix_iN, isZ_0, isZ_1, ↓reduceIte, eq_self, sa, pa, kd_b sk, kd_b pk, r, t]
theorem hasB_f {G : G_} {k : Nat} (h : RR G) (hk : k < 4) (ht : ¬ thr G k) : f_X7_hasBoth (iN k) G = some (iN 0) := by
  obtain ⟨pa, pk⟩ := planAt_ok (G := G) hk
  obtain ⟨sa, sk⟩ := slabAt_ok (G := G) hk
  have r := (h.1.2.2.1 k hk).1
  have t := (h.1.2.2.2.1 k hk).1
  obtain ⟨b1, b2⟩ := both_01 h hk
  unfold f_X7_hasBoth
  rcases b1 with b1 | b1
  · rw [b1] at r
    simp (disch := omega) only [chk_t, beq_self_eq_true, nm_s, bj1_s, bj2_s, bj3_s, mo_1, mo_0, l_0, l_1, l_2, l_3, l_4, l_5, l_6, l_7, l_8, l_9, l_10, l_11, l_12, l_13, l_14, l_15, l_16, l_17, l_18, l_19, l_20, l_21, l_30, l_31, l_32, l_36, l_40, l_41, l_42, l_43, l_44, l_45, l_46, l_47, l_48, l_49, l_50, l_51, l_52, l_57, l_58, l_60, l_64, l_72, l_80, l_92, l_98, l_99, l_100, l_102, l_105, l_111, l_112, l_114, l_115, l_116, l_117, l_120, l_144, l_200, l_201, l_240, l_300, l_320, l_400, l_500, l_550, l_560, l_649, l_650, l_1000, l_1400, l_2000, l_4000, l_10000, iN_add, iN_sub, iN_mul, iN_le_t, iN_le_f, iN_lt_t, iN_lt_f, iN_eq_f, inb_iN, ix_iN, isZ_0, isZ_1, ↓reduceIte, eq_self, sa, pa, kd_b sk, kd_b pk, r]
  · rcases b2 with b2 | b2
    · rw [b1] at r
      rw [b2] at t
      simp (disch := omega) only [chk_t, beq_self_eq_true, nm_s, bj1_s, bj2_s, bj3_s, mo_1, mo_0, l_0, l_1, l_2, l_3, l_4, l_5, l_6, l_7, l_8, l_9, l_10, l_11, l_12, l_13, l_14, l_15, l_16, l_17, l_18, l_19, l_20, l_21, l_30, l_31, l_32, l_36, l_40, l_41, l_42, l_43, l_44, l_45, l_46, l_47, l_48, l_49, l_50, l_51, l_52, l_57, l_58, l_60, l_64, l_72, l_80, l_92, l_98, l_99, l_100, l_102, l_105, l_111, l_112, l_114, l_115, l_116, l_117, l_120, l_144, l_200, l_201, l_240, l_300, l_320, l_400, l_500, l_550, l_560, l_649, l_650, l_1000, l_1400, l_2000, l_4000, l_10000, iN_add, iN_sub, iN_mul, iN_le_t, iN_le_f, iN_lt_t, iN_lt_f, iN_eq_f, inb_iN, ix_iN, isZ_0, isZ_1, ↓reduceIte, eq_self, sa, pa, kd_b sk, kd_b pk, r, t]
    · exact absurd ⟨b1, b2⟩ ht
theorem l25_miss {a p : Nat} {G : G_} (h : RR G) (ha : a < 16) (hm : ¬ thA4 a G 4) : f_X7_order_l25_8 (iN a) p G FU (iN 0) = some (-iN 3, fndC 1 G) := by
  refine loop_iv (fun f v (_ : Unit) => f_X7_order_l25_8 (iN a) p G f v) (fun j _ => thA4 a G j) (fun o => o = some (-iN 3, fndC 1 G)) 0 4 ?_ ?_ (by omega) (n := FU) (fu_lt (by omega)) (s := ()) (fun i hi => by omega)
  · intro f j _ h3 h4 hI
    have is := t_isIn j h4 a ha
    rcases bit_01 a j with c | c
    · refine Or.inl ⟨(), fun i hi hb => ?_, ?_⟩
      · by_cases e : i = j
        · rw [e] at hb
          omega
        · exact hI i (by omega) hb
      · show f_X7_order_l25_8 (iN a) p G (f + 1) (iN j) = _
        rw [c] at is
        conv => lhs; unfold f_X7_order_l25_8
        rw [l_4, if_neg (of_eq_false (iN_le_f (by omega) (by omega))), is, bj1_s]
        refine (if_pos (show iN 0 = 0 from rfl)).trans ?_
        rw [l_1, iN_add]
    · by_cases t : thr G j
      · refine Or.inl ⟨(), fun i hi hb => ?_, ?_⟩
        · by_cases e : i = j
          · rw [e]
            exact t
          · exact hI i (by omega) hb
        · show f_X7_order_l25_8 (iN a) p G (f + 1) (iN j) = _
          rw [c] at is
          conv => lhs; unfold f_X7_order_l25_8
          rw [l_4, if_neg (of_eq_false (iN_le_f (by omega) (by omega))), is, bj1_s]
          refine (if_neg (show ¬ iN 1 = 0 by decide)).trans ?_
          rw [hasB_t h h4 t, bj1_s]
          refine (if_neg (show ¬ iN 1 = 0 by decide)).trans ?_
          rw [l_1, iN_add]
      · refine Or.inr ?_
        show f_X7_order_l25_8 (iN a) p G (f + 1) (iN j) = _
        rw [c] at is
        conv => lhs; unfold f_X7_order_l25_8
        rw [l_4, if_neg (of_eq_false (iN_le_f (by omega) (by omega))), is, bj1_s]
        refine (if_neg (show ¬ iN 1 = 0 by decide)).trans ?_
        rw [hasB_f h h4 t, bj1_s]
        refine (if_pos (show iN 0 = 0 from rfl)).trans ?_
        rw [l_1, found_ok (by omega), bj2_s]
  · intro f _ hI
    exact absurd hI hm
theorem l25_there {a p : Nat} {G : G_} {R : Option (Int32 × G_)} (h : RR G) (ha : a < 16) (hm : thA4 a G 4) (hR : ∀ f, f_X7_order_l25_8 (iN a) p G (f + 1) (iN 4) = R) : f_X7_order_l25_8 (iN a) p G FU (iN 0) = R := by
  refine loop_cl (fun f v (_ : Unit) => f_X7_order_l25_8 (iN a) p G f v) (fun _ => ()) 0 4 R ?_ hR (by omega) (n := FU) (fu_lt (by omega))
  intro f j h3 h4
  have is := t_isIn j h4 a ha
  show f_X7_order_l25_8 (iN a) p G (f + 1) (iN j) = f_X7_order_l25_8 (iN a) p G f (iN (j + 1))
  rcases bit_01 a j with c | c
  · rw [c] at is
    conv => lhs; unfold f_X7_order_l25_8
    rw [l_4, if_neg (of_eq_false (iN_le_f (by omega) (by omega))), is, bj1_s]
    refine (if_pos (show iN 0 = 0 from rfl)).trans ?_
    rw [l_1, iN_add]
  · rw [c] at is
    conv => lhs; unfold f_X7_order_l25_8
    rw [l_4, if_neg (of_eq_false (iN_le_f (by omega) (by omega))), is, bj1_s]
    refine (if_neg (show ¬ iN 1 = 0 by decide)).trans ?_
    rw [hasB_t h h4 (hm j h4 c), bj1_s]
    refine (if_neg (show ¬ iN 1 = 0 by decide)).trans ?_
    rw [l_1, iN_add]
def cnJ (a : Nat) : Nat → Nat
  | 0 => 0
  | j + 1 => cnJ a j + a / 2 ^ j % 2
theorem t_cn : ∀ a, a < 16 → cnJ a 4 = pcS a := by decide +kernel
theorem fc_s (n : Nat) : iN (fcN n) * (iN n + iN 1) = iN (fcN (n + 1)) := by
  rw [iN_add, iN_mul, Nat.mul_comm]
  rfl
theorem l30_ok {a : Nat} {a2 : Int32} {G : G_} (ha : a < 16) (hb : ∀ k, k < 4 → (G.1 131 k = iN 0 ∨ G.1 131 k = iN 1) ∧ (G.1 133 k = iN 0 ∨ G.1 133 k = iN 1)) :
    ∃ r, f_X8_order_l30_9 (iN a) a2 G FU (iN 1) (iN 0) (iN 1) (iN 0) = some r ∧ r.2.1 = iN (pcS a) ∧ r.2.2 = iN (fcN (pcS a)) ∧ ((thA4 a G 4 ∧ r.1 = iN 1) ∨ (¬ thA4 a G 4 ∧ r.1 = iN 0)) := by
  have key := loop_h (fun f v (s : Int32 × Int32 × Int32) => f_X8_order_l30_9 (iN a) a2 G f s.1 s.2.1 s.2.2 v) (fun j s => s.2.1 = iN (cnJ a j) ∧ s.2.2 = iN (fcN (cnJ a j)) ∧ ((thA4 a G j ∧ s.1 = iN 1) ∨ (¬ thA4 a G j ∧ s.1 = iN 0))) (fun r => r.2.1 = iN (cnJ a 4) ∧ r.2.2 = iN (fcN (cnJ a 4)) ∧ ((thA4 a G 4 ∧ r.1 = iN 1) ∨ (¬ thA4 a G 4 ∧ r.1 = iN 0))) 0 4 ?_ ?_ (by omega) (n := FU) (fu_lt (by omega)) (s := (iN 1, iN 0, iN 1)) ⟨rfl, rfl, Or.inl ⟨fun i hi => by omega, rfl⟩⟩
  · rw [t_cn a ha] at key
    exact key
  · intro f j ⟨v5, v6, v7⟩ h3 h4 ⟨i0, i1, i2⟩
    have i0 : v6 = iN (cnJ a j) := i0
    have i1 : v7 = iN (fcN (cnJ a j)) := i1
    have i2 : (thA4 a G j ∧ v5 = iN 1) ∨ (¬ thA4 a G j ∧ v5 = iN 0) := i2
    subst i0 i1
    have sh := t_shrN j h4 a ha
    have tS : thA4 a G (j + 1) ↔ thA4 a G j ∧ (a / 2 ^ j % 2 = 1 → thr G j) := by
      refine ⟨fun h => ⟨fun i hi => h i (by omega), h j (by omega)⟩, fun h i hi hb => ?_⟩
      by_cases e : i = j
      · subst e
        exact h.2 hb
      · exact h.1 i (by omega) hb
    have ecn : cnJ a (j + 1) = cnJ a j + a / 2 ^ j % 2 := rfl
    rcases bit_01 a j with c | c
    · rw [c] at sh
      have ecn : cnJ a (j + 1) = cnJ a j := by rw [ecn, c]; rfl
      refine ⟨(v5, iN (cnJ a j), iN (fcN (cnJ a j))), ⟨by rw [ecn], by rw [ecn], ?_⟩, ?_⟩
      · rcases i2 with ⟨e1, e2⟩ | ⟨e1, e2⟩
        · exact Or.inl ⟨tS.mpr ⟨e1, fun h => by omega⟩, e2⟩
        · exact Or.inr ⟨fun h => e1 (tS.mp h).1, e2⟩
      · show f_X8_order_l30_9 (iN a) a2 G (f + 1) v5 (iN (cnJ a j)) (iN (fcN (cnJ a j))) (iN j) = _
        conv => lhs; unfold f_X8_order_l30_9
        simp (disch := omega) only [chk_t, beq_self_eq_true, nm_s, bj1_s, bj2_s, bj3_s, mo_1, mo_0, l_0, l_1, l_2, l_3, l_4, l_5, l_6, l_7, l_8, l_9, l_10, l_11, l_12, l_13, l_14, l_15, l_16, l_17, l_18, l_19, l_20, l_21, l_30, l_31, l_32, l_36, l_40, l_41, l_42, l_43, l_44, l_45, l_46, l_47, l_48, l_49, l_50, l_51, l_52, l_57, l_58, l_60, l_64, l_72, l_80, l_92, l_98, l_99, l_100, l_102, l_105, l_111, l_112, l_114, l_115, l_116, l_117, l_120, l_144, l_200, l_201, l_240, l_300, l_320, l_400, l_500, l_550, l_560, l_649, l_650, l_1000, l_1400, l_2000, l_4000, l_10000, iN_add, iN_sub, iN_mul, iN_le_t, iN_le_f, iN_lt_t, iN_lt_f, iN_eq_f, inb_iN, ix_iN, isZ_0, isZ_1, ↓reduceIte, eq_self, sh]
    · rw [c] at sh ecn
      have fs := fc_s (cnJ a j)
      have go : ∀ y, ((thA4 a G (j + 1) ∧ y = iN 1) ∨ (¬ thA4 a G (j + 1) ∧ y = iN 0)) → (f_X8_order_l30_9 (iN a) a2 G (f + 1) v5 (iN (cnJ a j)) (iN (fcN (cnJ a j))) (iN j) = f_X8_order_l30_9 (iN a) a2 G f y (iN (cnJ a j + 1)) (iN (fcN (cnJ a j + 1))) (iN (j + 1))) → ∃ s' : Int32 × Int32 × Int32, (s'.2.1 = iN (cnJ a (j + 1)) ∧ s'.2.2 = iN (fcN (cnJ a (j + 1))) ∧ ((thA4 a G (j + 1) ∧ s'.1 = iN 1) ∨ (¬ thA4 a G (j + 1) ∧ s'.1 = iN 0))) ∧ f_X8_order_l30_9 (iN a) a2 G (f + 1) v5 (iN (cnJ a j)) (iN (fcN (cnJ a j))) (iN j) = f_X8_order_l30_9 (iN a) a2 G f s'.1 s'.2.1 s'.2.2 (iN (j + 1)) := fun y h1 h2 => ⟨(y, iN (cnJ a j + 1), iN (fcN (cnJ a j + 1))), ⟨by rw [ecn], by rw [ecn], h1⟩, h2⟩
      have mul : iN (fcN (cnJ a j)) * iN (cnJ a j + 1) = iN (fcN (cnJ a j + 1)) := by rw [← fs, iN_add]
      rcases i2 with ⟨e1, e2⟩ | ⟨e1, e2⟩
      · subst e2
        obtain ⟨b1, b2⟩ := hb j h4
        rcases b1 with b1 | b1
        · refine go (iN 0) (Or.inr ⟨fun h => ?_, rfl⟩) ?_
          · have := ((tS.mp h).2 c).1
            rw [b1] at this
            exact N01 this
          · conv => lhs; unfold f_X8_order_l30_9
            simp (disch := omega) only [chk_t, nm_s, bj1_s, l_0, l_1, l_4, l_31, iN_le_f, ↓reduceIte, eq_self, sh, iN_eq_f, b1, inb_iN, ix_iN, iN_add, mul]
        · rcases b2 with b2 | b2
          · refine go (iN 0) (Or.inr ⟨fun h => ?_, rfl⟩) ?_
            · have := ((tS.mp h).2 c).2
              rw [b2] at this
              exact N01 this
            · conv => lhs; unfold f_X8_order_l30_9
              simp (disch := omega) only [chk_t, nm_s, bj1_s, l_0, l_1, l_4, l_31, iN_le_f, ↓reduceIte, eq_self, sh, iN_eq_f, b1, b2, inb_iN, ix_iN, iN_add, mul]
          · refine go (iN 1) (Or.inl ⟨tS.mpr ⟨e1, fun _ => ⟨b1, b2⟩⟩, rfl⟩) ?_
            conv => lhs; unfold f_X8_order_l30_9
            simp (disch := omega) only [chk_t, nm_s, bj1_s, l_0, l_1, l_4, l_31, iN_le_f, ↓reduceIte, eq_self, sh, iN_eq_f, b1, b2, inb_iN, ix_iN, iN_add, mul]
      · subst e2
        refine go (iN 0) (Or.inr ⟨fun h => e1 (tS.mp h).1, rfl⟩) ?_
        conv => lhs; unfold f_X8_order_l30_9
        simp (disch := omega) only [chk_t, nm_s, bj1_s, l_0, l_1, l_4, l_31, iN_le_f, ↓reduceIte, eq_self, sh, iN_eq_f, inb_iN, ix_iN, iN_add, mul]
  · intro f ⟨v5, v6, v7⟩ hI
    refine ⟨(v5, v6, v7), ?_, hI⟩
    show f_X8_order_l30_9 (iN a) a2 G (f + 1) v5 v6 v7 (iN 4) = _
    unfold f_X8_order_l30_9
    simp (disch := omega) only [chk_t, beq_self_eq_true, nm_s, bj1_s, bj2_s, bj3_s, mo_1, mo_0, l_0, l_1, l_2, l_3, l_4, l_5, l_6, l_7, l_8, l_9, l_10, l_11, l_12, l_13, l_14, l_15, l_16, l_17, l_18, l_19, l_20, l_21, l_30, l_31, l_32, l_36, l_40, l_41, l_42, l_43, l_44, l_45, l_46, l_47, l_48, l_49, l_50, l_51, l_52, l_57, l_58, l_60, l_64, l_72, l_80, l_92, l_98, l_99, l_100, l_102, l_105, l_111, l_112, l_114, l_115, l_116, l_117, l_120, l_144, l_200, l_201, l_240, l_300, l_320, l_400, l_500, l_550, l_560, l_649, l_650, l_1000, l_1400, l_2000, l_4000, l_10000, iN_add, iN_sub, iN_mul, iN_le_t, iN_le_f, iN_lt_t, iN_lt_f, iN_eq_f, inb_iN, ix_iN, isZ_0, isZ_1, ↓reduceIte, eq_self]
theorem dat_of {a : Nat} {G : G_} (h : RR G) (hall : thA4 a G 4) : ∃ T ls, datA a T ls G := by
  have key : ∀ k, k < 4 → a / 2 ^ k % 2 = 1 → ∃ n mm, slR (newP k k G) n ∧ plR (newP k k G) mm ∧ cSl (71 + k) (newP k k G) G ∧ cPl (75 + 4 * k) (newP k k G) G ∧ PL k G 4 = iN mm ∧ (∃ t, t ≤ 200 ∧ tkS (PL k G) = iN t ∧ tkS (newP k k G) = iN t) ∧ ∀ t, ∃ j, j ≤ 2000 ∧ lossS (restS (mkS (newP k k G)) t) = iN j := by
    intro k hk hb
    obtain ⟨e1, e2⟩ := hall k hk hb
    obtain ⟨r1, r2, r3⟩ := h.1.2.2.1 k hk
    obtain ⟨t1, t2, t3⟩ := h.1.2.2.2.1 k hk
    rcases r2 with r2 | ⟨r2, n, hsl⟩
    · rw [e1] at r2
      exact absurd r2.symm N01
    · rcases t2 with t2 | ⟨t2, mm, hpl⟩
      · rw [e2] at t2
        exact absurd t2.symm N01
      · have hX := np_sl (p := k) hsl
        have hP := np_pl (k := k) hpl
        obtain ⟨t, ht, et⟩ := hpl.2.2.2
        have etk : tkS (newP k k G) = tkS (PL k G) := tk_X hpl.1 hpl.2.1
        have wm := wf_mk hX hP
        exact ⟨n, mm, hX, hP, np_c (p := k) r3, np_cp (k := k) hpl (t3 t2), hpl.1, ⟨t, ht, et, etk.trans et⟩, fun t => loss_R (wf_rest (k := t) wm) (jB_rest wm (jB_mk hX hP))⟩
  refine ⟨fun k => if k < 4 ∧ a / 2 ^ k % 2 = 1 then ix (tkS (PL k G)) else 0, fun k t => if k < 4 ∧ a / 2 ^ k % 2 = 1 then ix (lossS (restS (mkS (newP k k G)) t)) else 0, fun k hk => ?_, fun k t => ?_, fun k hk hb => ?_⟩
  · show (if k < 4 ∧ a / 2 ^ k % 2 = 1 then ix (tkS (PL k G)) else 0) ≤ 200
    by_cases c : k < 4 ∧ a / 2 ^ k % 2 = 1
    · obtain ⟨-, -, -, -, -, -, -, ⟨t, ht, et, -⟩, -⟩ := key k c.1 c.2
      rw [if_pos c, et, ix_iN (by omega)]
      exact ht
    · rw [if_neg c]
      omega
  · show (if k < 4 ∧ a / 2 ^ k % 2 = 1 then ix (lossS (restS (mkS (newP k k G)) t)) else 0) ≤ 2000
    by_cases c : k < 4 ∧ a / 2 ^ k % 2 = 1
    · obtain ⟨-, -, -, -, -, -, -, -, hl⟩ := key k c.1 c.2
      obtain ⟨j, hj, ej⟩ := hl t
      rw [if_pos c, ej, ix_iN (by omega)]
      exact hj
    · rw [if_neg c]
      omega
  · obtain ⟨n, mm, hX, hP, hc, hcp, h4, ⟨t, ht, et, et2⟩, hl⟩ := key k hk hb
    obtain ⟨e1, e2⟩ := hall k hk hb
    refine ⟨e1, e2, (h.1.2.2.1 k hk).1.trans e1, (h.1.2.2.2.1 k hk).1.trans e2, n, mm, hX, hP, hc, hcp, h4, ?_, ?_, fun s => ?_⟩
    · show _ = iN (if k < 4 ∧ a / 2 ^ k % 2 = 1 then ix (tkS (PL k G)) else 0)
      rw [if_pos ⟨hk, hb⟩, et, ix_iN (by omega)]
    · show _ = iN (if k < 4 ∧ a / 2 ^ k % 2 = 1 then ix (tkS (PL k G)) else 0)
      rw [if_pos ⟨hk, hb⟩, et2, et, ix_iN (by omega)]
    · obtain ⟨j, hj, ej⟩ := hl s
      show _ = iN (if k < 4 ∧ a / 2 ^ k % 2 = 1 then ix (lossS (restS (mkS (newP k k G)) s)) else 0)
      rw [if_pos ⟨hk, hb⟩, ej, ix_iN (by omega)]
theorem newP_cg {k : Nat} {G H : G_} (e : ∀ q, 63 ≤ q → H.1 q = G.1 q) : newP k k H = newP k k G := by
  unfold newP newX
  rw [PL_fr (e 134 (by omega)) (e 135 (by omega)), SL_fr (e 132 (by omega)), DM_of (e 139 (by omega))]
theorem datA_cg {a : Nat} {T : Nat → Nat} {ls : Nat → Nat → Nat} {G H : G_} (h : datA a T ls G) (e : ∀ q, 63 ≤ q → H.1 q = G.1 q) : datA a T ls H := by
  obtain ⟨d1, d2, d3⟩ := h
  refine ⟨d1, d2, fun k hk hb => ?_⟩
  obtain ⟨e1, e2, e3, e4, n, mm, hX, hP, hc, hcp, h4, g1, g2, g3⟩ := d3 k hk hb
  unfold datK
  rw [newP_cg e, PL_fr (e 134 (by omega)) (e 135 (by omega)), e 131 (by omega), e 133 (by omega), e (71 + k) (by omega), e (75 + 4 * k) (by omega)]
  exact ⟨e1, e2, e3, e4, n, mm, hX, hP, cSl_cc hc (e (71 + k) (by omega)), cPl_cc hcp (fun q h1 h2 => e q (by omega)), h4, g1, g2, g3⟩
theorem bestAt_ok {i : Nat} {G : G_} (hi : i < 4) : f_X1_bestAt (iN i) G = some (G.1 47 i) := by
  have e1 : inS (iN 0) (iN 3) (iN i) = iN 1 := inS_t (by omega) (by omega)
  unfold f_X1_bestAt
  simp (disch := omega) only [chk_t, beq_self_eq_true, nm_s, bj1_s, bj2_s, bj3_s, mo_1, mo_0, l_0, l_1, l_2, l_3, l_4, l_5, l_6, l_7, l_8, l_9, l_10, l_11, l_12, l_13, l_14, l_15, l_16, l_17, l_18, l_19, l_20, l_21, l_30, l_31, l_32, l_36, l_40, l_41, l_42, l_43, l_44, l_45, l_46, l_47, l_48, l_49, l_50, l_51, l_52, l_57, l_58, l_60, l_64, l_72, l_80, l_92, l_98, l_99, l_100, l_102, l_105, l_111, l_112, l_114, l_115, l_116, l_117, l_120, l_144, l_200, l_201, l_240, l_300, l_320, l_400, l_500, l_550, l_560, l_649, l_650, l_1000, l_1400, l_2000, l_4000, l_10000, iN_add, iN_sub, iN_mul, iN_le_t, iN_le_f, iN_lt_t, iN_lt_f, iN_eq_f, inb_iN, ix_iN, isZ_0, isZ_1, ↓reduceIte, eq_self, in7, e1]
theorem l111_ok {p n : Nat} {F : Nat → Int32} {G : G_} (ho : kd p = 4) (hp : 48 ≤ p) (hn : n ≤ 4) (h1 : G.1 p 1 = iN n) (hz : ∀ i, i < 40 → G.1 (p + 1) i = iN 0) (hF : ∀ i, i < n → G.1 47 i = F i) :
    ∃ H, f_X7_order_l111_27 p FU (iN 0) G = some H ∧ H.1 p 1 = iN n ∧ (∀ i, i < 40 → H.1 (p + 1) i = if i < n then F i else iN 0) ∧ (∀ q, q ≠ p + 1 → H.1 q = G.1 q) ∧ H.2 = G.2 := by
  refine loop_h (fun f v s => f_X7_order_l111_27 p f v s) (fun j B => B.1 p 1 = iN n ∧ (∀ i, i < 40 → B.1 (p + 1) i = if i < j then F i else iN 0) ∧ (∀ q, q ≠ p + 1 → B.1 q = G.1 q) ∧ B.2 = G.2) _ 0 n ?_ ?_ (by omega) (n := FU) (fu_lt (by omega)) ⟨h1, fun i hi => by rw [if_neg (by omega)]; exact hz i hi, fun _ _ => rfl, rfl⟩
  · intro f j B h3 h4 ⟨i0, i1, i2, i3⟩
    have ba := bestAt_ok (i := j) (G := B) (by omega)
    rw [i2 47 (by omega), hF j h4] at ba
    have rs := rset_ok (x := F j) ho i0 (show n ≤ 40 by omega) h4
    refine ⟨sI B (p + 1) j (F j), ⟨by rw [sI_p (by omega)]; exact i0, fun i hi => ?_, fun q h => by rw [sI_p h]; exact i2 q h, i3⟩, ?_⟩
    · by_cases c : i = j
      · subst c
        rw [sI_eq, if_pos (by omega)]
      · rw [sI_j c, i1 i hi]
        exact if_cg ⟨fun _ => by omega, fun _ => by omega⟩
    · show f_X7_order_l111_27 p (f + 1) (iN j) B = _
      conv => lhs; unfold f_X7_order_l111_27
      simp (disch := omega) only [chk_t, beq_self_eq_true, nm_s, bj1_s, bj2_s, bj3_s, mo_1, mo_0, l_0, l_1, l_2, l_3, l_4, l_5, l_6, l_7, l_8, l_9, l_10, l_11, l_12, l_13, l_14, l_15, l_16, l_17, l_18, l_19, l_20, l_21, l_30, l_31, l_32, l_36, l_40, l_41, l_42, l_43, l_44, l_45, l_46, l_47, l_48, l_49, l_50, l_51, l_52, l_57, l_58, l_60, l_64, l_72, l_80, l_92, l_98, l_99, l_100, l_102, l_105, l_111, l_112, l_114, l_115, l_116, l_117, l_120, l_144, l_200, l_201, l_240, l_300, l_320, l_400, l_500, l_550, l_560, l_649, l_650, l_1000, l_1400, l_2000, l_4000, l_10000, iN_add, iN_sub, iN_mul, iN_le_t, iN_le_f, iN_lt_t, iN_lt_f, iN_eq_f, inb_iN, ix_iN, isZ_0, isZ_1, ↓reduceIte, eq_self, i0, ba, rs]
  · intro f B ⟨i0, i1, i2, i3⟩
    refine ⟨B, ?_, i0, i1, i2, i3⟩
    show f_X7_order_l111_27 p (f + 1) (iN n) B = _
    unfold f_X7_order_l111_27
    simp (disch := omega) only [chk_t, beq_self_eq_true, nm_s, bj1_s, bj2_s, bj3_s, mo_1, mo_0, l_0, l_1, l_2, l_3, l_4, l_5, l_6, l_7, l_8, l_9, l_10, l_11, l_12, l_13, l_14, l_15, l_16, l_17, l_18, l_19, l_20, l_21, l_30, l_31, l_32, l_36, l_40, l_41, l_42, l_43, l_44, l_45, l_46, l_47, l_48, l_49, l_50, l_51, l_52, l_57, l_58, l_60, l_64, l_72, l_80, l_92, l_98, l_99, l_100, l_102, l_105, l_111, l_112, l_114, l_115, l_116, l_117, l_120, l_144, l_200, l_201, l_240, l_300, l_320, l_400, l_500, l_550, l_560, l_649, l_650, l_1000, l_1400, l_2000, l_4000, l_10000, iN_add, iN_sub, iN_mul, iN_le_t, iN_le_f, iN_lt_t, iN_lt_f, iN_eq_f, inb_iN, ix_iN, isZ_0, isZ_1, ↓reduceIte, eq_self, i0]
theorem op_order (a1 a2 : Int32) {G : G_} (h : RR G) : pOK (f_X7_order a1 a2) (f_X8_order a1 a2) G := by
  rcases row_cases a2 G with ⟨e1, c1⟩ | ⟨r, hr, rfl, e1, c1, ho⟩
  · refine pOK_same (x := -iN 1) h ?_ ?_
    · unfold f_X7_order
      simp (disch := omega) only [chk_t, beq_self_eq_true, nm_s, bj1_s, bj2_s, bj3_s, mo_1, mo_0, l_0, l_1, l_2, l_3, l_4, l_5, l_6, l_7, l_8, l_9, l_10, l_11, l_12, l_13, l_14, l_15, l_16, l_17, l_18, l_19, l_20, l_21, l_30, l_31, l_32, l_36, l_40, l_41, l_42, l_43, l_44, l_45, l_46, l_47, l_48, l_49, l_50, l_51, l_52, l_57, l_58, l_60, l_64, l_72, l_80, l_92, l_98, l_99, l_100, l_102, l_105, l_111, l_112, l_114, l_115, l_116, l_117, l_120, l_144, l_200, l_201, l_240, l_300, l_320, l_400, l_500, l_550, l_560, l_649, l_650, l_1000, l_1400, l_2000, l_4000, l_10000, iN_add, iN_sub, iN_mul, iN_le_t, iN_le_f, iN_lt_t, iN_lt_f, iN_eq_f, inb_iN, ix_iN, isZ_0, isZ_1, ↓reduceIte, eq_self, c1]
    · unfold f_X8_order
      rcases in_N 1 15 a1 with e | ⟨e, -⟩
      · simp (disch := omega) only [chk_t, beq_self_eq_true, nm_s, bj1_s, bj2_s, bj3_s, mo_1, mo_0, l_0, l_1, l_2, l_3, l_4, l_5, l_6, l_7, l_8, l_9, l_10, l_11, l_12, l_13, l_14, l_15, l_16, l_17, l_18, l_19, l_20, l_21, l_30, l_31, l_32, l_36, l_40, l_41, l_42, l_43, l_44, l_45, l_46, l_47, l_48, l_49, l_50, l_51, l_52, l_57, l_58, l_60, l_64, l_72, l_80, l_92, l_98, l_99, l_100, l_102, l_105, l_111, l_112, l_114, l_115, l_116, l_117, l_120, l_144, l_200, l_201, l_240, l_300, l_320, l_400, l_500, l_550, l_560, l_649, l_650, l_1000, l_1400, l_2000, l_4000, l_10000, iN_add, iN_sub, iN_mul, iN_le_t, iN_le_f, iN_lt_t, iN_lt_f, iN_eq_f, inb_iN, ix_iN, isZ_0, isZ_1, ↓reduceIte, eq_self, in8, e]
      · simp (disch := omega) only [chk_t, beq_self_eq_true, nm_s, bj1_s, bj2_s, bj3_s, mo_1, mo_0, l_0, l_1, l_2, l_3, l_4, l_5, l_6, l_7, l_8, l_9, l_10, l_11, l_12, l_13, l_14, l_15, l_16, l_17, l_18, l_19, l_20, l_21, l_30, l_31, l_32, l_36, l_40, l_41, l_42, l_43, l_44, l_45, l_46, l_47, l_48, l_49, l_50, l_51, l_52, l_57, l_58, l_60, l_64, l_72, l_80, l_92, l_98, l_99, l_100, l_102, l_105, l_111, l_112, l_114, l_115, l_116, l_117, l_120, l_144, l_200, l_201, l_240, l_300, l_320, l_400, l_500, l_550, l_560, l_649, l_650, l_1000, l_1400, l_2000, l_4000, l_10000, iN_add, iN_sub, iN_mul, iN_le_t, iN_le_f, iN_lt_t, iN_lt_f, iN_eq_f, inb_iN, ix_iN, isZ_0, isZ_1, ↓reduceIte, eq_self, in8, e, row8, e1]
  · rcases in_N 1 15 a1 with e | ⟨e, a, rfl, ha1, ha2⟩
    · refine pOK_same (x := -iN 1) h ?_ ?_
      · unfold f_X7_order
        simp (disch := omega) only [chk_t, beq_self_eq_true, nm_s, bj1_s, bj2_s, bj3_s, mo_1, mo_0, l_0, l_1, l_2, l_3, l_4, l_5, l_6, l_7, l_8, l_9, l_10, l_11, l_12, l_13, l_14, l_15, l_16, l_17, l_18, l_19, l_20, l_21, l_30, l_31, l_32, l_36, l_40, l_41, l_42, l_43, l_44, l_45, l_46, l_47, l_48, l_49, l_50, l_51, l_52, l_57, l_58, l_60, l_64, l_72, l_80, l_92, l_98, l_99, l_100, l_102, l_105, l_111, l_112, l_114, l_115, l_116, l_117, l_120, l_144, l_200, l_201, l_240, l_300, l_320, l_400, l_500, l_550, l_560, l_649, l_650, l_1000, l_1400, l_2000, l_4000, l_10000, iN_add, iN_sub, iN_mul, iN_le_t, iN_le_f, iN_lt_t, iN_lt_f, iN_eq_f, inb_iN, ix_iN, isZ_0, isZ_1, ↓reduceIte, eq_self, c1, kd_b ho, in7, e]
      · unfold f_X8_order
        simp (disch := omega) only [chk_t, beq_self_eq_true, nm_s, bj1_s, bj2_s, bj3_s, mo_1, mo_0, l_0, l_1, l_2, l_3, l_4, l_5, l_6, l_7, l_8, l_9, l_10, l_11, l_12, l_13, l_14, l_15, l_16, l_17, l_18, l_19, l_20, l_21, l_30, l_31, l_32, l_36, l_40, l_41, l_42, l_43, l_44, l_45, l_46, l_47, l_48, l_49, l_50, l_51, l_52, l_57, l_58, l_60, l_64, l_72, l_80, l_92, l_98, l_99, l_100, l_102, l_105, l_111, l_112, l_114, l_115, l_116, l_117, l_120, l_144, l_200, l_201, l_240, l_300, l_320, l_400, l_500, l_550, l_560, l_649, l_650, l_1000, l_1400, l_2000, l_4000, l_10000, iN_add, iN_sub, iN_mul, iN_le_t, iN_le_f, iN_lt_t, iN_lt_f, iN_eq_f, inb_iN, ix_iN, isZ_0, isZ_1, ↓reduceIte, eq_self, in8, e]
    · have ha : a < 16 := by omega
      have hb := fun k hk => both_01 (k := k) h hk
      by_cases hall : thA4 a G 4
      · obtain ⟨T, ls, hd⟩ := dat_of h hall
        have h4 := t_pc4 a ha
        obtain ⟨H1, x1, cc1, v1⟩ := tells_ok (p := 51 + 2 * r) hd ha
        obtain ⟨H2, rr, x2, fs, o2, j2, -, w2⟩ := cbest_ok ha hd.2.1 v1
        obtain ⟨H3, x3, s3, z3, o3, j3⟩ := rbegin_ok (o := 51 + 2 * r) (z := pcS a) (G := H2) ho (by omega)
        obtain ⟨H4, x4, s4, w4, o4, j4⟩ := l111_ok (F := H2.1 47) ho (by omega) h4 s3 z3 (fun i hi => by rw [o3 47 (by omega) (by omega)])
        have e4 : ∀ q, q ≠ 45 → q ≠ 47 → q ≠ 51 + 2 * r → q ≠ 51 + 2 * r + 1 → H4.1 q = H1.1 q := fun q q1 q2 q3 q4 => by rw [o4 q q4, o3 q q3 q4, o2 q q1 q2]
        have eG : ∀ q, q < 17 ∨ 49 < q → q ≠ 51 + 2 * r → q ≠ 51 + 2 * r + 1 → H4.1 q = G.1 q := fun q q1 q3 q4 => by rw [e4 q (by omega) (by omega) q3 q4, cc1.1 q q1]
        have jG : H4.2 = G.2 := by rw [j4, j3, j2, cc1.2.1]
        have hd4 := datA_cg (H := H4) hd (fun q hq => eG q (by omega) (by omega) (by omega))
        obtain ⟨x, C, x5, t, ft, mC, -, wt⟩ := mbest_ok (a2 := iN r) ha hd4
        obtain ⟨k, hk, et, er⟩ := fst_same ha fs ft
        obtain ⟨w5, w6⟩ := w2 _ er
        obtain ⟨w7, w8⟩ := wt k et
        have w7 : x = iN (muN T ls (cdO a k) (pcS a)) := w7
        have w8 : ∀ i, i < pcS a → C.1 142 i = figS (cdO a k) (pcS a) i := w8
        subst w7
        have mC : mO H4 C := mC
        obtain ⟨mf4, -⟩ := mC
        obtain ⟨E, x6, w9, k1, k2, k3⟩ := mrow54 (n := pcS a) (r := r) (x48 := iN (muN T ls (cdO a k) (pcS a))) (F := figS (cdO a k) (pcS a)) (G := sI C 126 r (iN (pcS a))) h4 hr (fun i hi => by rw [sI_p (by omega)]; exact w8 i hi)
        have l4 : H4.1 45 2 = iN (muN T ls (cdO a k) (pcS a)) := by rw [o4 45 (by omega), o3 45 (by omega) (by omega)]; exact w5
        refine ⟨iN (muN T ls (cdO a k) (pcS a)), H4, E, ?_, ?_, ?_⟩
        · have key := l25_there (p := 51 + 2 * r) (R := some (iN (muN T ls (cdO a k) (pcS a)), H4)) h ha hall (fun f => by
            unfold f_X7_order_l25_8
            simp (disch := omega) only [chk_t, beq_self_eq_true, nm_s, bj1_s, bj2_s, bj3_s, mo_1, mo_0, l_0, l_1, l_2, l_3, l_4, l_5, l_6, l_7, l_8, l_9, l_10, l_11, l_12, l_13, l_14, l_15, l_16, l_17, l_18, l_19, l_20, l_21, l_30, l_31, l_32, l_36, l_40, l_41, l_42, l_43, l_44, l_45, l_46, l_47, l_48, l_49, l_50, l_51, l_52, l_57, l_58, l_60, l_64, l_72, l_80, l_92, l_98, l_99, l_100, l_102, l_105, l_111, l_112, l_114, l_115, l_116, l_117, l_120, l_144, l_200, l_201, l_240, l_300, l_320, l_400, l_500, l_550, l_560, l_649, l_650, l_1000, l_1400, l_2000, l_4000, l_10000, iN_add, iN_sub, iN_mul, iN_le_t, iN_le_f, iN_lt_t, iN_lt_f, iN_eq_f, inb_iN, ix_iN, isZ_0, isZ_1, ↓reduceIte, eq_self, x1, x2, t_bc a ha, x3, x4, l4])
          unfold f_X7_order
          simp (disch := omega) only [chk_t, beq_self_eq_true, nm_s, bj1_s, bj2_s, bj3_s, mo_1, mo_0, l_0, l_1, l_2, l_3, l_4, l_5, l_6, l_7, l_8, l_9, l_10, l_11, l_12, l_13, l_14, l_15, l_16, l_17, l_18, l_19, l_20, l_21, l_30, l_31, l_32, l_36, l_40, l_41, l_42, l_43, l_44, l_45, l_46, l_47, l_48, l_49, l_50, l_51, l_52, l_57, l_58, l_60, l_64, l_72, l_80, l_92, l_98, l_99, l_100, l_102, l_105, l_111, l_112, l_114, l_115, l_116, l_117, l_120, l_144, l_200, l_201, l_240, l_300, l_320, l_400, l_500, l_550, l_560, l_649, l_650, l_1000, l_1400, l_2000, l_4000, l_10000, iN_add, iN_sub, iN_mul, iN_le_t, iN_le_f, iN_lt_t, iN_lt_f, iN_eq_f, inb_iN, ix_iN, isZ_0, isZ_1, ↓reduceIte, eq_self, c1, kd_b ho, in7, e, key]
        · obtain ⟨⟨y1, y2, y3⟩, g1, g2, g3, g4⟩ := l30_ok (a := a) (a2 := iN r) (G := H4) ha (fun k hk => by rw [eG 131 (by omega) (by omega) (by omega), eG 133 (by omega) (by omega) (by omega)]; exact hb k hk)
          have g2 : y2 = iN (pcS a) := g2
          have g3 : y3 = iN (fcN (pcS a)) := g3
          have hall4 : thA4 a H4 4 := fun i hi hb => by
            unfold thr
            rw [eG 131 (by omega) (by omega) (by omega), eG 133 (by omega) (by omega) (by omega)]
            exact hall i hi hb
          rcases g4 with ⟨-, g4⟩ | ⟨g4, -⟩
          · have g4 : y1 = iN 1 := g4
            subst g2 g3 g4
            unfold f_X8_order
            simp (disch := omega) only [chk_t, beq_self_eq_true, nm_s, bj1_s, bj2_s, bj3_s, mo_1, mo_0, l_0, l_1, l_2, l_3, l_4, l_5, l_6, l_7, l_8, l_9, l_10, l_11, l_12, l_13, l_14, l_15, l_16, l_17, l_18, l_19, l_20, l_21, l_30, l_31, l_32, l_36, l_40, l_41, l_42, l_43, l_44, l_45, l_46, l_47, l_48, l_49, l_50, l_51, l_52, l_57, l_58, l_60, l_64, l_72, l_80, l_92, l_98, l_99, l_100, l_102, l_105, l_111, l_112, l_114, l_115, l_116, l_117, l_120, l_144, l_200, l_201, l_240, l_300, l_320, l_400, l_500, l_550, l_560, l_649, l_650, l_1000, l_1400, l_2000, l_4000, l_10000, iN_add, iN_sub, iN_mul, iN_le_t, iN_le_f, iN_lt_t, iN_lt_f, iN_eq_f, inb_iN, ix_iN, isZ_0, isZ_1, ↓reduceIte, eq_self, in8, e, row8, e1, g1, x5, x6]
          · exact absurd hall4 g4
        · have eE : ∀ q, q ≠ 126 → q ≠ 127 → E.1 q = C.1 q := fun q q1 q2 => by rw [k2 q q2, sI_p q1]
          have eE2 : ∀ q, q < 124 ∨ relq q → q ≠ 126 → q ≠ 127 → E.1 q = H4.1 q := fun q q0 q1 q2 => by rw [eE q q1 q2, mf4.1 q q0]
          have eE3 : ∀ q, relq q → (q < 51 ∨ 63 ≤ q) → q ≠ 126 → q ≠ 127 → E.1 q = G.1 q := fun q q0 q1 q2 q3 => by rw [eE2 q (Or.inr q0) q2 q3, eG q (by unfold relq at q0; omega) (by omega) (by omega)]
          have c126 : C.1 126 = G.1 126 := by rw [mf4.1 126 (Or.inr (by unfold relq; omega)), eG 126 (by omega) (by omega) (by omega)]
          have c127 : C.1 127 = G.1 127 := by rw [mf4.1 127 (Or.inr (by unfold relq; omega)), eG 127 (by omega) (by omega) (by omega)]
          have g0 : E.1 0 = G.1 0 := by rw [eE2 0 (Or.inl (by omega)) (by omega) (by omega), eG 0 (by omega) (by omega) (by omega)]
          refine RR_1k h ?_ eE3 (by rw [g0]) (by rw [eE 124 (by omega) (by omega), mf4.2.1, eG 124 (by omega) (by omega) (by omega)]) (fun j hj => by rw [eE 139 (by omega) (by omega), mf4.2.2.2.1 j hj, eG 139 (by omega) (by omega) (by omega)]) (by rw [k3]; exact mf4.2.2.2.2.trans jG) (by rw [eE2 17 (Or.inl (by omega)) (by omega) (by omega), e4 17 (by omega) (by omega) (by omega) (by omega)]; exact cc1.2.2 h.1.2.2.2.2.2.2.2.2.2) (by rw [g0, eE 124 (by omega) (by omega), mf4.2.2.1, eG 124 (by omega) (by omega) (by omega)]; exact h.2)
          intro s hs
          have hs' := h.1.1 s hs
          by_cases c : s = r
          · subst c
            refine ⟨?_, Or.inr ⟨pcS a, by omega, ?_⟩, fun i hi => ?_⟩
            · rw [eE2 (51 + 2 * s) (Or.inl (by omega)) (by omega) (by omega), k2 126 (by omega), sI_eq]
              exact s4
            · rw [k2 126 (by omega), sI_eq]
            · rw [eE2 (52 + 2 * s) (Or.inl (by omega)) (by omega) (by omega), w9 i hi, show 52 + 2 * s = 51 + 2 * s + 1 by omega, w4 i hi]
              by_cases d : i < pcS a
              · rw [if_pos d, if_pos d, w6 i d]
              · rw [if_neg d, if_neg d]
          · refine ⟨?_, ?_, fun i hi => ?_⟩
            · rw [eE2 (51 + 2 * s) (Or.inl (by omega)) (by omega) (by omega), eG (51 + 2 * s) (by omega) (by omega) (by omega), k2 126 (by omega), sI_j c, c126]
              exact hs'.1
            · rw [k2 126 (by omega), sI_j c, c126]
              exact hs'.2.1
            · rw [eE2 (52 + 2 * s) (Or.inl (by omega)) (by omega) (by omega), eG (52 + 2 * s) (by omega) (by omega) (by omega), k1 _ (by omega), sI_p (by omega), c127]
              exact hs'.2.2 i hi
      · have eF : ∀ q, q ≠ 0 → q ≠ 50 → (fndC 1 G).1 q = G.1 q := fun q q1 q2 => fndC_o q1 q2
        refine pOK_found (f := 1) (by omega) h ?_ ?_
        · have key := l25_miss (p := 51 + 2 * r) h ha hall
          unfold f_X7_order
          simp (disch := omega) only [chk_t, beq_self_eq_true, nm_s, bj1_s, bj2_s, bj3_s, mo_1, mo_0, l_0, l_1, l_2, l_3, l_4, l_5, l_6, l_7, l_8, l_9, l_10, l_11, l_12, l_13, l_14, l_15, l_16, l_17, l_18, l_19, l_20, l_21, l_30, l_31, l_32, l_36, l_40, l_41, l_42, l_43, l_44, l_45, l_46, l_47, l_48, l_49, l_50, l_51, l_52, l_57, l_58, l_60, l_64, l_72, l_80, l_92, l_98, l_99, l_100, l_102, l_105, l_111, l_112, l_114, l_115, l_116, l_117, l_120, l_144, l_200, l_201, l_240, l_300, l_320, l_400, l_500, l_550, l_560, l_649, l_650, l_1000, l_1400, l_2000, l_4000, l_10000, iN_add, iN_sub, iN_mul, iN_le_t, iN_le_f, iN_lt_t, iN_lt_f, iN_eq_f, inb_iN, ix_iN, isZ_0, isZ_1, ↓reduceIte, eq_self, c1, kd_b ho, in7, e, key]
        · obtain ⟨⟨y1, y2, y3⟩, g1, g2, g3, g4⟩ := l30_ok (a := a) (a2 := iN r) (G := fndC 1 G) ha (fun k hk => by rw [eF 131 (by omega) (by omega), eF 133 (by omega) (by omega)]; exact hb k hk)
          rcases g4 with ⟨g4, -⟩ | ⟨-, g4⟩
          · refine absurd (fun i hi hb => ?_) hall
            have := g4 i hi hb
            unfold thr at this
            rw [eF 131 (by omega) (by omega), eF 133 (by omega) (by omega)] at this
            exact this
          · have g4 : y1 = iN 0 := g4
            subst g4
            unfold f_X8_order
            simp (disch := omega) only [chk_t, beq_self_eq_true, nm_s, bj1_s, bj2_s, bj3_s, mo_1, mo_0, l_0, l_1, l_2, l_3, l_4, l_5, l_6, l_7, l_8, l_9, l_10, l_11, l_12, l_13, l_14, l_15, l_16, l_17, l_18, l_19, l_20, l_21, l_30, l_31, l_32, l_36, l_40, l_41, l_42, l_43, l_44, l_45, l_46, l_47, l_48, l_49, l_50, l_51, l_52, l_57, l_58, l_60, l_64, l_72, l_80, l_92, l_98, l_99, l_100, l_102, l_105, l_111, l_112, l_114, l_115, l_116, l_117, l_120, l_144, l_200, l_201, l_240, l_300, l_320, l_400, l_500, l_550, l_560, l_649, l_650, l_1000, l_1400, l_2000, l_4000, l_10000, iN_add, iN_sub, iN_mul, iN_le_t, iN_le_f, iN_lt_t, iN_lt_f, iN_eq_f, inb_iN, ix_iN, isZ_0, isZ_1, ↓reduceIte, eq_self, in8, e, row8, e1, g1, meets_ok]

/-! class and reference hold the same: the relation, what leaves it, its guards -/
def szR (b : Nat) (s : Int32) : Prop := s = -iN 1 ∨ ∃ z, z ≤ b ∧ s = iN z
def R1 (G : G_) : Prop := ∀ r, r < 6 → G.1 (51 + 2 * r) 1 = G.1 126 r ∧ szR 40 (G.1 126 r) ∧ ∀ i, i < 40 → G.1 (52 + 2 * r) i = G.1 127 (40 * r + i)
def R2 (G : G_) : Prop := ∀ t, t < 4 → G.1 (63 + 2 * t) 1 = G.1 129 t ∧ szR 80 (G.1 129 t) ∧ ∀ i, i < 80 → G.1 (64 + 2 * t) i = G.1 130 (80 * t + i)
def R3 (G : G_) : Prop := ∀ k, k < 4 → G.1 (71 + k) 0 = G.1 131 k ∧ (G.1 131 k = iN 0 ∨ (G.1 131 k = iN 1 ∧ ∃ n, slR (SL k G) n)) ∧ cSl (71 + k) (SL k G) G
def R4 (G : G_) : Prop := ∀ k, k < 4 → G.1 (75 + 4 * k) 3 = G.1 133 k ∧ (G.1 133 k = iN 0 ∨ (G.1 133 k = iN 1 ∧ ∃ mm, plR (PL k G) mm)) ∧ (G.1 133 k = iN 1 → cPl (75 + 4 * k) (PL k G) G)
def dp (k : Nat) : Nat := if k = 0 then 5 else 80 + 11 * k
def R5 (G : G_) : Prop := ∀ k, k < 4 → G.1 (dp k) 7 = G.1 138 k ∧ (G.1 138 k = iN 0 ∨ (G.1 138 k = iN 1 ∧ ∃ n mm, gD (DM k G) n mm ∧ upOK (DM k G) ∧ cD (dp k) (DM k G) G))
def R6 (G : G_) : Prop := G.1 0 15 = G.1 124 0 ∧ (∀ f, 1 ≤ f → f ≤ 5 → G.1 50 f = G.1 125 f) ∧ G.2 0 17 = G.2 124 3 ∧ G.2 0 18 = G.2 124 4 ∧ isZ (G.1 17 7) = true
def RR0 (G : G_) : Prop := R1 G ∧ R2 G ∧ R3 G ∧ R4 G ∧ R5 G ∧ R6 G
def RR (G : G_) : Prop := RR0 G ∧ G.1 0 16 = G.1 124 2
theorem R1_fr {G G' : G_} (h : R1 G) (e : ∀ q, (51 ≤ q ∧ q < 63) ∨ q = 126 ∨ q = 127 → G'.1 q = G.1 q) : R1 G' := by
  intro r hr
  have := h r hr
  rw [e (51 + 2 * r) (by omega), e (52 + 2 * r) (by omega), e 126 (by omega), e 127 (by omega)]
  exact this
theorem R2_fr {G G' : G_} (h : R2 G) (e : ∀ q, (63 ≤ q ∧ q < 71) ∨ q = 129 ∨ q = 130 → G'.1 q = G.1 q) : R2 G' := by
  intro r hr
  have := h r hr
  rw [e (63 + 2 * r) (by omega), e (64 + 2 * r) (by omega), e 129 (by omega), e 130 (by omega)]
  exact this
theorem SL_fr {G G' : G_} {k : Nat} (e : G'.1 132 = G.1 132) : SL k G' = SL k G := by
  unfold SL
  rw [e]
theorem R3_fr {G G' : G_} (h : R3 G) (e : ∀ q, (71 ≤ q ∧ q < 75) ∨ q = 131 ∨ q = 132 → G'.1 q = G.1 q) : R3 G' := by
  intro k hk
  have := h k hk
  unfold cSl at this ⊢
  rw [SL_fr (e 132 (by omega)), e (71 + k) (by omega), e 131 (by omega)]
  exact this
theorem PL_fr {G G' : G_} {k : Nat} (e : G'.1 134 = G.1 134) (e2 : G'.1 135 = G.1 135) : PL k G' = PL k G := by
  unfold PL
  rw [e, e2]
theorem R4_fr {G G' : G_} (h : R4 G) (e : ∀ q, (75 ≤ q ∧ q < 91) ∨ q = 133 ∨ q = 134 ∨ q = 135 → G'.1 q = G.1 q) : R4 G' := by
  intro k hk
  have := h k hk
  unfold cPl at this ⊢
  rw [PL_fr (e 134 (by omega)) (e 135 (by omega)), e (75 + 4 * k) (by omega), e (75 + 4 * k + 1) (by omega), e (75 + 4 * k + 2) (by omega), e (75 + 4 * k + 3) (by omega), e 133 (by omega)]
  exact this
-- rows of numbers that agree below 112
theorem wfD_cg {D D' : Nat → Int32} {n : Nat} (h : wfD D n) (e : ∀ p, p < 112 → D' p = D p) : wfD D' n := by
  obtain ⟨hn, hm, hw, hj⟩ := h
  have h2 := hn.2
  have hnn := okN_n hn
  have en : nD D' = nD D := nD_of (e 0 (by omega))
  refine ⟨okN_keep hn (e 0 (by omega)), by rw [mD_of (e 4 (by omega))]; exact hm, fun i hi => ?_, fun i hi => ?_⟩
  · rw [en] at hi
    rw [e _ (by omega)]
    exact hw i hi
  · rw [en] at hi
    rw [e _ (by omega)]
    exact hj i hi
theorem plD_cg {D D' : Nat → Int32} {mm at_ g : Nat} (h : plD D mm at_ g) (e : ∀ p, p < 112 → D' p = D p) : plD D' mm at_ g := by
  obtain ⟨p1, p2, p3, p4, p5, p6, p7⟩ := h
  refine ⟨by rw [e _ (by omega)]; exact p1, p2, by rw [e _ (by omega)]; exact p3, p4, by rw [e _ (by omega)]; exact p5, fun i hi => stOK_keep (p6 i hi) (by omega) (fun p hp => e p (by omega)), ?_⟩
  rcases p7 with h | ⟨h, a, c, h1, h2, h3, h4⟩
  · exact Or.inl h
  · exact Or.inr ⟨h, a, c, by rw [e _ (by omega)]; exact h1, h2, by rw [e _ (by omega)]; exact h3, h4⟩
theorem gD_cg {D D' : Nat → Int32} {n mm : Nat} (h : gD D n mm) (e : ∀ p, p < 112 → D' p = D p) : gD D' n mm := by
  obtain ⟨h1, a, g, h2⟩ := h
  exact ⟨wfD_cg h1 e, a, g, plD_cg h2 e⟩
theorem upOK_cg {D D' : Nat → Int32} (h : upOK D) (e : ∀ p, p < 112 → D' p = D p) : upOK D' := by
  unfold upOK
  rw [e 45 (by omega), e 46 (by omega), e 44 (by omega)]
  exact h
theorem cD_cg {o : Nat} {D D' : Nat → Int32} {G : G_} (h : cD o D G) (hz : dz D) (e : ∀ p, p < 112 → D' p = D p) : cD o D' G := by
  intro d j hc
  rw [nD_of (e 0 (by omega)), mD_of (e 4 (by omega))] at hc
  rw [e _ (ci_inv hz.1 hz.2 hc).2.2.1]
  exact h d j hc
theorem dz_g {D : Nat → Int32} {n mm : Nat} (h : gD D n mm) : dz D := dz_of h.1.1 h.1.2.1
theorem dp_r {k : Nat} (h : k < 4) : (dp k = 5 ∧ k = 0) ∨ (91 ≤ dp k ∧ dp k + 11 ≤ 124 ∧ dp k = 80 + 11 * k ∧ 1 ≤ k) := by
  unfold dp
  split <;> omega
theorem R5_fr {G G' : G_} (h : R5 G) (e : ∀ q, (5 ≤ q ∧ q < 16) ∨ (91 ≤ q ∧ q < 124) ∨ q = 138 → G'.1 q = G.1 q) (e2 : ∀ j, j < 448 → G'.1 139 j = G.1 139 j) : R5 G' := by
  intro k hk
  have hd := dp_r hk
  have a := h k hk
  have eD : ∀ p, p < 112 → DM k G' p = DM k G p := fun p hp => e2 _ (by omega)
  rw [e (dp k) (by omega), e 138 (by omega)]
  refine ⟨a.1, ?_⟩
  rcases a.2 with a | ⟨a0, n, mm, a1, a2, a3⟩
  · exact Or.inl a
  · exact Or.inr ⟨a0, n, mm, gD_cg a1 eD, upOK_cg a2 eD, cD_cg (cD_fr a3 (fun q h1 h2 => e q (by omega))) (dz_g a1) eD⟩
def relq (q : Nat) : Prop := (1 ≤ q ∧ q ≤ 16) ∨ (50 ≤ q ∧ q < 124) ∨ (125 ≤ q ∧ q ≤ 135 ∧ q ≠ 128) ∨ q = 138
def kp0 (G G' : G_) : Prop := (∀ q, relq q → G'.1 q = G.1 q) ∧ G'.1 0 15 = G.1 0 15 ∧ G'.1 124 0 = G.1 124 0 ∧ (∀ j, j < 448 → G'.1 139 j = G.1 139 j) ∧ G'.2 0 = G.2 0 ∧ G'.2 124 3 = G.2 124 3 ∧ G'.2 124 4 = G.2 124 4 ∧ (isZ (G.1 17 7) = true → isZ (G'.1 17 7) = true)
theorem RR0_kp {G G' : G_} (h : RR0 G) (e : kp0 G G') : RR0 G' := by
  obtain ⟨r1, r2, r3, r4, r5, r6⟩ := h
  obtain ⟨e1, e2, e3, e4, e5, e6, e7, e8⟩ := e
  have e1 : ∀ q, ((1 ≤ q ∧ q ≤ 16) ∨ (50 ≤ q ∧ q < 124) ∨ (125 ≤ q ∧ q ≤ 135 ∧ q ≠ 128) ∨ q = 138) → G'.1 q = G.1 q := e1
  refine ⟨R1_fr r1 (fun q hq => e1 q (by omega)), R2_fr r2 (fun q hq => e1 q (by omega)), R3_fr r3 (fun q hq => e1 q (by omega)), R4_fr r4 (fun q hq => e1 q (by omega)), R5_fr r5 (fun q hq => e1 q (by omega)) e4, ?_⟩
  exact ⟨by rw [e2, e3]; exact r6.1, by rw [e1 50 (by omega), e1 125 (by omega)]; exact r6.2.1, by rw [e5, e6]; exact r6.2.2.1, by rw [e5, e7]; exact r6.2.2.2.1, e8 r6.2.2.2.2⟩
/-- what the class may change without its being told -/
def cc (G G' : G_) : Prop := (∀ q, q < 17 ∨ 49 < q → G'.1 q = G.1 q) ∧ G'.2 = G.2 ∧ (isZ (G.1 17 7) = true → isZ (G'.1 17 7) = true)
theorem cc_refl {G : G_} : cc G G := ⟨fun _ _ => rfl, rfl, id⟩
theorem cc_tr {G G' G'' : G_} (h : cc G G') (h2 : cc G' G'') : cc G G'' := ⟨fun q hq => (h2.1 q hq).trans (h.1 q hq), h2.2.1.trans h.2.1, fun e => h2.2.2 (h.2.2 e)⟩
theorem cc_fr0 {o : Nat} {G G' : G_} (h : fr0 o G G') (h1 : 18 ≤ o) (h2 : o + 11 ≤ 50) : cc G G' := ⟨fun q hq => h.1 q (by omega), h.2, fun e => by rw [h.1 17 (by omega)]; exact e⟩
theorem cc_fr {o : Nat} {G G' : G_} (h : fr o G G') (h1 : 17 ≤ o) (h2 : o + 11 ≤ 50) : cc G G' := by
  refine ⟨fun q hq => h.1.1 q (by omega), h.1.2, fun e => ?_⟩
  by_cases c : o = 17
  · subst c
    rw [h.2]
    exact e
  · rw [h.1.1 17 (by omega)]
    exact e
theorem cc_sI {G G' : G_} {p j : Nat} {v : Int32} (h : cc G G') (h1 : 18 ≤ p) (h2 : p ≤ 49) : cc G (sI G' p j v) := ⟨fun q hq => by rw [sI_p (by omega)]; exact h.1 q hq, h.2.1, fun e => by rw [sI_p (by omega)]; exact h.2.2 e⟩
/-- what the reference may change without its being told -/
def mf (G G' : G_) : Prop := (∀ q, q < 124 ∨ relq q → G'.1 q = G.1 q) ∧ G'.1 124 0 = G.1 124 0 ∧ G'.1 124 2 = G.1 124 2 ∧ (∀ j, j < 448 → G'.1 139 j = G.1 139 j) ∧ G'.2 = G.2
theorem mf_refl {G : G_} : mf G G := ⟨fun _ _ => rfl, rfl, rfl, fun _ _ => rfl, rfl⟩
theorem mf_tr {G G' G'' : G_} (h : mf G G') (h2 : mf G' G'') : mf G G'' := by
  obtain ⟨a1, a2, a3, a4, a5⟩ := h
  obtain ⟨b1, b2, b3, b4, b5⟩ := h2
  exact ⟨fun q hq => (b1 q hq).trans (a1 q hq), b2.trans a2, b3.trans a3, fun j hj => (b4 j hj).trans (a4 j hj), b5.trans a5⟩
theorem mf_LG {m : Nat} {G : G_} : mf G (LG m G) := ⟨fun q hq => LG_o (by unfold relq at hq; omega), LG_j (by omega), LG_j (by omega), fun j _ => by rw [LG_o (by omega)], rfl⟩
theorem mf_st {D W : Nat → Int32} {G G' : G_} (h : mf G G') : mf G (stM 4 D W G') := by
  obtain ⟨a1, a2, a3, a4, a5⟩ := h
  exact ⟨fun q hq => by rw [stM_o1 (by unfold relq at hq; omega) (by unfold relq at hq; omega)]; exact a1 q hq, by rw [stM_o (by omega) (by omega)]; exact a2, by rw [stM_o (by omega) (by omega)]; exact a3, fun j hj => by rw [stM_139, if_neg (by omega)]; exact a4 j hj, a5⟩
theorem mf_sI {p j : Nat} {v : Int32} {G G' : G_} (h : mf G G') (hp : p = 128 ∨ p = 136 ∨ p = 137 ∨ (140 ≤ p ∧ p < 146)) : mf G (sI G' p j v) := by
  obtain ⟨a1, a2, a3, a4, a5⟩ := h
  exact ⟨fun q hq => by rw [sI_p (by unfold relq at hq; omega)]; exact a1 q hq, by rw [sI_p (by omega)]; exact a2, by rw [sI_p (by omega)]; exact a3, fun j hj => by rw [sI_p (by omega)]; exact a4 j hj, a5⟩
theorem mf_124 {j : Nat} {v : Int32} {G G' : G_} (h : mf G G') (hp : j ≠ 0 ∧ j ≠ 2) : mf G (sI G' 124 j v) := by
  obtain ⟨a1, a2, a3, a4, a5⟩ := h
  exact ⟨fun q hq => by rw [sI_p (by unfold relq at hq; omega)]; exact a1 q hq, by rw [sI_j (by omega)]; exact a2, by rw [sI_j (by omega)]; exact a3, fun j hj => by rw [sI_p (by omega)]; exact a4 j hj, a5⟩
theorem kp_cc {G G' : G_} (h : cc G G') : kp0 G G' := by
  obtain ⟨a1, a2, a3⟩ := h
  exact ⟨fun q hq => a1 q (by unfold relq at hq; omega), by rw [a1 0 (by omega)], by rw [a1 124 (by omega)], fun j _ => by rw [a1 139 (by omega)], by rw [a2], by rw [a2], by rw [a2], a3⟩
theorem kp_mf {G G' : G_} (h : mf G G') : kp0 G G' := by
  obtain ⟨a1, a2, a3, a4, a5⟩ := h
  exact ⟨fun q hq => a1 q (Or.inr hq), by rw [a1 0 (by omega)], a2, a4, by rw [a5], by rw [a5], by rw [a5], fun e => by rw [a1 17 (by omega)]; exact e⟩
theorem kp_tr {G G' G'' : G_} (h : kp0 G G') (h2 : kp0 G' G'') : kp0 G G'' := by
  obtain ⟨a1, a2, a3, a4, a5, a6, a7, a8⟩ := h
  obtain ⟨b1, b2, b3, b4, b5, b6, b7, b8⟩ := h2
  exact ⟨fun q hq => (b1 q hq).trans (a1 q hq), b2.trans a2, b3.trans a3, fun j hj => (b4 j hj).trans (a4 j hj), b5.trans a5, b6.trans a6, b7.trans a7, fun e => b8 (a8 e)⟩
theorem kp_016 {G : G_} {v : Int32} : kp0 G (sI G 0 16 v) := ⟨fun q hq => sI_p (by unfold relq at hq; omega), sI_j (by omega), by rw [sI_p (by omega)], fun j _ => by rw [sI_p (by omega)], rfl, rfl, rfl, fun e => by rw [sI_p (by omega)]; exact e⟩
theorem kp_124 {G : G_} {v : Int32} : kp0 G (sI G 124 2 v) := ⟨fun q hq => sI_p (by unfold relq at hq; omega), by rw [sI_p (by omega)], sI_j (by omega), fun j _ => by rw [sI_p (by omega)], rfl, rfl, rfl, fun e => by rw [sI_p (by omega)]; exact e⟩
def pOK (c m : G_ → Option (Int32 × G_)) (G : G_) : Prop := ∃ x G1 G2, c G = some (x, G1) ∧ m G1 = some (x, G2) ∧ RR G2
theorem pOK_same {c m : G_ → Option (Int32 × G_)} {G : G_} {x : Int32} (h : RR G) (h1 : c G = some (x, G)) (h2 : m G = some (x, G)) : pOK c m G := ⟨x, G, G, h1, h2, h⟩
theorem pOK_none {c m : G_ → Option (Int32 × G_)} {G G1 H : G_} {x : Int32} (h : RR G) (h1 : c G = some (x, G1)) (f1 : cc G G1) (h2 : m G1 = some (x, H)) (f2 : mf G1 H) : pOK c m G := by
  refine ⟨x, G1, H, h1, h2, RR0_kp h.1 (kp_tr (kp_cc f1) (kp_mf f2)), ?_⟩
  rw [f2.1 0 (by omega), f1.1 0 (by omega), f2.2.2.1, f1.1 124 (by omega)]
  exact h.2
theorem pOK_tell {c m : G_ → Option (Int32 × G_)} {G G1 H : G_} {x y : Int32} (h : RR G) (h1 : c G = some (x, sI G1 0 16 y)) (f1 : cc G G1) (h2 : m (sI G1 0 16 y) = some (x, sI H 124 2 y)) (f2 : mf (sI G1 0 16 y) H) : pOK c m G := by
  refine ⟨x, _, _, h1, h2, RR0_kp h.1 (kp_tr (kp_cc f1) (kp_tr kp_016 (kp_tr (kp_mf f2) kp_124))), ?_⟩
  rw [sI_eq, sI_p (by omega), f2.1 0 (by omega), sI_eq]
def fndC (f : Nat) (G : G_) : G_ := sI (sI G 0 15 (iN f)) 50 f (G.1 50 f + iN 1)
def fndM (f : Nat) (G : G_) : G_ := sI (sI G 124 0 (iN f)) 125 f (G.1 125 f + iN 1)
theorem found_ok {f : Nat} {G : G_} (h : f ≤ 5) : f_X7_found (iN f) G = some (-iN 3, fndC f G) := by
  unfold f_X7_found fndC
  simp (disch := omega) only [chk_t, beq_self_eq_true, nm_s, bj1_s, bj2_s, bj3_s, mo_1, mo_0, l_0, l_1, l_2, l_3, l_4, l_5, l_6, l_7, l_8, l_9, l_10, l_11, l_12, l_13, l_14, l_15, l_16, l_17, l_18, l_19, l_20, l_21, l_30, l_31, l_32, l_36, l_40, l_41, l_42, l_43, l_44, l_45, l_46, l_47, l_48, l_49, l_50, l_51, l_52, l_57, l_58, l_60, l_64, l_72, l_80, l_92, l_98, l_99, l_100, l_102, l_105, l_111, l_112, l_114, l_115, l_116, l_117, l_120, l_144, l_200, l_201, l_240, l_300, l_320, l_400, l_500, l_550, l_560, l_649, l_650, l_1000, l_1400, l_2000, l_4000, l_10000, iN_add, iN_sub, iN_mul, iN_le_t, iN_le_f, iN_lt_t, iN_lt_f, iN_eq_f, inb_iN, ix_iN, isZ_0, isZ_1, ↓reduceIte, eq_self, sI_p]
theorem meets_ok {f : Nat} {G : G_} (h : f ≤ 5) : f_X8_meets (iN f) G = some (-iN 3, fndM f G) := by
  unfold f_X8_meets fndM
  simp (disch := omega) only [chk_t, beq_self_eq_true, nm_s, bj1_s, bj2_s, bj3_s, mo_1, mo_0, l_0, l_1, l_2, l_3, l_4, l_5, l_6, l_7, l_8, l_9, l_10, l_11, l_12, l_13, l_14, l_15, l_16, l_17, l_18, l_19, l_20, l_21, l_30, l_31, l_32, l_36, l_40, l_41, l_42, l_43, l_44, l_45, l_46, l_47, l_48, l_49, l_50, l_51, l_52, l_57, l_58, l_60, l_64, l_72, l_80, l_92, l_98, l_99, l_100, l_102, l_105, l_111, l_112, l_114, l_115, l_116, l_117, l_120, l_144, l_200, l_201, l_240, l_300, l_320, l_400, l_500, l_550, l_560, l_649, l_650, l_1000, l_1400, l_2000, l_4000, l_10000, iN_add, iN_sub, iN_mul, iN_le_t, iN_le_f, iN_lt_t, iN_lt_f, iN_eq_f, inb_iN, ix_iN, isZ_0, isZ_1, ↓reduceIte, eq_self, sI_p]
theorem fndC_o {f q : Nat} {G : G_} (h : q ≠ 0) (h2 : q ≠ 50) : (fndC f G).1 q = G.1 q := by
  unfold fndC
  rw [sI_p h2, sI_p h]
theorem pOK_found {c m : G_ → Option (Int32 × G_)} {G : G_} {f : Nat} (hf : 1 ≤ f ∧ f ≤ 5) (h : RR G) (h1 : c G = some (-iN 3, fndC f G)) (h2 : m (fndC f G) = some (-iN 3, fndM f (fndC f G))) : pOK c m G := by
  have e : ∀ q, q ≠ 0 → q ≠ 50 → q ≠ 124 → q ≠ 125 → (fndM f (fndC f G)).1 q = G.1 q := fun q h1 h2 h3 h4 => by
    unfold fndM
    rw [sI_p h4, sI_p h3, fndC_o h1 h2]
  obtain ⟨⟨r1, r2, r3, r4, r5, r6⟩, ra⟩ := h
  refine ⟨_, _, _, h1, h2, ⟨R1_fr r1 (fun q hq => e q (by omega) (by omega) (by omega) (by omega)), R2_fr r2 (fun q hq => e q (by omega) (by omega) (by omega) (by omega)), R3_fr r3 (fun q hq => e q (by omega) (by omega) (by omega) (by omega)), R4_fr r4 (fun q hq => e q (by omega) (by omega) (by omega) (by omega)), R5_fr r5 (fun q hq => e q (by omega) (by omega) (by omega) (by omega)) (fun j _ => by rw [e 139 (by omega) (by omega) (by omega) (by omega)]), ?_, ?_, r6.2.2.1, r6.2.2.2.1, by rw [e 17 (by omega) (by omega) (by omega) (by omega)]; exact r6.2.2.2.2⟩, ?_⟩
  · unfold fndM fndC
    simp (disch := omega) only [chk_t, beq_self_eq_true, nm_s, bj1_s, bj2_s, bj3_s, mo_1, mo_0, l_0, l_1, l_2, l_3, l_4, l_5, l_6, l_7, l_8, l_9, l_10, l_11, l_12, l_13, l_14, l_15, l_16, l_17, l_18, l_19, l_20, l_21, l_30, l_31, l_32, l_36, l_40, l_41, l_42, l_43, l_44, l_45, l_46, l_47, l_48, l_49, l_50, l_51, l_52, l_57, l_58, l_60, l_64, l_72, l_80, l_92, l_98, l_99, l_100, l_102, l_105, l_111, l_112, l_114, l_115, l_116, l_117, l_120, l_144, l_200, l_201, l_240, l_300, l_320, l_400, l_500, l_550, l_560, l_649, l_650, l_1000, l_1400, l_2000, l_4000, l_10000, iN_add, iN_sub, iN_mul, iN_le_t, iN_le_f, iN_lt_t, iN_lt_f, iN_eq_f, inb_iN, ix_iN, isZ_0, isZ_1, ↓reduceIte, eq_self, sI_p, sI_j, sI_eq]
  · intro g hg hg2
    have := r6.2.1 g hg hg2
    unfold fndM fndC
    by_cases c : g = f
    · subst c
      simp (disch := omega) only [chk_t, beq_self_eq_true, nm_s, bj1_s, bj2_s, bj3_s, mo_1, mo_0, l_0, l_1, l_2, l_3, l_4, l_5, l_6, l_7, l_8, l_9, l_10, l_11, l_12, l_13, l_14, l_15, l_16, l_17, l_18, l_19, l_20, l_21, l_30, l_31, l_32, l_36, l_40, l_41, l_42, l_43, l_44, l_45, l_46, l_47, l_48, l_49, l_50, l_51, l_52, l_57, l_58, l_60, l_64, l_72, l_80, l_92, l_98, l_99, l_100, l_102, l_105, l_111, l_112, l_114, l_115, l_116, l_117, l_120, l_144, l_200, l_201, l_240, l_300, l_320, l_400, l_500, l_550, l_560, l_649, l_650, l_1000, l_1400, l_2000, l_4000, l_10000, iN_add, iN_sub, iN_mul, iN_le_t, iN_le_f, iN_lt_t, iN_lt_f, iN_eq_f, inb_iN, ix_iN, isZ_0, isZ_1, ↓reduceIte, eq_self, sI_p, sI_j, sI_eq, this]
    · simp (disch := omega) only [chk_t, beq_self_eq_true, nm_s, bj1_s, bj2_s, bj3_s, mo_1, mo_0, l_0, l_1, l_2, l_3, l_4, l_5, l_6, l_7, l_8, l_9, l_10, l_11, l_12, l_13, l_14, l_15, l_16, l_17, l_18, l_19, l_20, l_21, l_30, l_31, l_32, l_36, l_40, l_41, l_42, l_43, l_44, l_45, l_46, l_47, l_48, l_49, l_50, l_51, l_52, l_57, l_58, l_60, l_64, l_72, l_80, l_92, l_98, l_99, l_100, l_102, l_105, l_111, l_112, l_114, l_115, l_116, l_117, l_120, l_144, l_200, l_201, l_240, l_300, l_320, l_400, l_500, l_550, l_560, l_649, l_650, l_1000, l_1400, l_2000, l_4000, l_10000, iN_add, iN_sub, iN_mul, iN_le_t, iN_le_f, iN_lt_t, iN_lt_f, iN_eq_f, inb_iN, ix_iN, isZ_0, isZ_1, ↓reduceIte, eq_self, sI_p, sI_j c]
      exact this
  · unfold fndM fndC
    simp (disch := omega) only [chk_t, beq_self_eq_true, nm_s, bj1_s, bj2_s, bj3_s, mo_1, mo_0, l_0, l_1, l_2, l_3, l_4, l_5, l_6, l_7, l_8, l_9, l_10, l_11, l_12, l_13, l_14, l_15, l_16, l_17, l_18, l_19, l_20, l_21, l_30, l_31, l_32, l_36, l_40, l_41, l_42, l_43, l_44, l_45, l_46, l_47, l_48, l_49, l_50, l_51, l_52, l_57, l_58, l_60, l_64, l_72, l_80, l_92, l_98, l_99, l_100, l_102, l_105, l_111, l_112, l_114, l_115, l_116, l_117, l_120, l_144, l_200, l_201, l_240, l_300, l_320, l_400, l_500, l_550, l_560, l_649, l_650, l_1000, l_1400, l_2000, l_4000, l_10000, iN_add, iN_sub, iN_mul, iN_le_t, iN_le_f, iN_lt_t, iN_lt_f, iN_eq_f, inb_iN, ix_iN, isZ_0, isZ_1, ↓reduceIte, eq_self, sI_p, sI_j]
    exact ra
-- guards
theorem inS_f {a b k : Nat} (h : k < a ∨ b < k) (ha : a < 2147483648) (hb : b < 2147483648) (hk : k < 2147483648) : inS (iN a) (iN b) (iN k) = iN 0 := by
  unfold inS
  by_cases c : k < a
  · rw [if_pos ((iN_lt hk ha).mpr c)]
  · rw [if_neg (fun e => c ((iN_lt hk ha).mp e)), if_pos ((iN_lt hb hk).mpr (by omega))]
theorem inS_t {a b k : Nat} (h : a ≤ k ∧ k ≤ b) (hb : b < 2147483648) : inS (iN a) (iN b) (iN k) = iN 1 := by
  unfold inS
  rw [if_neg (fun e => by have := (iN_lt (by omega) (by omega)).mp e; omega), if_neg (fun e => by have := (iN_lt (by omega) (by omega)).mp e; omega)]
theorem in_N (a b : Nat) (x : Int32) (hb : b < 2147483648 := by decide) (ha : a < 2147483648 := by decide) : inS (iN a) (iN b) x = iN 0 ∨ (inS (iN a) (iN b) x = iN 1 ∧ ∃ k, x = iN k ∧ a ≤ k ∧ k ≤ b) := by
  by_cases h0 : 0 ≤ x.toInt
  · have e := iN_ex h0
    have hx := t_rng x
    have hi := ix_t h0
    by_cases c : a ≤ ix x ∧ ix x ≤ b
    · right
      refine ⟨?_, ix x, e, c.1, c.2⟩
      rw [e, inS_t c hb]
    · left
      rw [e]
      exact inS_f (by omega) ha hb (by omega)
  · left
    unfold inS
    rw [if_pos (t_lt.mpr (by rw [li ha]; omega))]
theorem row_cases (x : Int32) (G : G_) : (inS (iN 0) (iN 5) x = iN 0 ∧ f_X7_rowAt x G = some none) ∨ ∃ k, k < 6 ∧ x = iN k ∧ inS (iN 0) (iN 5) x = iN 1 ∧ f_X7_rowAt x G = some (some (51 + 2 * k)) ∧ kd (51 + 2 * k) = 4 := by
  rcases in_N 0 5 x with h | ⟨h, k, rfl, h1, h2⟩
  · left
    refine ⟨h, ?_⟩
    unfold inS at h
    unfold f_X7_rowAt
    by_cases c : x < iN 0
    · simp (disch := omega) only [chk_t, beq_self_eq_true, nm_s, bj1_s, bj2_s, bj3_s, mo_1, mo_0, l_0, l_1, l_2, l_3, l_4, l_5, l_6, l_7, l_8, l_9, l_10, l_11, l_12, l_13, l_14, l_15, l_16, l_17, l_18, l_19, l_20, l_21, l_30, l_31, l_32, l_36, l_40, l_41, l_42, l_43, l_44, l_45, l_46, l_47, l_48, l_49, l_50, l_51, l_52, l_57, l_58, l_60, l_64, l_72, l_80, l_92, l_98, l_99, l_100, l_102, l_105, l_111, l_112, l_114, l_115, l_116, l_117, l_120, l_144, l_200, l_201, l_240, l_300, l_320, l_400, l_500, l_550, l_560, l_649, l_650, l_1000, l_1400, l_2000, l_4000, l_10000, iN_add, iN_sub, iN_mul, iN_le_t, iN_le_f, iN_lt_t, iN_lt_f, iN_eq_f, inb_iN, ix_iN, isZ_0, isZ_1, ↓reduceIte, eq_self, c]
    · rw [if_neg c] at h
      by_cases c2 : iN 5 < x
      · have : (iN 6 ≤ x) = True := eq_true (t_le.mpr (by have := t_lt.mp c2; rw [li (by omega)] at this ⊢; omega))
        simp (disch := omega) only [chk_t, beq_self_eq_true, nm_s, bj1_s, bj2_s, bj3_s, mo_1, mo_0, l_0, l_1, l_2, l_3, l_4, l_5, l_6, l_7, l_8, l_9, l_10, l_11, l_12, l_13, l_14, l_15, l_16, l_17, l_18, l_19, l_20, l_21, l_30, l_31, l_32, l_36, l_40, l_41, l_42, l_43, l_44, l_45, l_46, l_47, l_48, l_49, l_50, l_51, l_52, l_57, l_58, l_60, l_64, l_72, l_80, l_92, l_98, l_99, l_100, l_102, l_105, l_111, l_112, l_114, l_115, l_116, l_117, l_120, l_144, l_200, l_201, l_240, l_300, l_320, l_400, l_500, l_550, l_560, l_649, l_650, l_1000, l_1400, l_2000, l_4000, l_10000, iN_add, iN_sub, iN_mul, iN_le_t, iN_le_f, iN_lt_t, iN_lt_f, iN_eq_f, inb_iN, ix_iN, isZ_0, isZ_1, ↓reduceIte, eq_self, c, this]
      · rw [if_neg c2] at h
        exact absurd h (by decide)
  · right
    refine ⟨k, by omega, rfl, h, ?_, ?_⟩
    · have hk : k = 0 ∨ k = 1 ∨ k = 2 ∨ k = 3 ∨ k = 4 ∨ k = 5 := by omega
      rcases hk with rfl | rfl | rfl | rfl | rfl | rfl <;> rfl
    · have hk : k = 0 ∨ k = 1 ∨ k = 2 ∨ k = 3 ∨ k = 4 ∨ k = 5 := by omega
      rcases hk with rfl | rfl | rfl | rfl | rfl | rfl <;> rfl
theorem at_none {x : Int32} {b : Nat} (hb : b < 1000) (h : inS (iN 0) (iN b) x = iN 0) : (x < iN 0) = True ∨ ((x < iN 0) = False ∧ (iN (b + 1) ≤ x) = True) := by
  unfold inS at h
  by_cases c : x < iN 0
  · exact Or.inl (eq_true c)
  · rw [if_neg c] at h
    by_cases c2 : iN b < x
    · exact Or.inr ⟨eq_false c, eq_true (t_le.mpr (by have := t_lt.mp c2; rw [li (by omega)] at this ⊢; omega))⟩
    · rw [if_neg c2] at h
      exact absurd h (by decide)
theorem text_cases (x : Int32) (G : G_) : (inS (iN 0) (iN 3) x = iN 0 ∧ f_X7_textAt x G = some none) ∨ ∃ k, k < 4 ∧ x = iN k ∧ inS (iN 0) (iN 3) x = iN 1 ∧ f_X7_textAt x G = some (some (63 + 2 * k)) ∧ kd (63 + 2 * k) = 6 := by
  rcases in_N 0 3 x with h | ⟨h, k, rfl, h1, h2⟩
  · left
    refine ⟨h, ?_⟩
    unfold f_X7_textAt
    rcases at_none (b := 3) (by omega) h with c | ⟨c, c2⟩
    · simp (disch := omega) only [chk_t, beq_self_eq_true, nm_s, bj1_s, bj2_s, bj3_s, mo_1, mo_0, l_0, l_1, l_2, l_3, l_4, l_5, l_6, l_7, l_8, l_9, l_10, l_11, l_12, l_13, l_14, l_15, l_16, l_17, l_18, l_19, l_20, l_21, l_30, l_31, l_32, l_36, l_40, l_41, l_42, l_43, l_44, l_45, l_46, l_47, l_48, l_49, l_50, l_51, l_52, l_57, l_58, l_60, l_64, l_72, l_80, l_92, l_98, l_99, l_100, l_102, l_105, l_111, l_112, l_114, l_115, l_116, l_117, l_120, l_144, l_200, l_201, l_240, l_300, l_320, l_400, l_500, l_550, l_560, l_649, l_650, l_1000, l_1400, l_2000, l_4000, l_10000, iN_add, iN_sub, iN_mul, iN_le_t, iN_le_f, iN_lt_t, iN_lt_f, iN_eq_f, inb_iN, ix_iN, isZ_0, isZ_1, ↓reduceIte, eq_self, c]
    · simp (disch := omega) only [chk_t, beq_self_eq_true, nm_s, bj1_s, bj2_s, bj3_s, mo_1, mo_0, l_0, l_1, l_2, l_3, l_4, l_5, l_6, l_7, l_8, l_9, l_10, l_11, l_12, l_13, l_14, l_15, l_16, l_17, l_18, l_19, l_20, l_21, l_30, l_31, l_32, l_36, l_40, l_41, l_42, l_43, l_44, l_45, l_46, l_47, l_48, l_49, l_50, l_51, l_52, l_57, l_58, l_60, l_64, l_72, l_80, l_92, l_98, l_99, l_100, l_102, l_105, l_111, l_112, l_114, l_115, l_116, l_117, l_120, l_144, l_200, l_201, l_240, l_300, l_320, l_400, l_500, l_550, l_560, l_649, l_650, l_1000, l_1400, l_2000, l_4000, l_10000, iN_add, iN_sub, iN_mul, iN_le_t, iN_le_f, iN_lt_t, iN_lt_f, iN_eq_f, inb_iN, ix_iN, isZ_0, isZ_1, ↓reduceIte, eq_self, c, c2]
  · right
    have hk : k = 0 ∨ k = 1 ∨ k = 2 ∨ k = 3 := by omega
    refine ⟨k, by omega, rfl, h, ?_, ?_⟩ <;> (rcases hk with rfl | rfl | rfl | rfl <;> rfl)
theorem slab_cases (x : Int32) (G : G_) : (inS (iN 0) (iN 3) x = iN 0 ∧ f_X7_slabAt x G = some none) ∨ ∃ k, k < 4 ∧ x = iN k ∧ inS (iN 0) (iN 3) x = iN 1 ∧ f_X7_slabAt x G = some (some (71 + k)) ∧ kd (71 + k) = 5 := by
  rcases in_N 0 3 x with h | ⟨h, k, rfl, h1, h2⟩
  · left
    refine ⟨h, ?_⟩
    unfold f_X7_slabAt
    rcases at_none (b := 3) (by omega) h with c | ⟨c, c2⟩
    · simp (disch := omega) only [chk_t, beq_self_eq_true, nm_s, bj1_s, bj2_s, bj3_s, mo_1, mo_0, l_0, l_1, l_2, l_3, l_4, l_5, l_6, l_7, l_8, l_9, l_10, l_11, l_12, l_13, l_14, l_15, l_16, l_17, l_18, l_19, l_20, l_21, l_30, l_31, l_32, l_36, l_40, l_41, l_42, l_43, l_44, l_45, l_46, l_47, l_48, l_49, l_50, l_51, l_52, l_57, l_58, l_60, l_64, l_72, l_80, l_92, l_98, l_99, l_100, l_102, l_105, l_111, l_112, l_114, l_115, l_116, l_117, l_120, l_144, l_200, l_201, l_240, l_300, l_320, l_400, l_500, l_550, l_560, l_649, l_650, l_1000, l_1400, l_2000, l_4000, l_10000, iN_add, iN_sub, iN_mul, iN_le_t, iN_le_f, iN_lt_t, iN_lt_f, iN_eq_f, inb_iN, ix_iN, isZ_0, isZ_1, ↓reduceIte, eq_self, c]
    · simp (disch := omega) only [chk_t, beq_self_eq_true, nm_s, bj1_s, bj2_s, bj3_s, mo_1, mo_0, l_0, l_1, l_2, l_3, l_4, l_5, l_6, l_7, l_8, l_9, l_10, l_11, l_12, l_13, l_14, l_15, l_16, l_17, l_18, l_19, l_20, l_21, l_30, l_31, l_32, l_36, l_40, l_41, l_42, l_43, l_44, l_45, l_46, l_47, l_48, l_49, l_50, l_51, l_52, l_57, l_58, l_60, l_64, l_72, l_80, l_92, l_98, l_99, l_100, l_102, l_105, l_111, l_112, l_114, l_115, l_116, l_117, l_120, l_144, l_200, l_201, l_240, l_300, l_320, l_400, l_500, l_550, l_560, l_649, l_650, l_1000, l_1400, l_2000, l_4000, l_10000, iN_add, iN_sub, iN_mul, iN_le_t, iN_le_f, iN_lt_t, iN_lt_f, iN_eq_f, inb_iN, ix_iN, isZ_0, isZ_1, ↓reduceIte, eq_self, c, c2]
  · right
    have hk : k = 0 ∨ k = 1 ∨ k = 2 ∨ k = 3 := by omega
    refine ⟨k, by omega, rfl, h, ?_, ?_⟩ <;> (rcases hk with rfl | rfl | rfl | rfl <;> rfl)
theorem plan_cases (x : Int32) (G : G_) : (inS (iN 0) (iN 3) x = iN 0 ∧ f_X7_planAt x G = some none) ∨ ∃ k, k < 4 ∧ x = iN k ∧ inS (iN 0) (iN 3) x = iN 1 ∧ f_X7_planAt x G = some (some (75 + 4 * k)) ∧ kd (75 + 4 * k) = 2 := by
  rcases in_N 0 3 x with h | ⟨h, k, rfl, h1, h2⟩
  · left
    refine ⟨h, ?_⟩
    unfold f_X7_planAt
    rcases at_none (b := 3) (by omega) h with c | ⟨c, c2⟩
    · simp (disch := omega) only [chk_t, beq_self_eq_true, nm_s, bj1_s, bj2_s, bj3_s, mo_1, mo_0, l_0, l_1, l_2, l_3, l_4, l_5, l_6, l_7, l_8, l_9, l_10, l_11, l_12, l_13, l_14, l_15, l_16, l_17, l_18, l_19, l_20, l_21, l_30, l_31, l_32, l_36, l_40, l_41, l_42, l_43, l_44, l_45, l_46, l_47, l_48, l_49, l_50, l_51, l_52, l_57, l_58, l_60, l_64, l_72, l_80, l_92, l_98, l_99, l_100, l_102, l_105, l_111, l_112, l_114, l_115, l_116, l_117, l_120, l_144, l_200, l_201, l_240, l_300, l_320, l_400, l_500, l_550, l_560, l_649, l_650, l_1000, l_1400, l_2000, l_4000, l_10000, iN_add, iN_sub, iN_mul, iN_le_t, iN_le_f, iN_lt_t, iN_lt_f, iN_eq_f, inb_iN, ix_iN, isZ_0, isZ_1, ↓reduceIte, eq_self, c]
    · simp (disch := omega) only [chk_t, beq_self_eq_true, nm_s, bj1_s, bj2_s, bj3_s, mo_1, mo_0, l_0, l_1, l_2, l_3, l_4, l_5, l_6, l_7, l_8, l_9, l_10, l_11, l_12, l_13, l_14, l_15, l_16, l_17, l_18, l_19, l_20, l_21, l_30, l_31, l_32, l_36, l_40, l_41, l_42, l_43, l_44, l_45, l_46, l_47, l_48, l_49, l_50, l_51, l_52, l_57, l_58, l_60, l_64, l_72, l_80, l_92, l_98, l_99, l_100, l_102, l_105, l_111, l_112, l_114, l_115, l_116, l_117, l_120, l_144, l_200, l_201, l_240, l_300, l_320, l_400, l_500, l_550, l_560, l_649, l_650, l_1000, l_1400, l_2000, l_4000, l_10000, iN_add, iN_sub, iN_mul, iN_le_t, iN_le_f, iN_lt_t, iN_lt_f, iN_eq_f, inb_iN, ix_iN, isZ_0, isZ_1, ↓reduceIte, eq_self, c, c2]
  · right
    have hk : k = 0 ∨ k = 1 ∨ k = 2 ∨ k = 3 := by omega
    refine ⟨k, by omega, rfl, h, ?_, ?_⟩ <;> (rcases hk with rfl | rfl | rfl | rfl <;> rfl)
theorem kept_cases (x : Int32) (G : G_) : (inS (iN 0) (iN 2) x = iN 0 ∧ f_X7_keptAt x G = some none) ∨ ∃ k, k < 3 ∧ x = iN k ∧ inS (iN 0) (iN 2) x = iN 1 ∧ f_X7_keptAt x G = some (some (91 + 11 * k)) ∧ kd (91 + 11 * k) = 0 := by
  rcases in_N 0 2 x with h | ⟨h, k, rfl, h1, h2⟩
  · left
    refine ⟨h, ?_⟩
    unfold f_X7_keptAt
    rcases at_none (b := 2) (by omega) h with c | ⟨c, c2⟩
    · simp (disch := omega) only [chk_t, beq_self_eq_true, nm_s, bj1_s, bj2_s, bj3_s, mo_1, mo_0, l_0, l_1, l_2, l_3, l_4, l_5, l_6, l_7, l_8, l_9, l_10, l_11, l_12, l_13, l_14, l_15, l_16, l_17, l_18, l_19, l_20, l_21, l_30, l_31, l_32, l_36, l_40, l_41, l_42, l_43, l_44, l_45, l_46, l_47, l_48, l_49, l_50, l_51, l_52, l_57, l_58, l_60, l_64, l_72, l_80, l_92, l_98, l_99, l_100, l_102, l_105, l_111, l_112, l_114, l_115, l_116, l_117, l_120, l_144, l_200, l_201, l_240, l_300, l_320, l_400, l_500, l_550, l_560, l_649, l_650, l_1000, l_1400, l_2000, l_4000, l_10000, iN_add, iN_sub, iN_mul, iN_le_t, iN_le_f, iN_lt_t, iN_lt_f, iN_eq_f, inb_iN, ix_iN, isZ_0, isZ_1, ↓reduceIte, eq_self, c]
    · simp (disch := omega) only [chk_t, beq_self_eq_true, nm_s, bj1_s, bj2_s, bj3_s, mo_1, mo_0, l_0, l_1, l_2, l_3, l_4, l_5, l_6, l_7, l_8, l_9, l_10, l_11, l_12, l_13, l_14, l_15, l_16, l_17, l_18, l_19, l_20, l_21, l_30, l_31, l_32, l_36, l_40, l_41, l_42, l_43, l_44, l_45, l_46, l_47, l_48, l_49, l_50, l_51, l_52, l_57, l_58, l_60, l_64, l_72, l_80, l_92, l_98, l_99, l_100, l_102, l_105, l_111, l_112, l_114, l_115, l_116, l_117, l_120, l_144, l_200, l_201, l_240, l_300, l_320, l_400, l_500, l_550, l_560, l_649, l_650, l_1000, l_1400, l_2000, l_4000, l_10000, iN_add, iN_sub, iN_mul, iN_le_t, iN_le_f, iN_lt_t, iN_lt_f, iN_eq_f, inb_iN, ix_iN, isZ_0, isZ_1, ↓reduceIte, eq_self, c, c2]
  · right
    have hk : k = 0 ∨ k = 1 ∨ k = 2 := by omega
    refine ⟨k, by omega, rfl, h, ?_, ?_⟩ <;> (rcases hk with rfl | rfl | rfl <;> rfl)
theorem isZ_in {a b x : Int32} : isZ (inS a b x) = true := by
  rcases inS_01 a b x with h | h <;> rw [h] <;> rfl
theorem row8 (x : Int32) : f_X8_isRow x = some (inS (iN 0) (iN 5) x) := by
  unfold f_X8_isRow
  simp (disch := omega) only [chk_t, beq_self_eq_true, nm_s, bj1_s, bj2_s, bj3_s, mo_1, mo_0, l_0, l_1, l_2, l_3, l_4, l_5, l_6, l_7, l_8, l_9, l_10, l_11, l_12, l_13, l_14, l_15, l_16, l_17, l_18, l_19, l_20, l_21, l_30, l_31, l_32, l_36, l_40, l_41, l_42, l_43, l_44, l_45, l_46, l_47, l_48, l_49, l_50, l_51, l_52, l_57, l_58, l_60, l_64, l_72, l_80, l_92, l_98, l_99, l_100, l_102, l_105, l_111, l_112, l_114, l_115, l_116, l_117, l_120, l_144, l_200, l_201, l_240, l_300, l_320, l_400, l_500, l_550, l_560, l_649, l_650, l_1000, l_1400, l_2000, l_4000, l_10000, iN_add, iN_sub, iN_mul, iN_le_t, iN_le_f, iN_lt_t, iN_lt_f, iN_eq_f, inb_iN, ix_iN, isZ_0, isZ_1, ↓reduceIte, eq_self, in8, isZ_in]
theorem text8 (x : Int32) : f_X8_isText x = some (inS (iN 0) (iN 3) x) := by
  unfold f_X8_isText
  simp (disch := omega) only [chk_t, beq_self_eq_true, nm_s, bj1_s, bj2_s, bj3_s, mo_1, mo_0, l_0, l_1, l_2, l_3, l_4, l_5, l_6, l_7, l_8, l_9, l_10, l_11, l_12, l_13, l_14, l_15, l_16, l_17, l_18, l_19, l_20, l_21, l_30, l_31, l_32, l_36, l_40, l_41, l_42, l_43, l_44, l_45, l_46, l_47, l_48, l_49, l_50, l_51, l_52, l_57, l_58, l_60, l_64, l_72, l_80, l_92, l_98, l_99, l_100, l_102, l_105, l_111, l_112, l_114, l_115, l_116, l_117, l_120, l_144, l_200, l_201, l_240, l_300, l_320, l_400, l_500, l_550, l_560, l_649, l_650, l_1000, l_1400, l_2000, l_4000, l_10000, iN_add, iN_sub, iN_mul, iN_le_t, iN_le_f, iN_lt_t, iN_lt_f, iN_eq_f, inb_iN, ix_iN, isZ_0, isZ_1, ↓reduceIte, eq_self, in8, isZ_in]
theorem place8 (x : Int32) : f_X8_isPlace x = some (inS (iN 0) (iN 3) x) := by
  unfold f_X8_isPlace
  simp (disch := omega) only [chk_t, beq_self_eq_true, nm_s, bj1_s, bj2_s, bj3_s, mo_1, mo_0, l_0, l_1, l_2, l_3, l_4, l_5, l_6, l_7, l_8, l_9, l_10, l_11, l_12, l_13, l_14, l_15, l_16, l_17, l_18, l_19, l_20, l_21, l_30, l_31, l_32, l_36, l_40, l_41, l_42, l_43, l_44, l_45, l_46, l_47, l_48, l_49, l_50, l_51, l_52, l_57, l_58, l_60, l_64, l_72, l_80, l_92, l_98, l_99, l_100, l_102, l_105, l_111, l_112, l_114, l_115, l_116, l_117, l_120, l_144, l_200, l_201, l_240, l_300, l_320, l_400, l_500, l_550, l_560, l_649, l_650, l_1000, l_1400, l_2000, l_4000, l_10000, iN_add, iN_sub, iN_mul, iN_le_t, iN_le_f, iN_lt_t, iN_lt_f, iN_eq_f, inb_iN, ix_iN, isZ_0, isZ_1, ↓reduceIte, eq_self, in8, isZ_in]

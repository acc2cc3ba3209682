/-! which, odds: sixteen pairs of a slab and a plan, how many depths each is unlike -/
theorem slabAt_t {k : Nat} (h : k < 4) (G : G_) : f_X7_slabAt (iN k) G = some (some (71 + k)) ∧ kd (71 + k) = 5 := by
  have : k = 0 ∨ k = 1 ∨ k = 2 ∨ k = 3 := by omega
  rcases this with rfl | rfl | rfl | rfl <;> exact ⟨rfl, rfl⟩
theorem planAt_t {k : Nat} (h : k < 4) (G : G_) : f_X7_planAt (iN k) G = some (some (75 + 4 * k)) ∧ kd (75 + 4 * k) = 2 := by
  have : k = 0 ∨ k = 1 ∨ k = 2 ∨ k = 3 := by omega
  rcases this with rfl | rfl | rfl | rfl <;> exact ⟨rfl, rfl⟩
theorem pOK_found3 {c m : G_ → Option (Int32 × G_)} {G G1 H : G_} {f : Nat} (hf : 1 ≤ f ∧ f ≤ 5) (h : RR G) (f1 : cc G G1) (h1 : c G = some (-iN 3, fndC f G1)) (f2 : mf (fndC f G1) H) (h2 : m (fndC f G1) = some (-iN 3, fndM f H)) : pOK c m G := by
  have hR : RR G1 := RR_keep h (kp_cc f1) (by rw [f1.1 0 (by omega)]) (by rw [f1.1 124 (by omega)])
  obtain ⟨x, A, B, p1, p2, p3⟩ := pOK_found2 (c := fun _ => some (-iN 3, fndC f G1)) hf hR rfl f2 h2
  have p1 : some (-iN 3, fndC f G1) = some (x, A) := p1
  injection p1 with p1
  injection p1 with p1 p1'
  exact ⟨x, A, B, by rw [h1, p1, p1'], p2, p3⟩
theorem sI_sI {G : G_} {p j : Nat} {v w : Int32} : sI (sI G p j v) p j w = sI G p j w := by
  refine G_ext (fun q i => ?_) rfl
  show u2 (u2 G.1 p j v) p j w q i = u2 G.1 p j w q i
  rw [u2_eq, u2_eq, u2_eq]
  split
  · split
    · rfl
    · rfl
  · rfl
def uQ (r z : Nat) (G : G_) (j : Nat) : Int32 := sumS (fun i => if colS (mkS (newP (j / 4) (j - j / 4 * 4) G)) i = G.1 127 (40 * r + i) then iN 0 else iN 1) z
def uS (r z : Nat) (G : G_) (j : Nat) : Int32 := if G.1 131 (j / 4) = iN 0 then -iN 1 else if G.1 133 (j - j / 4 * 4) = iN 0 then -iN 1 else if G.1 132 (4 * (j / 4)) = iN z then uQ r z G j else -iN 1
def f20 (f : Nat → Int32) : Prop := ∀ j, f j = -iN 1 ∨ ∃ c, c ≤ 20 ∧ f j = iN c
theorem uQ_r (r z : Nat) (G : G_) (j : Nat) (hz : z ≤ 20) : ∃ c, c ≤ 20 ∧ uQ r z G j = iN c := by
  obtain ⟨k, h1, h2⟩ := sum01 (fun i => if colS (mkS (newP (j / 4) (j - j / 4 * 4) G)) i = G.1 127 (40 * r + i) then iN 0 else iN 1) z (fun i _ => by
    show (if _ then iN 0 else iN 1) = iN 0 ∨ (if _ then iN 0 else iN 1) = iN 1
    split
    · exact Or.inl rfl
    · exact Or.inr rfl) (by omega)
  exact ⟨k, by omega, h2⟩
theorem uS_r (r z : Nat) (G : G_) (hz : z ≤ 20) : f20 (uS r z G) := by
  intro j
  unfold uS
  split
  · exact Or.inl rfl
  · split
    · exact Or.inl rfl
    · split
      · exact Or.inr (uQ_r r z G j hz)
      · exact Or.inl rfl
def leS (f : Nat → Int32) : Nat → Int32 × Int32
  | 0 => (-iN 1, -iN 9)
  | j + 1 => if f j < iN 0 then leS f j else if (leS f j).2 = -iN 9 then (f j, iN j) else if (leS f j).1 ≤ f j then leS f j else (f j, iN j)
def leP (f : Nat → Int32) (j : Nat) (s : Int32 × Int32) : Prop :=
  (s = (-iN 1, -iN 9) ∧ ∀ i, i < j → f i = -iN 1) ∨
  ∃ b c, b < j ∧ c ≤ 20 ∧ f b = iN c ∧ s = (iN c, iN b) ∧ (∀ i d, i < j → d ≤ 20 → f i = iN d → c ≤ d) ∧ (∀ i d, i < b → d ≤ 20 → f i = iN d → c < d)
theorem ne_m1 {c : Nat} (h : c ≤ 1000) : iN c ≠ -iN 1 := fun e => by
  have := congrArg Int32.toInt e
  rw [li (by omega), show (-iN 1).toInt = -1 from by decide] at this
  omega
theorem ne_m9 {c : Nat} (h : c ≤ 1000) : iN c ≠ -iN 9 := fun e => by
  have := congrArg Int32.toInt e
  rw [li (by omega), show (-iN 9).toInt = -9 from by decide] at this
  omega
theorem nlt_N {c : Nat} (h : c ≤ 1000) : ¬ iN c < iN 0 := of_eq_false (iN_lt_f (by omega) (by omega))
theorem leS_ok {f : Nat → Int32} (hf : f20 f) (j : Nat) (hj : j ≤ 16) : leP f j (leS f j) := by
  induction j with
  | zero => exact Or.inl ⟨rfl, fun i hi => by omega⟩
  | succ j ih =>
    have ih := ih (by omega)
    unfold leS
    rcases hf j with e | ⟨d, hd, e⟩
    · rw [if_pos (by rw [e]; decide)]
      rcases ih with ⟨h1, h2⟩ | ⟨b, c, h1, h2, h3, h4, h5, h6⟩
      · refine Or.inl ⟨h1, fun i hi => ?_⟩
        by_cases c : i = j
        · rw [c]; exact e
        · exact h2 i (by omega)
      · refine Or.inr ⟨b, c, by omega, h2, h3, h4, fun i d hi hd hf' => ?_, h6⟩
        by_cases c' : i = j
        · rw [c', e] at hf'
          exact absurd hf'.symm (ne_m1 (by omega))
        · exact h5 i d (by omega) hd hf'
    · rw [if_neg (by rw [e]; exact nlt_N (by omega))]
      rcases ih with ⟨h1, h2⟩ | ⟨b, c, h1, h2, h3, h4, h5, h6⟩
      · rw [h1, if_pos rfl, e]
        refine Or.inr ⟨j, d, by omega, hd, e, rfl, fun i d' hi hd' hf' => ?_, fun i d' hi hd' hf' => ?_⟩
        · by_cases c' : i = j
          · rw [c', e] at hf'
            have := (iN_inj (by omega) (by omega)).mp hf'
            omega
          · rw [h2 i (by omega)] at hf'
            exact absurd hf'.symm (ne_m1 (by omega))
        · rw [h2 i (by omega)] at hf'
          exact absurd hf'.symm (ne_m1 (by omega))
      · rw [h4, if_neg (ne_m9 (by omega)), e]
        by_cases cq : c ≤ d
        · rw [if_pos ((iN_le (by omega) (by omega)).mpr cq)]
          refine Or.inr ⟨b, c, by omega, h2, h3, rfl, fun i d' hi hd' hf' => ?_, h6⟩
          by_cases c' : i = j
          · rw [c', e] at hf'
            have := (iN_inj (by omega) (by omega)).mp hf'
            omega
          · exact h5 i d' (by omega) hd' hf'
        · rw [if_neg (fun z => cq ((iN_le (by omega) (by omega)).mp z))]
          refine Or.inr ⟨j, d, by omega, hd, e, rfl, fun i d' hi hd' hf' => ?_, fun i d' hi hd' hf' => ?_⟩
          · by_cases c' : i = j
            · rw [c', e] at hf'
              have := (iN_inj (by omega) (by omega)).mp hf'
              omega
            · have := h5 i d' (by omega) hd' hf'
              omega
          · have := h5 i d' (by omega) hd' hf'
            omega
/-- the class: all sixteen, and the least -/
theorem leS_c {f : Nat → Int32} (hf : f20 f) {j : Nat} (hj : j < 16) (hc : ¬ f j < iN 0) : (leS f (j + 1)).1 = if iN 0 ≤ (leS f j).1 then mn (leS f j).1 (f j) else f j := by
  conv => lhs; unfold leS
  rw [if_neg hc]
  rcases leS_ok hf j (by omega) with ⟨h1, h2⟩ | ⟨b, c, h1, h2, h3, h4, h5, h6⟩
  · rw [h1, if_pos rfl, if_neg (of_eq_false le_m1)]
  · rw [h4, if_neg (ne_m9 (by omega)), if_pos (of_eq_true (iN_le_t (by omega) (by omega)))]
    unfold mn
    show (if iN c ≤ f j then (iN c, iN b) else (f j, iN j)).1 = if f j < iN c then f j else iN c
    by_cases cq : iN c ≤ f j
    · rw [if_pos cq, if_neg (fun z => by have := t_lt.mp z; have := t_le.mp cq; omega)]
    · rw [if_neg cq, if_pos (by rw [t_lt]; have : ¬ (iN c).toInt ≤ (f j).toInt := fun z => cq (t_le.mpr z); omega)]
theorem leS_n {f : Nat → Int32} {j : Nat} (h : f j = -iN 1) : leS f (j + 1) = leS f j := by
  conv => lhs; unfold leS
  rw [if_pos (by rw [h]; decide)]
theorem unl_ok {r z n : Nat} {G A : G_} {D : Nat → Int32} {g : Nat → Int32} (ho : kd (51 + 2 * r) = 4) (hz : z ≤ 20) (hn : okN D z) (hc : cD 17 D A) (h1 : A.1 (51 + 2 * r) 1 = iN z) (h2 : ∀ i, i < z → A.1 (51 + 2 * r + 1) i = g i) : f_X0_unlikeRow 17 (51 + 2 * r) A = some (sumS (fun i => if colS D i = g i then iN 0 else iN 1) z) := by
  have h8 : A.1 17 8 = iN z := (c_8 hc).trans hn.1
  have key : f_X0_unlikeRow_l4_3 17 (51 + 2 * r) A FU (iN 0) (iN 0) = some (sumS (fun i => if colS D i = g i then iN 0 else iN 1) z) := by
    refine loop_sum (fun n s v => f_X0_unlikeRow_l4_3 17 (51 + 2 * r) A n s v) _ z ?_ ?_ (fu_lt (by omega))
    · intro f k s hk
      show f_X0_unlikeRow_l4_3 17 (51 + 2 * r) A (f + 1) s (iN k) = f_X0_unlikeRow_l4_3 17 (51 + 2 * r) A f (s + if colS D k = g k then iN 0 else iN 1) (iN (k + 1))
      conv => lhs; unfold f_X0_unlikeRow_l4_3
      have e := h2 k hk
      have v := value_t ho h1 (by omega) hk
      have cl := ccol_ok (o := 17) rfl hn hc hk
      by_cases c : g k = colS D k
      · simp (disch := omega) only [chk_t, beq_self_eq_true, nm_s, bj1_s, bj2_s, bj3_s, mo_1, mo_0, l_0, l_1, l_2, l_3, l_4, l_5, l_6, l_7, l_8, l_9, l_10, l_11, l_12, l_13, l_14, l_15, l_16, l_17, l_18, l_19, l_20, l_21, l_30, l_31, l_32, l_36, l_40, l_41, l_42, l_43, l_44, l_45, l_46, l_47, l_48, l_49, l_50, l_51, l_52, l_57, l_58, l_60, l_64, l_72, l_80, l_92, l_98, l_99, l_100, l_102, l_105, l_111, l_112, l_114, l_115, l_116, l_117, l_120, l_144, l_200, l_201, l_240, l_300, l_320, l_400, l_500, l_550, l_560, l_649, l_650, l_1000, l_1400, l_2000, l_4000, l_10000, iN_add, iN_sub, iN_mul, iN_le_t, iN_le_f, iN_lt_t, iN_lt_f, iN_eq_f, inb_iN, ix_iN, isZ_0, isZ_1, ↓reduceIte, eq_self, h8, v, cl, e, if_pos c, if_pos c.symm]
      · simp (disch := omega) only [chk_t, beq_self_eq_true, nm_s, bj1_s, bj2_s, bj3_s, mo_1, mo_0, l_0, l_1, l_2, l_3, l_4, l_5, l_6, l_7, l_8, l_9, l_10, l_11, l_12, l_13, l_14, l_15, l_16, l_17, l_18, l_19, l_20, l_21, l_30, l_31, l_32, l_36, l_40, l_41, l_42, l_43, l_44, l_45, l_46, l_47, l_48, l_49, l_50, l_51, l_52, l_57, l_58, l_60, l_64, l_72, l_80, l_92, l_98, l_99, l_100, l_102, l_105, l_111, l_112, l_114, l_115, l_116, l_117, l_120, l_144, l_200, l_201, l_240, l_300, l_320, l_400, l_500, l_550, l_560, l_649, l_650, l_1000, l_1400, l_2000, l_4000, l_10000, iN_add, iN_sub, iN_mul, iN_le_t, iN_le_f, iN_lt_t, iN_lt_f, iN_eq_f, inb_iN, ix_iN, isZ_0, isZ_1, ↓reduceIte, eq_self, h8, v, cl, e, if_neg c, if_neg (fun z => c (Eq.symm z))]
    · intro f s
      show f_X0_unlikeRow_l4_3 17 (51 + 2 * r) A (f + 1) s (iN z) = _
      unfold f_X0_unlikeRow_l4_3
      simp (disch := omega) only [chk_t, beq_self_eq_true, nm_s, bj1_s, bj2_s, bj3_s, mo_1, mo_0, l_0, l_1, l_2, l_3, l_4, l_5, l_6, l_7, l_8, l_9, l_10, l_11, l_12, l_13, l_14, l_15, l_16, l_17, l_18, l_19, l_20, l_21, l_30, l_31, l_32, l_36, l_40, l_41, l_42, l_43, l_44, l_45, l_46, l_47, l_48, l_49, l_50, l_51, l_52, l_57, l_58, l_60, l_64, l_72, l_80, l_92, l_98, l_99, l_100, l_102, l_105, l_111, l_112, l_114, l_115, l_116, l_117, l_120, l_144, l_200, l_201, l_240, l_300, l_320, l_400, l_500, l_550, l_560, l_649, l_650, l_1000, l_1400, l_2000, l_4000, l_10000, iN_add, iN_sub, iN_mul, iN_le_t, iN_le_f, iN_lt_t, iN_lt_f, iN_eq_f, inb_iN, ix_iN, isZ_0, isZ_1, ↓reduceIte, eq_self, h8]
  have kk : kd 17 = 0 := rfl
  unfold f_X0_unlikeRow
  simp (disch := omega) only [chk_t, beq_self_eq_true, nm_s, bj1_s, bj2_s, bj3_s, mo_1, mo_0, l_0, l_1, l_2, l_3, l_4, l_5, l_6, l_7, l_8, l_9, l_10, l_11, l_12, l_13, l_14, l_15, l_16, l_17, l_18, l_19, l_20, l_21, l_30, l_31, l_32, l_36, l_40, l_41, l_42, l_43, l_44, l_45, l_46, l_47, l_48, l_49, l_50, l_51, l_52, l_57, l_58, l_60, l_64, l_72, l_80, l_92, l_98, l_99, l_100, l_102, l_105, l_111, l_112, l_114, l_115, l_116, l_117, l_120, l_144, l_200, l_201, l_240, l_300, l_320, l_400, l_500, l_550, l_560, l_649, l_650, l_1000, l_1400, l_2000, l_4000, l_10000, iN_add, iN_sub, iN_mul, iN_le_t, iN_le_f, iN_lt_t, iN_lt_f, iN_eq_f, inb_iN, ix_iN, isZ_0, isZ_1, ↓reduceIte, eq_self, kd_b kk, kd_b ho, key]
theorem cleast_ok {r z : Nat} {G : G_} (h : RR0 G) (hr : r < 6) (hz : z ≤ 20) (ez : G.1 126 r = iN z) : ∃ H, f_X7_leastUnlike (51 + 2 * r) G = some ((leS (uS r z G) 16).1, H) ∧ cc G H ∧ ∀ i, i < 16 → H.1 48 i = uS r z G i := by
  obtain ⟨q1, q2, q3⟩ := h.1 r hr
  have ho := (rrk r hr).2
  have hf := uS_r r z G hz
  have rz : G.1 (51 + 2 * r) 1 = iN z := q1.trans ez
  have hL : ∃ s, f_X7_leastUnlike_l4_4 (51 + 2 * r) FU (-iN 1) (iN 0) G = some s ∧ s.1 = (leS (uS r z G) 16).1 ∧ cc G s.2 ∧ ∀ i, i < 16 → s.2.1 48 i = uS r z G i := by
    refine loop_h (fun f v (s : Int32 × G_) => f_X7_leastUnlike_l4_4 (51 + 2 * r) f s.1 v s.2) (fun j s => s.1 = (leS (uS r z G) j).1 ∧ cc G s.2 ∧ ∀ i, i < j → s.2.1 48 i = uS r z G i) _ 0 16 ?_ ?_ (by omega) (n := FU) (fu_lt (by omega)) (s := (-iN 1, G)) ⟨rfl, cc_refl, fun i hi => by omega⟩
    · intro f j ⟨v, H⟩ h3 h4 ⟨i0, i1, i2⟩
      have i0 : v = _ := i0
      have i1 : cc G H := i1
      subst i0
      have hk : j / 4 < 4 := by omega
      have hp : j - j / 4 * 4 < 4 := by omega
      have ediv : iN j / iN 4 = iN (j / 4) := iN_div (by omega) (by omega) (by omega)
      obtain ⟨s5, k5⟩ := slabAt_t hk H
      obtain ⟨p5, k2⟩ := planAt_t hp H
      obtain ⟨r1, r2, r3⟩ := h.2.2.1 _ hk
      obtain ⟨t1, t2, t3⟩ := h.2.2.2.1 _ hp
      have cH := cc_sI (p := 48) (j := j) (v := -iN 1) i1 (by omega) (by omega)
      have e0 : (sI H 48 j (-iN 1)).1 (71 + j / 4) = G.1 (71 + j / 4) := cc_at cH (by omega)
      have e1 : (sI H 48 j (-iN 1)).1 (75 + 4 * (j - j / 4 * 4)) = G.1 (75 + 4 * (j - j / 4 * 4)) := cc_at cH (by omega)
      have e2 : (sI H 48 j (-iN 1)).1 (51 + 2 * r) = G.1 (51 + 2 * r) := cc_at cH (by omega)
      have hu : ∀ c, uS r z G j = c → ∀ B : G_, (∀ i, i ≠ j → B.1 48 i = H.1 48 i) → B.1 48 j = c → ∀ i, i < j + 1 → B.1 48 i = uS r z G i := fun c hc B hB hB2 i hi => by
        by_cases d : i = j
        · subst d
          rw [hB2, hc]
        · rw [hB i d]
          exact i2 i (by omega)
      have none_ : uS r z G j = -iN 1 → f_X7_leastUnlike_l4_4 (51 + 2 * r) (f + 1) (leS (uS r z G) j).1 (iN j) H = f_X7_leastUnlike_l4_4 (51 + 2 * r) f (leS (uS r z G) j).1 (iN (j + 1)) (sI H 48 j (-iN 1)) → ∃ s' : Int32 × G_, (s'.1 = (leS (uS r z G) (j + 1)).1 ∧ cc G s'.2 ∧ ∀ i, i < j + 1 → s'.2.1 48 i = uS r z G i) ∧ f_X7_leastUnlike_l4_4 (51 + 2 * r) (f + 1) (leS (uS r z G) j).1 (iN j) H = f_X7_leastUnlike_l4_4 (51 + 2 * r) f s'.1 (iN (j + 1)) s'.2 := fun hu1 hs => ⟨((leS (uS r z G) j).1, sI H 48 j (-iN 1)), ⟨by rw [leS_n hu1], cH, hu _ hu1 _ (fun i hi => sI_j hi) sI_eq⟩, hs⟩
      rcases r2 with r2 | ⟨r2, n, hsl⟩
      · refine none_ (by unfold uS; rw [if_pos r2]) ?_
        conv => lhs; unfold f_X7_leastUnlike_l4_4
        simp (disch := omega) only [chk_t, beq_self_eq_true, nm_s, bj1_s, bj2_s, bj3_s, mo_1, mo_0, l_0, l_1, l_2, l_3, l_4, l_5, l_6, l_7, l_8, l_9, l_10, l_11, l_12, l_13, l_14, l_15, l_16, l_17, l_18, l_19, l_20, l_21, l_30, l_31, l_32, l_36, l_40, l_41, l_42, l_43, l_44, l_45, l_46, l_47, l_48, l_49, l_50, l_51, l_52, l_57, l_58, l_60, l_64, l_72, l_80, l_92, l_98, l_99, l_100, l_102, l_105, l_111, l_112, l_114, l_115, l_116, l_117, l_120, l_144, l_200, l_201, l_240, l_300, l_320, l_400, l_500, l_550, l_560, l_649, l_650, l_1000, l_1400, l_2000, l_4000, l_10000, iN_add, iN_sub, iN_mul, iN_le_t, iN_le_f, iN_lt_t, iN_lt_f, iN_eq_f, inb_iN, ix_iN, isZ_0, isZ_1, ↓reduceIte, eq_self, ediv, s5, p5, kd_b k5, kd_b k2, e0, r1, r2]
      · have u1 : ¬ G.1 131 (j / 4) = iN 0 := by rw [r2]; decide
        rcases t2 with t2 | ⟨t2, mm, hpl⟩
        · refine none_ (by unfold uS; rw [if_neg u1, if_pos t2]) ?_
          conv => lhs; unfold f_X7_leastUnlike_l4_4
          simp (disch := omega) only [chk_t, beq_self_eq_true, nm_s, bj1_s, bj2_s, bj3_s, mo_1, mo_0, l_0, l_1, l_2, l_3, l_4, l_5, l_6, l_7, l_8, l_9, l_10, l_11, l_12, l_13, l_14, l_15, l_16, l_17, l_18, l_19, l_20, l_21, l_30, l_31, l_32, l_36, l_40, l_41, l_42, l_43, l_44, l_45, l_46, l_47, l_48, l_49, l_50, l_51, l_52, l_57, l_58, l_60, l_64, l_72, l_80, l_92, l_98, l_99, l_100, l_102, l_105, l_111, l_112, l_114, l_115, l_116, l_117, l_120, l_144, l_200, l_201, l_240, l_300, l_320, l_400, l_500, l_550, l_560, l_649, l_650, l_1000, l_1400, l_2000, l_4000, l_10000, iN_add, iN_sub, iN_mul, iN_le_t, iN_le_f, iN_lt_t, iN_lt_f, iN_eq_f, inb_iN, ix_iN, isZ_0, isZ_1, ↓reduceIte, eq_self, ediv, s5, p5, kd_b k5, kd_b k2, e0, r1, r2, e1, t1, t2]
        · have u2' : ¬ G.1 133 (j - j / 4 * 4) = iN 0 := by rw [t2]; decide
          have sn : G.1 132 (4 * (j / 4)) = iN n := hsl.1.1
          have sn1 : G.1 (71 + j / 4) 1 = iN n := r3.1.trans hsl.1.1
          by_cases cn : n = z
          · subst cn
            have hu1 : uS r n G j = uQ r n G j := by unfold uS; rw [if_neg u1, if_neg u2', if_pos sn]
            have hX := np_sl (p := j - j / 4 * 4) hsl
            have hP := np_pl (k := j / 4) hpl
            have hc := np_c (p := j - j / 4 * 4) r3
            have hcp := np_cp (k := j / 4) hpl (t3 t2)
            have hQ : uQ r n G j = sumS (fun i => if colS (mkS (newP (j / 4) (j - j / 4 * 4) G)) i = G.1 127 (40 * r + i) then iN 0 else iN 1) n := rfl
            generalize newP (j / 4) (j - j / 4 * 4) G = X at *
            have hs3 : G.1 (71 + j / 4) 3 = X 2 := hc.2.2.1
            obtain ⟨A, hA, cA, fA⟩ := mkPl_ok (o := 17) (G := sI H 48 j (-iN 1)) rfl k5 (by omega) k2 (by omega) hX (by rw [e0]; exact hc.2.1) (by rw [e0]; exact hc.2.2.2) hP (cPl_cc hcp (fun q h1 h2 => cc_at cH (by omega)))
            have wm := wf_mk hX hP
            have ccA : cc G A := cc_tr cH (cc_fr fA (by omega) (by omega))
            have hU := unl_ok (n := n) (G := G) (g := fun i => G.1 127 (40 * r + i)) ho hz wm.1 cA (by rw [cc_at ccA (by omega)]; exact rz) (fun i hi => by rw [cc_at ccA (by omega), show 51 + 2 * r + 1 = 52 + 2 * r by omega]; exact q3 i (by omega))
            rw [← hQ] at hU
            obtain ⟨c, hc1, hc2⟩ := uQ_r r n G j hz
            have hlt : ¬ uS r n G j < iN 0 := by rw [hu1, hc2]; exact nlt_N (by omega)
            have hLc := leS_c hf h4 hlt
            rw [hu1] at hLc
            refine ⟨((leS (uS r n G) (j + 1)).1, sI A 48 j (uQ r n G j)), ⟨rfl, cc_sI ccA (by omega) (by omega), hu _ hu1 _ (fun i hi => by rw [sI_j hi, fA.1.1 48 (by omega), sI_j hi]) sI_eq⟩, ?_⟩
            show f_X7_leastUnlike_l4_4 (51 + 2 * r) (f + 1) (leS (uS r n G) j).1 (iN j) H = f_X7_leastUnlike_l4_4 (51 + 2 * r) f (leS (uS r n G) (j + 1)).1 (iN (j + 1)) (sI A 48 j (uQ r n G j))
            rw [hLc]
            conv => lhs; unfold f_X7_leastUnlike_l4_4
            by_cases cl : iN 0 ≤ (leS (uS r n G) j).1
            · simp (disch := omega) only [chk_t, beq_self_eq_true, nm_s, bj1_s, bj2_s, bj3_s, mo_1, mo_0, l_0, l_1, l_2, l_3, l_4, l_5, l_6, l_7, l_8, l_9, l_10, l_11, l_12, l_13, l_14, l_15, l_16, l_17, l_18, l_19, l_20, l_21, l_30, l_31, l_32, l_36, l_40, l_41, l_42, l_43, l_44, l_45, l_46, l_47, l_48, l_49, l_50, l_51, l_52, l_57, l_58, l_60, l_64, l_72, l_80, l_92, l_98, l_99, l_100, l_102, l_105, l_111, l_112, l_114, l_115, l_116, l_117, l_120, l_144, l_200, l_201, l_240, l_300, l_320, l_400, l_500, l_550, l_560, l_649, l_650, l_1000, l_1400, l_2000, l_4000, l_10000, iN_add, iN_sub, iN_mul, iN_le_t, iN_le_f, iN_lt_t, iN_lt_f, iN_eq_f, inb_iN, ix_iN, isZ_0, isZ_1, ↓reduceIte, eq_self, ediv, s5, p5, kd_b k5, kd_b k2, e0, r1, r2, e1, t1, t2, e2, rz, sn1, hs3, hA, hU, if_pos cl, sI_eq]
            · simp (disch := omega) only [chk_t, beq_self_eq_true, nm_s, bj1_s, bj2_s, bj3_s, mo_1, mo_0, l_0, l_1, l_2, l_3, l_4, l_5, l_6, l_7, l_8, l_9, l_10, l_11, l_12, l_13, l_14, l_15, l_16, l_17, l_18, l_19, l_20, l_21, l_30, l_31, l_32, l_36, l_40, l_41, l_42, l_43, l_44, l_45, l_46, l_47, l_48, l_49, l_50, l_51, l_52, l_57, l_58, l_60, l_64, l_72, l_80, l_92, l_98, l_99, l_100, l_102, l_105, l_111, l_112, l_114, l_115, l_116, l_117, l_120, l_144, l_200, l_201, l_240, l_300, l_320, l_400, l_500, l_550, l_560, l_649, l_650, l_1000, l_1400, l_2000, l_4000, l_10000, iN_add, iN_sub, iN_mul, iN_le_t, iN_le_f, iN_lt_t, iN_lt_f, iN_eq_f, inb_iN, ix_iN, isZ_0, isZ_1, ↓reduceIte, eq_self, ediv, s5, p5, kd_b k5, kd_b k2, e0, r1, r2, e1, t1, t2, e2, rz, sn1, hs3, hA, hU, if_neg cl, sI_eq]
          · have nz : (iN n = iN z) = False := iN_eq_f cn (by have := hsl.1.2; omega) (by omega)
            refine none_ (by unfold uS; rw [if_neg u1, if_neg u2', sn, if_neg (of_eq_false nz)]) ?_
            conv => lhs; unfold f_X7_leastUnlike_l4_4
            simp (disch := omega) only [chk_t, beq_self_eq_true, nm_s, bj1_s, bj2_s, bj3_s, mo_1, mo_0, l_0, l_1, l_2, l_3, l_4, l_5, l_6, l_7, l_8, l_9, l_10, l_11, l_12, l_13, l_14, l_15, l_16, l_17, l_18, l_19, l_20, l_21, l_30, l_31, l_32, l_36, l_40, l_41, l_42, l_43, l_44, l_45, l_46, l_47, l_48, l_49, l_50, l_51, l_52, l_57, l_58, l_60, l_64, l_72, l_80, l_92, l_98, l_99, l_100, l_102, l_105, l_111, l_112, l_114, l_115, l_116, l_117, l_120, l_144, l_200, l_201, l_240, l_300, l_320, l_400, l_500, l_550, l_560, l_649, l_650, l_1000, l_1400, l_2000, l_4000, l_10000, iN_add, iN_sub, iN_mul, iN_le_t, iN_le_f, iN_lt_t, iN_lt_f, iN_eq_f, inb_iN, ix_iN, isZ_0, isZ_1, ↓reduceIte, eq_self, ediv, s5, p5, kd_b k5, kd_b k2, e0, r1, r2, e1, t1, t2, e2, rz, sn1, nz]
    · intro f ⟨v, H⟩ hI
      refine ⟨(v, H), ?_, hI⟩
      show f_X7_leastUnlike_l4_4 (51 + 2 * r) (f + 1) v (iN 16) H = _
      unfold f_X7_leastUnlike_l4_4
      simp (disch := omega) only [chk_t, beq_self_eq_true, nm_s, bj1_s, bj2_s, bj3_s, mo_1, mo_0, l_0, l_1, l_2, l_3, l_4, l_5, l_6, l_7, l_8, l_9, l_10, l_11, l_12, l_13, l_14, l_15, l_16, l_17, l_18, l_19, l_20, l_21, l_30, l_31, l_32, l_36, l_40, l_41, l_42, l_43, l_44, l_45, l_46, l_47, l_48, l_49, l_50, l_51, l_52, l_57, l_58, l_60, l_64, l_72, l_80, l_92, l_98, l_99, l_100, l_102, l_105, l_111, l_112, l_114, l_115, l_116, l_117, l_120, l_144, l_200, l_201, l_240, l_300, l_320, l_400, l_500, l_550, l_560, l_649, l_650, l_1000, l_1400, l_2000, l_4000, l_10000, iN_add, iN_sub, iN_mul, iN_le_t, iN_le_f, iN_lt_t, iN_lt_f, iN_eq_f, inb_iN, ix_iN, isZ_0, isZ_1, ↓reduceIte, eq_self]
  obtain ⟨⟨v, H⟩, hH, g1, g2, g3⟩ := hL
  have g1 : v = _ := g1
  subst g1
  refine ⟨H, ?_, g2, g3⟩
  unfold f_X7_leastUnlike
  simp (disch := omega) only [chk_t, beq_self_eq_true, nm_s, bj1_s, bj2_s, bj3_s, mo_1, mo_0, l_0, l_1, l_2, l_3, l_4, l_5, l_6, l_7, l_8, l_9, l_10, l_11, l_12, l_13, l_14, l_15, l_16, l_17, l_18, l_19, l_20, l_21, l_30, l_31, l_32, l_36, l_40, l_41, l_42, l_43, l_44, l_45, l_46, l_47, l_48, l_49, l_50, l_51, l_52, l_57, l_58, l_60, l_64, l_72, l_80, l_92, l_98, l_99, l_100, l_102, l_105, l_111, l_112, l_114, l_115, l_116, l_117, l_120, l_144, l_200, l_201, l_240, l_300, l_320, l_400, l_500, l_550, l_560, l_649, l_650, l_1000, l_1400, l_2000, l_4000, l_10000, iN_add, iN_sub, iN_mul, iN_le_t, iN_le_f, iN_lt_t, iN_lt_f, iN_eq_f, inb_iN, ix_iN, isZ_0, isZ_1, ↓reduceIte, eq_self, kd_b ho, hH]
/-- a slice that is none -/
def alS (g : Nat → Int32) : Nat → Int32
  | 0 => iN 1
  | n + 1 => if alS g n = iN 0 then iN 0 else inS (iN 0) (iN 2) (g n)
theorem alS_0 {g : Nat → Int32} {a : Nat} (b : Nat) (h : alS g a = iN 0) (hb : a ≤ b) : alS g b = iN 0 := by
  induction b with
  | zero =>
    have : a = 0 := by omega
    subst this
    exact h
  | succ b ih =>
    by_cases c : a = b + 1
    · subst c
      exact h
    · unfold alS
      rw [if_pos (ih (by omega))]
theorem alS_01 (g : Nat → Int32) (n : Nat) : alS g n = iN 0 ∨ alS g n = iN 1 := by
  cases n with
  | zero => exact Or.inr rfl
  | succ n =>
    unfold alS
    split
    · exact Or.inl rfl
    · exact inS_01 _ _ _
theorem cwrong_ok {o z : Nat} {G : G_} {g : Nat → Int32} (ho : kd o = 4) (hz : z ≤ 40) (ez : G.1 o 1 = iN z) (hg : ∀ i, i < z → G.1 (o + 1) i = g i) : f_X7_wrongSlice o G = some (if inS (iN 3) (iN 20) (iN z) = iN 0 then iN 5 else if alS g z = iN 0 then iN 3 else iN 0) := by
  have th := rthere_t ho ez hz
  have key : f_X7_wrongSlice_l26_6 o G FU (iN 0) = some (if alS g z = iN 0 then iN 3 else iN 0) := by
    refine loop_iv (fun f v (_ : Unit) => f_X7_wrongSlice_l26_6 o G f v) (fun j _ => alS g j = iN 1) (fun r => r = some (if alS g z = iN 0 then iN 3 else iN 0)) 0 z ?_ ?_ (by omega) (n := FU) (fu_lt (by omega)) (s := ()) rfl
    · intro f j _ h1 h2 hI
      have v := value_t ho ez hz h2
      rw [hg j h2] at v
      have hs : alS g (j + 1) = inS (iN 0) (iN 2) (g j) := by
        conv => lhs; unfold alS
        rw [if_neg (by rw [hI]; decide)]
      rcases inS_01 (iN 0) (iN 2) (g j) with e | e
      · right
        rw [e] at hs
        rw [if_pos (alS_0 z hs (by omega))]
        show f_X7_wrongSlice_l26_6 o G (f + 1) (iN j) = some (iN 3)
        unfold f_X7_wrongSlice_l26_6
        simp (disch := omega) only [chk_t, beq_self_eq_true, nm_s, bj1_s, bj2_s, bj3_s, mo_1, mo_0, l_0, l_1, l_2, l_3, l_4, l_5, l_6, l_7, l_8, l_9, l_10, l_11, l_12, l_13, l_14, l_15, l_16, l_17, l_18, l_19, l_20, l_21, l_30, l_31, l_32, l_36, l_40, l_41, l_42, l_43, l_44, l_45, l_46, l_47, l_48, l_49, l_50, l_51, l_52, l_57, l_58, l_60, l_64, l_72, l_80, l_92, l_98, l_99, l_100, l_102, l_105, l_111, l_112, l_114, l_115, l_116, l_117, l_120, l_144, l_200, l_201, l_240, l_300, l_320, l_400, l_500, l_550, l_560, l_649, l_650, l_1000, l_1400, l_2000, l_4000, l_10000, iN_add, iN_sub, iN_mul, iN_le_t, iN_le_f, iN_lt_t, iN_lt_f, iN_eq_f, inb_iN, ix_iN, isZ_0, isZ_1, ↓reduceIte, eq_self, ez, v, in7, e]
      · left
        refine ⟨(), hs.trans e, ?_⟩
        show f_X7_wrongSlice_l26_6 o G (f + 1) (iN j) = f_X7_wrongSlice_l26_6 o G f (iN (j + 1))
        conv => lhs; unfold f_X7_wrongSlice_l26_6
        simp (disch := omega) only [chk_t, beq_self_eq_true, nm_s, bj1_s, bj2_s, bj3_s, mo_1, mo_0, l_0, l_1, l_2, l_3, l_4, l_5, l_6, l_7, l_8, l_9, l_10, l_11, l_12, l_13, l_14, l_15, l_16, l_17, l_18, l_19, l_20, l_21, l_30, l_31, l_32, l_36, l_40, l_41, l_42, l_43, l_44, l_45, l_46, l_47, l_48, l_49, l_50, l_51, l_52, l_57, l_58, l_60, l_64, l_72, l_80, l_92, l_98, l_99, l_100, l_102, l_105, l_111, l_112, l_114, l_115, l_116, l_117, l_120, l_144, l_200, l_201, l_240, l_300, l_320, l_400, l_500, l_550, l_560, l_649, l_650, l_1000, l_1400, l_2000, l_4000, l_10000, iN_add, iN_sub, iN_mul, iN_le_t, iN_le_f, iN_lt_t, iN_lt_f, iN_eq_f, inb_iN, ix_iN, isZ_0, isZ_1, ↓reduceIte, eq_self, ez, v, in7, e]
    · intro f _ hI
      rw [hI, if_neg (by decide)]
      show f_X7_wrongSlice_l26_6 o G (f + 1) (iN z) = some (iN 0)
      unfold f_X7_wrongSlice_l26_6
      simp (disch := omega) only [chk_t, beq_self_eq_true, nm_s, bj1_s, bj2_s, bj3_s, mo_1, mo_0, l_0, l_1, l_2, l_3, l_4, l_5, l_6, l_7, l_8, l_9, l_10, l_11, l_12, l_13, l_14, l_15, l_16, l_17, l_18, l_19, l_20, l_21, l_30, l_31, l_32, l_36, l_40, l_41, l_42, l_43, l_44, l_45, l_46, l_47, l_48, l_49, l_50, l_51, l_52, l_57, l_58, l_60, l_64, l_72, l_80, l_92, l_98, l_99, l_100, l_102, l_105, l_111, l_112, l_114, l_115, l_116, l_117, l_120, l_144, l_200, l_201, l_240, l_300, l_320, l_400, l_500, l_550, l_560, l_649, l_650, l_1000, l_1400, l_2000, l_4000, l_10000, iN_add, iN_sub, iN_mul, iN_le_t, iN_le_f, iN_lt_t, iN_lt_f, iN_eq_f, inb_iN, ix_iN, isZ_0, isZ_1, ↓reduceIte, eq_self, ez]
  unfold f_X7_wrongSlice
  rcases inS_01 (iN 3) (iN 20) (iN z) with e | e
  · simp (disch := omega) only [chk_t, beq_self_eq_true, nm_s, bj1_s, bj2_s, bj3_s, mo_1, mo_0, l_0, l_1, l_2, l_3, l_4, l_5, l_6, l_7, l_8, l_9, l_10, l_11, l_12, l_13, l_14, l_15, l_16, l_17, l_18, l_19, l_20, l_21, l_30, l_31, l_32, l_36, l_40, l_41, l_42, l_43, l_44, l_45, l_46, l_47, l_48, l_49, l_50, l_51, l_52, l_57, l_58, l_60, l_64, l_72, l_80, l_92, l_98, l_99, l_100, l_102, l_105, l_111, l_112, l_114, l_115, l_116, l_117, l_120, l_144, l_200, l_201, l_240, l_300, l_320, l_400, l_500, l_550, l_560, l_649, l_650, l_1000, l_1400, l_2000, l_4000, l_10000, iN_add, iN_sub, iN_mul, iN_le_t, iN_le_f, iN_lt_t, iN_lt_f, iN_eq_f, inb_iN, ix_iN, isZ_0, isZ_1, ↓reduceIte, eq_self, kd_b ho, th, ez, in7, e]
  · simp (disch := omega) only [chk_t, beq_self_eq_true, nm_s, bj1_s, bj2_s, bj3_s, mo_1, mo_0, l_0, l_1, l_2, l_3, l_4, l_5, l_6, l_7, l_8, l_9, l_10, l_11, l_12, l_13, l_14, l_15, l_16, l_17, l_18, l_19, l_20, l_21, l_30, l_31, l_32, l_36, l_40, l_41, l_42, l_43, l_44, l_45, l_46, l_47, l_48, l_49, l_50, l_51, l_52, l_57, l_58, l_60, l_64, l_72, l_80, l_92, l_98, l_99, l_100, l_102, l_105, l_111, l_112, l_114, l_115, l_116, l_117, l_120, l_144, l_200, l_201, l_240, l_300, l_320, l_400, l_500, l_550, l_560, l_649, l_650, l_1000, l_1400, l_2000, l_4000, l_10000, iN_add, iN_sub, iN_mul, iN_le_t, iN_le_f, iN_lt_t, iN_lt_f, iN_eq_f, inb_iN, ix_iN, isZ_0, isZ_1, ↓reduceIte, eq_self, kd_b ho, th, ez, in7, e, key]
theorem mall_ok {r z : Nat} {G : G_} {g : Nat → Int32} (hr : r < 6) (hz : z ≤ 40) (ez : G.1 126 r = iN z) (hg : ∀ i, i < z → G.1 127 (40 * r + i) = g i) : f_X8_needPairs_l40_7 (iN r) G FU (iN 1) (iN 0) = some (alS g z) := by
  have key := loop_cl (fun f v s => f_X8_needPairs_l40_7 (iN r) G f s v) (fun j => alS g j) 0 z (some (alS g z)) (by
    intro f j h1 h2
    have e := hg j h2
    show f_X8_needPairs_l40_7 (iN r) G (f + 1) (alS g j) (iN j) = f_X8_needPairs_l40_7 (iN r) G f (if alS g j = iN 0 then iN 0 else inS (iN 0) (iN 2) (g j)) (iN (j + 1))
    conv => lhs; unfold f_X8_needPairs_l40_7 f_X8_rowAt
    by_cases c : alS g j = iN 0
    · simp (disch := omega) only [chk_t, beq_self_eq_true, nm_s, bj1_s, bj2_s, bj3_s, mo_1, mo_0, l_0, l_1, l_2, l_3, l_4, l_5, l_6, l_7, l_8, l_9, l_10, l_11, l_12, l_13, l_14, l_15, l_16, l_17, l_18, l_19, l_20, l_21, l_30, l_31, l_32, l_36, l_40, l_41, l_42, l_43, l_44, l_45, l_46, l_47, l_48, l_49, l_50, l_51, l_52, l_57, l_58, l_60, l_64, l_72, l_80, l_92, l_98, l_99, l_100, l_102, l_105, l_111, l_112, l_114, l_115, l_116, l_117, l_120, l_144, l_200, l_201, l_240, l_300, l_320, l_400, l_500, l_550, l_560, l_649, l_650, l_1000, l_1400, l_2000, l_4000, l_10000, iN_add, iN_sub, iN_mul, iN_le_t, iN_le_f, iN_lt_t, iN_lt_f, iN_eq_f, inb_iN, ix_iN, isZ_0, isZ_1, ↓reduceIte, eq_self, ez, if_pos c]
    · rcases inS_01 (iN 0) (iN 2) (g j) with d | d
      · simp (disch := omega) only [chk_t, beq_self_eq_true, nm_s, bj1_s, bj2_s, bj3_s, mo_1, mo_0, l_0, l_1, l_2, l_3, l_4, l_5, l_6, l_7, l_8, l_9, l_10, l_11, l_12, l_13, l_14, l_15, l_16, l_17, l_18, l_19, l_20, l_21, l_30, l_31, l_32, l_36, l_40, l_41, l_42, l_43, l_44, l_45, l_46, l_47, l_48, l_49, l_50, l_51, l_52, l_57, l_58, l_60, l_64, l_72, l_80, l_92, l_98, l_99, l_100, l_102, l_105, l_111, l_112, l_114, l_115, l_116, l_117, l_120, l_144, l_200, l_201, l_240, l_300, l_320, l_400, l_500, l_550, l_560, l_649, l_650, l_1000, l_1400, l_2000, l_4000, l_10000, iN_add, iN_sub, iN_mul, iN_le_t, iN_le_f, iN_lt_t, iN_lt_f, iN_eq_f, inb_iN, ix_iN, isZ_0, isZ_1, ↓reduceIte, eq_self, ez, if_neg c, e, in8, d]
      · simp (disch := omega) only [chk_t, beq_self_eq_true, nm_s, bj1_s, bj2_s, bj3_s, mo_1, mo_0, l_0, l_1, l_2, l_3, l_4, l_5, l_6, l_7, l_8, l_9, l_10, l_11, l_12, l_13, l_14, l_15, l_16, l_17, l_18, l_19, l_20, l_21, l_30, l_31, l_32, l_36, l_40, l_41, l_42, l_43, l_44, l_45, l_46, l_47, l_48, l_49, l_50, l_51, l_52, l_57, l_58, l_60, l_64, l_72, l_80, l_92, l_98, l_99, l_100, l_102, l_105, l_111, l_112, l_114, l_115, l_116, l_117, l_120, l_144, l_200, l_201, l_240, l_300, l_320, l_400, l_500, l_550, l_560, l_649, l_650, l_1000, l_1400, l_2000, l_4000, l_10000, iN_add, iN_sub, iN_mul, iN_le_t, iN_le_f, iN_lt_t, iN_lt_f, iN_eq_f, inb_iN, ix_iN, isZ_0, isZ_1, ↓reduceIte, eq_self, ez, if_neg c, e, in8, d]) (by
    intro f
    show f_X8_needPairs_l40_7 (iN r) G (f + 1) (alS g z) (iN z) = _
    unfold f_X8_needPairs_l40_7
    simp (disch := omega) only [chk_t, beq_self_eq_true, nm_s, bj1_s, bj2_s, bj3_s, mo_1, mo_0, l_0, l_1, l_2, l_3, l_4, l_5, l_6, l_7, l_8, l_9, l_10, l_11, l_12, l_13, l_14, l_15, l_16, l_17, l_18, l_19, l_20, l_21, l_30, l_31, l_32, l_36, l_40, l_41, l_42, l_43, l_44, l_45, l_46, l_47, l_48, l_49, l_50, l_51, l_52, l_57, l_58, l_60, l_64, l_72, l_80, l_92, l_98, l_99, l_100, l_102, l_105, l_111, l_112, l_114, l_115, l_116, l_117, l_120, l_144, l_200, l_201, l_240, l_300, l_320, l_400, l_500, l_550, l_560, l_649, l_650, l_1000, l_1400, l_2000, l_4000, l_10000, iN_add, iN_sub, iN_mul, iN_le_t, iN_le_f, iN_lt_t, iN_lt_f, iN_eq_f, inb_iN, ix_iN, isZ_0, isZ_1, ↓reduceIte, eq_self, ez]) (by omega) (n := FU) (fu_lt (by omega))
  exact key
/-- the reference: all sixteen -/
theorem munl_ok {r z j : Nat} {B : G_} {D W : Nat → Int32} {g : Nat → Int32} (hr : r < 6) (hz : z ≤ 20) (hj : j < 16) (hb : bM 4 B) (ez : B.1 126 r = iN z) (hg : ∀ i, i < z → B.1 127 (40 * r + i) = g i) : f_X8_needPairs_l174_36 (iN r) (iN j) FU (iN 0) (stM 4 D W (sI B 144 j (iN 0))) = some (stM 4 D W (sI B 144 j (sumS (fun i => if colS D i = g i then iN 0 else iN 1) z))) := by
  have key := loop_cl (fun f v s => f_X8_needPairs_l174_36 (iN r) (iN j) f v s) (fun k => stM 4 D W (sI B 144 j (sumS (fun i => if colS D i = g i then iN 0 else iN 1) k))) 0 z (some (stM 4 D W (sI B 144 j (sumS (fun i => if colS D i = g i then iN 0 else iN 1) z)))) (by
    intro f k h1 h2
    have e := hg k h2
    have hb' : bM 4 (sI B 144 j (sumS (fun i => if colS D i = g i then iN 0 else iN 1) k)) := ⟨hb.1, by rw [sI_p (by omega)]; exact hb.2⟩
    have mc := mcol_ok (D := D) (W := W) hb' (i := k) (by omega)
    have ev : ∀ x : Int32, (if x = iN 0 then some x else some x) = some x := fun x => by split <;> rfl
    show f_X8_needPairs_l174_36 (iN r) (iN j) (f + 1) (iN k) _ = f_X8_needPairs_l174_36 (iN r) (iN j) f (iN (k + 1)) (stM 4 D W (sI B 144 j (sumS (fun i => if colS D i = g i then iN 0 else iN 1) k + if colS D k = g k then iN 0 else iN 1)))
    conv => lhs; unfold f_X8_needPairs_l174_36 f_X8_rowAt
    by_cases c : colS D k = g k
    · simp (disch := omega) only [chk_t, beq_self_eq_true, nm_s, bj1_s, bj2_s, bj3_s, mo_1, mo_0, l_0, l_1, l_2, l_3, l_4, l_5, l_6, l_7, l_8, l_9, l_10, l_11, l_12, l_13, l_14, l_15, l_16, l_17, l_18, l_19, l_20, l_21, l_30, l_31, l_32, l_36, l_40, l_41, l_42, l_43, l_44, l_45, l_46, l_47, l_48, l_49, l_50, l_51, l_52, l_57, l_58, l_60, l_64, l_72, l_80, l_92, l_98, l_99, l_100, l_102, l_105, l_111, l_112, l_114, l_115, l_116, l_117, l_120, l_144, l_200, l_201, l_240, l_300, l_320, l_400, l_500, l_550, l_560, l_649, l_650, l_1000, l_1400, l_2000, l_4000, l_10000, iN_add, iN_sub, iN_mul, iN_le_t, iN_le_f, iN_lt_t, iN_lt_f, iN_eq_f, inb_iN, ix_iN, isZ_0, isZ_1, ↓reduceIte, eq_self, stM_o1, sI_p, ez, e, mc, if_pos c, sI_eq, st_sI, sI_sI]
    · simp (disch := omega) only [chk_t, beq_self_eq_true, nm_s, bj1_s, bj2_s, bj3_s, mo_1, mo_0, l_0, l_1, l_2, l_3, l_4, l_5, l_6, l_7, l_8, l_9, l_10, l_11, l_12, l_13, l_14, l_15, l_16, l_17, l_18, l_19, l_20, l_21, l_30, l_31, l_32, l_36, l_40, l_41, l_42, l_43, l_44, l_45, l_46, l_47, l_48, l_49, l_50, l_51, l_52, l_57, l_58, l_60, l_64, l_72, l_80, l_92, l_98, l_99, l_100, l_102, l_105, l_111, l_112, l_114, l_115, l_116, l_117, l_120, l_144, l_200, l_201, l_240, l_300, l_320, l_400, l_500, l_550, l_560, l_649, l_650, l_1000, l_1400, l_2000, l_4000, l_10000, iN_add, iN_sub, iN_mul, iN_le_t, iN_le_f, iN_lt_t, iN_lt_f, iN_eq_f, inb_iN, ix_iN, isZ_0, isZ_1, ↓reduceIte, eq_self, stM_o1, sI_p, ez, e, mc, if_neg c, sI_eq, st_sI, sI_sI]) (by
    intro f
    show f_X8_needPairs_l174_36 (iN r) (iN j) (f + 1) (iN z) _ = _
    unfold f_X8_needPairs_l174_36
    simp (disch := omega) only [chk_t, beq_self_eq_true, nm_s, bj1_s, bj2_s, bj3_s, mo_1, mo_0, l_0, l_1, l_2, l_3, l_4, l_5, l_6, l_7, l_8, l_9, l_10, l_11, l_12, l_13, l_14, l_15, l_16, l_17, l_18, l_19, l_20, l_21, l_30, l_31, l_32, l_36, l_40, l_41, l_42, l_43, l_44, l_45, l_46, l_47, l_48, l_49, l_50, l_51, l_52, l_57, l_58, l_60, l_64, l_72, l_80, l_92, l_98, l_99, l_100, l_102, l_105, l_111, l_112, l_114, l_115, l_116, l_117, l_120, l_144, l_200, l_201, l_240, l_300, l_320, l_400, l_500, l_550, l_560, l_649, l_650, l_1000, l_1400, l_2000, l_4000, l_10000, iN_add, iN_sub, iN_mul, iN_le_t, iN_le_f, iN_lt_t, iN_lt_f, iN_eq_f, inb_iN, ix_iN, isZ_0, isZ_1, ↓reduceIte, eq_self, stM_o1, sI_p, ez]) (by omega) (n := FU) (fu_lt (by omega))
  exact key
theorem mpairs_ok {r z : Nat} {G M : G_} (h : RR0 G) (hM : ∀ q, 51 ≤ q → M.1 q = G.1 q) (hr : r < 6) (hz : z ≤ 20) (ez : G.1 126 r = iN z) : ∃ H, f_X8_needPairs_l92_18 (iN r) FU (iN 0) M = some H ∧ mf M H ∧ ∀ i, i < 16 → H.1 144 i = uS r z G i := by
  have key : ∃ H, f_X8_needPairs_l92_18 (iN r) FU (iN 0) M = some H ∧ mf M H ∧ (∀ p, 112 ≤ p → DM 4 H p = DM 4 M p) ∧ ∀ i, i < 16 → H.1 144 i = uS r z G i := by
    refine loop_h (fun f v s => f_X8_needPairs_l92_18 (iN r) f v s) (fun j H => mf M H ∧ (∀ p, 112 ≤ p → DM 4 H p = DM 4 M p) ∧ ∀ i, i < j → H.1 144 i = uS r z G i) _ 0 16 ?_ ?_ (by omega) (n := FU) (fu_lt (by omega)) ⟨mf_refl, fun _ _ => rfl, fun i hi => by omega⟩
    · intro f j H h3 h4 ⟨i0, i1, i2⟩
      have hk : j / 4 < 4 := by omega
      have hp : j - j / 4 * 4 < 4 := by omega
      have ediv : iN j / iN 4 = iN (j / 4) := iN_div (by omega) (by omega) (by omega)
      obtain ⟨r1, r2, r3⟩ := h.2.2.1 _ hk
      obtain ⟨t1, t2, t3⟩ := h.2.2.2.1 _ hp
      have eR : ∀ q, (125 ≤ q ∧ q ≤ 135 ∧ q ≠ 128) → H.1 q = G.1 q := fun q hq => (i0.1 q (Or.inr (by unfold relq; omega))).trans (hM q (by omega))
      have hu : ∀ B : G_, (∀ i, i ≠ j → B.1 144 i = H.1 144 i) → B.1 144 j = uS r z G j → ∀ i, i < j + 1 → B.1 144 i = uS r z G i := fun B hB hB2 i hi => by
        by_cases d : i = j
        · subst d
          exact hB2
        · rw [hB i d]
          exact i2 i (by omega)
      have none_ : uS r z G j = -iN 1 → f_X8_needPairs_l92_18 (iN r) (f + 1) (iN j) H = f_X8_needPairs_l92_18 (iN r) f (iN (j + 1)) (sI H 144 j (-iN 1)) → ∃ s' : G_, (mf M s' ∧ (∀ p, 112 ≤ p → DM 4 s' p = DM 4 M p) ∧ ∀ i, i < j + 1 → s'.1 144 i = uS r z G i) ∧ f_X8_needPairs_l92_18 (iN r) (f + 1) (iN j) H = f_X8_needPairs_l92_18 (iN r) f (iN (j + 1)) s' := fun hu1 hs => ⟨sI H 144 j (-iN 1), ⟨mf_sI i0 (by omega), fun p hp => by rw [DM_of (G := H) (by rw [sI_p (by omega)])]; exact i1 p hp, hu _ (fun i hi => sI_j hi) (by rw [sI_eq, hu1])⟩, hs⟩
      have e131 : (sI H 144 j (-iN 1)).1 131 = G.1 131 := by rw [sI_p (by omega)]; exact eR _ (by omega)
      have e133 : (sI H 144 j (-iN 1)).1 133 = G.1 133 := by rw [sI_p (by omega)]; exact eR _ (by omega)
      have e132 : (sI H 144 j (-iN 1)).1 132 = G.1 132 := by rw [sI_p (by omega)]; exact eR _ (by omega)
      have e126 : (sI H 144 j (-iN 1)).1 126 = G.1 126 := by rw [sI_p (by omega)]; exact eR _ (by omega)
      have m44 : j / 4 * 4 = 4 * (j / 4) := by omega
      rcases r2 with r2 | ⟨r2, n, hsl⟩
      · refine none_ (by unfold uS; rw [if_pos r2]) ?_
        conv => lhs; unfold f_X8_needPairs_l92_18
        simp (disch := omega) only [chk_t, beq_self_eq_true, nm_s, bj1_s, bj2_s, bj3_s, mo_1, mo_0, l_0, l_1, l_2, l_3, l_4, l_5, l_6, l_7, l_8, l_9, l_10, l_11, l_12, l_13, l_14, l_15, l_16, l_17, l_18, l_19, l_20, l_21, l_30, l_31, l_32, l_36, l_40, l_41, l_42, l_43, l_44, l_45, l_46, l_47, l_48, l_49, l_50, l_51, l_52, l_57, l_58, l_60, l_64, l_72, l_80, l_92, l_98, l_99, l_100, l_102, l_105, l_111, l_112, l_114, l_115, l_116, l_117, l_120, l_144, l_200, l_201, l_240, l_300, l_320, l_400, l_500, l_550, l_560, l_649, l_650, l_1000, l_1400, l_2000, l_4000, l_10000, iN_add, iN_sub, iN_mul, iN_le_t, iN_le_f, iN_lt_t, iN_lt_f, iN_eq_f, inb_iN, ix_iN, isZ_0, isZ_1, ↓reduceIte, eq_self, ediv, e131, r2]
      · have u1 : ¬ G.1 131 (j / 4) = iN 0 := by rw [r2]; decide
        rcases t2 with t2 | ⟨t2, mm, hpl⟩
        · refine none_ (by unfold uS; rw [if_neg u1, if_pos t2]) ?_
          conv => lhs; unfold f_X8_needPairs_l92_18
          simp (disch := omega) only [chk_t, beq_self_eq_true, nm_s, bj1_s, bj2_s, bj3_s, mo_1, mo_0, l_0, l_1, l_2, l_3, l_4, l_5, l_6, l_7, l_8, l_9, l_10, l_11, l_12, l_13, l_14, l_15, l_16, l_17, l_18, l_19, l_20, l_21, l_30, l_31, l_32, l_36, l_40, l_41, l_42, l_43, l_44, l_45, l_46, l_47, l_48, l_49, l_50, l_51, l_52, l_57, l_58, l_60, l_64, l_72, l_80, l_92, l_98, l_99, l_100, l_102, l_105, l_111, l_112, l_114, l_115, l_116, l_117, l_120, l_144, l_200, l_201, l_240, l_300, l_320, l_400, l_500, l_550, l_560, l_649, l_650, l_1000, l_1400, l_2000, l_4000, l_10000, iN_add, iN_sub, iN_mul, iN_le_t, iN_le_f, iN_lt_t, iN_lt_f, iN_eq_f, inb_iN, ix_iN, isZ_0, isZ_1, ↓reduceIte, eq_self, ediv, e131, r2, e133, t2]
        · have u2' : ¬ G.1 133 (j - j / 4 * 4) = iN 0 := by rw [t2]; decide
          have sn : G.1 132 (4 * (j / 4)) = iN n := hsl.1.1
          have sn' : G.1 132 (j / 4 * 4) = iN n := by rw [m44]; exact sn
          by_cases cn : n = z
          · subst cn
            have hu1 : uS r n G j = uQ r n G j := by unfold uS; rw [if_neg u1, if_neg u2', if_pos sn]
            generalize hK : sI H 144 j (-iN 1) = K at *
            have dK : ∀ p, 112 ≤ p → DM 4 K p = DM 4 M p := fun p hp => by rw [← hK, DM_of (G := H) (by rw [sI_p (by omega)])]; exact i1 p hp
            have mK : mf M K := by rw [← hK]; exact mf_sI i0 (by omega)
            have hN := layNew_ok (k := j / 4) (G := K) hk
            have hbM := bM_LG (m := 4) (G := K) (by omega)
            have hLP := layPlan_ok (k := j - j / 4 * 4) (D := lsS (SL (j / 4) K) (DM 4 K)) (W := WM K) hbM hp
            have eK : ∀ q, (125 ≤ q ∧ q ≤ 135 ∧ q ≠ 128) → K.1 q = G.1 q := fun q hq => by rw [← hK, sI_p (by omega)]; exact eR q hq
            rw [PL_fr (G' := LG 4 K) (G := G) (by rw [LG_o (by omega), eK 134 (by omega)]) (by rw [LG_o (by omega), eK 135 (by omega)])] at hLP
            rw [SL_fr (G' := K) (G := G) (eK 132 (by omega))] at hLP hN
            have dM : DM 4 M = DM 4 G := DM_of (hM 139 (by omega))
            have hE : ∀ p, p < 41 ∨ 112 ≤ p → lpS (PL (j - j / 4 * 4) G) (lsS (SL (j / 4) G) (DM 4 K)) p = newP (j / 4) (j - j / 4 * 4) G p := by
              intro p hp
              unfold newP newX
              by_cases c1 : p < 4
              · rw [lp_lo c1, lp_lo c1, ls_lo c1, ls_lo c1]
              · by_cases c2 : p < 41
                · rw [lp_in (by omega) c2, lp_in (by omega) c2]
                · rw [lp_hi (by omega), lp_hi (by omega), ls_hi (by omega), ls_hi (by omega), dK p (by omega), dM]
            have hsE : slR (lpS (PL (j - j / 4 * 4) G) (lsS (SL (j / 4) G) (DM 4 K))) n := sl_X hsl
            have hpE : plR (lpS (PL (j - j / 4 * 4) G) (lsS (SL (j / 4) G) (DM 4 K))) mm := pl_X hpl
            have hX := np_sl (p := j - j / 4 * 4) hsl
            have hP := np_pl (k := j / 4) hpl
            have hXp : ∀ p, 112 ≤ p → newP (j / 4) (j - j / 4 * 4) G p = DM 4 M p := fun p hp => by
              unfold newP newX
              rw [lp_hi (by omega), ls_hi (by omega), dM]
            have hQ : uQ r n G j = sumS (fun i => if colS (mkS (newP (j / 4) (j - j / 4 * 4) G)) i = G.1 127 (40 * r + i) then iN 0 else iN 1) n := rfl
            generalize newP (j / 4) (j - j / 4 * 4) G = X at *
            generalize lpS (PL (j - j / 4 * 4) G) (lsS (SL (j / 4) G) (DM 4 K)) = E at *
            obtain ⟨W1, m1⟩ := mmk_ok (D := E) (W := WM K) hbM hsE hpE
            rw [mk_eq hE (by rw [mD_N hP.1 hP.2.1]; exact hP.2.1)] at m1
            have m2 := munl_ok (r := r) (z := n) (j := j) (B := LG 4 K) (D := mkS X) (W := W1) (g := fun i => G.1 127 (40 * r + i)) hr hz h4 hbM (by rw [LG_o (by omega), eK 126 (by omega)]; exact ez) (fun i hi => by rw [LG_o (by omega), eK 127 (by omega)])
            rw [← hQ] at m2
            refine ⟨stM 4 (mkS X) W1 (sI (LG 4 K) 144 j (uQ r n G j)), ⟨mf_st (mf_sI (mf_tr mK mf_LG) (by omega)), fun p hp => ?_, hu _ (fun i hi => ?_) ?_⟩, ?_⟩
            · rw [DM_st, mk_lo hX hP (Or.inr hp)]
              exact hXp p hp
            · rw [stM_o1 (by omega) (by omega), sI_j hi, LG_o (by omega), ← hK, sI_j hi]
            · rw [stM_o1 (by omega) (by omega), sI_eq, hu1]
            · conv => lhs; unfold f_X8_needPairs_l92_18
              simp (disch := omega) only [chk_t, beq_self_eq_true, nm_s, bj1_s, bj2_s, bj3_s, mo_1, mo_0, l_0, l_1, l_2, l_3, l_4, l_5, l_6, l_7, l_8, l_9, l_10, l_11, l_12, l_13, l_14, l_15, l_16, l_17, l_18, l_19, l_20, l_21, l_30, l_31, l_32, l_36, l_40, l_41, l_42, l_43, l_44, l_45, l_46, l_47, l_48, l_49, l_50, l_51, l_52, l_57, l_58, l_60, l_64, l_72, l_80, l_92, l_98, l_99, l_100, l_102, l_105, l_111, l_112, l_114, l_115, l_116, l_117, l_120, l_144, l_200, l_201, l_240, l_300, l_320, l_400, l_500, l_550, l_560, l_649, l_650, l_1000, l_1400, l_2000, l_4000, l_10000, iN_add, iN_sub, iN_mul, iN_le_t, iN_le_f, iN_lt_t, iN_lt_f, iN_eq_f, inb_iN, ix_iN, isZ_0, isZ_1, ↓reduceIte, eq_self, ediv, hK, e131, r2, e133, t2, e132, sn', e126, ez, hN, hLP, m1, st_sI, m2]
          · have nz : (iN n = iN z) = False := iN_eq_f cn (by have := hsl.1.2; omega) (by omega)
            refine none_ (by unfold uS; rw [if_neg u1, if_neg u2', sn, if_neg (of_eq_false nz)]) ?_
            conv => lhs; unfold f_X8_needPairs_l92_18
            simp (disch := omega) only [chk_t, beq_self_eq_true, nm_s, bj1_s, bj2_s, bj3_s, mo_1, mo_0, l_0, l_1, l_2, l_3, l_4, l_5, l_6, l_7, l_8, l_9, l_10, l_11, l_12, l_13, l_14, l_15, l_16, l_17, l_18, l_19, l_20, l_21, l_30, l_31, l_32, l_36, l_40, l_41, l_42, l_43, l_44, l_45, l_46, l_47, l_48, l_49, l_50, l_51, l_52, l_57, l_58, l_60, l_64, l_72, l_80, l_92, l_98, l_99, l_100, l_102, l_105, l_111, l_112, l_114, l_115, l_116, l_117, l_120, l_144, l_200, l_201, l_240, l_300, l_320, l_400, l_500, l_550, l_560, l_649, l_650, l_1000, l_1400, l_2000, l_4000, l_10000, iN_add, iN_sub, iN_mul, iN_le_t, iN_le_f, iN_lt_t, iN_lt_f, iN_eq_f, inb_iN, ix_iN, isZ_0, isZ_1, ↓reduceIte, eq_self, ediv, e131, r2, e133, t2, e132, sn', e126, ez, nz]
    · intro f H hI
      refine ⟨H, ?_, hI⟩
      show f_X8_needPairs_l92_18 (iN r) (f + 1) (iN 16) H = _
      unfold f_X8_needPairs_l92_18
      simp (disch := omega) only [chk_t, beq_self_eq_true, nm_s, bj1_s, bj2_s, bj3_s, mo_1, mo_0, l_0, l_1, l_2, l_3, l_4, l_5, l_6, l_7, l_8, l_9, l_10, l_11, l_12, l_13, l_14, l_15, l_16, l_17, l_18, l_19, l_20, l_21, l_30, l_31, l_32, l_36, l_40, l_41, l_42, l_43, l_44, l_45, l_46, l_47, l_48, l_49, l_50, l_51, l_52, l_57, l_58, l_60, l_64, l_72, l_80, l_92, l_98, l_99, l_100, l_102, l_105, l_111, l_112, l_114, l_115, l_116, l_117, l_120, l_144, l_200, l_201, l_240, l_300, l_320, l_400, l_500, l_550, l_560, l_649, l_650, l_1000, l_1400, l_2000, l_4000, l_10000, iN_add, iN_sub, iN_mul, iN_le_t, iN_le_f, iN_lt_t, iN_lt_f, iN_eq_f, inb_iN, ix_iN, isZ_0, isZ_1, ↓reduceIte, eq_self]
  obtain ⟨H, h1, h2, -, h3⟩ := key
  exact ⟨H, h1, h2, h3⟩

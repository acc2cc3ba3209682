/-! plans: what comes at once, going by steps; both sides -/
def onc1 (D : Nat → Int32) : Nat → Int32 := up (if D (5 + 3 * ix (D 41)) = iN 5 then up D 44 (iN 1 - D 44) else up (up D 48 (iN 0)) 49 (iN 0)) 41 (D 41 + iN 1)
def onceS : Nat → (Nat → Int32) → Nat → Int32
  | 0, D => D
  | f + 1, D => if D 4 ≤ D 41 then D else if D (5 + 3 * ix (D 41)) ≤ iN 4 then D else onceS f (onc1 D)
def stOK (D : Nat → Int32) (i : Nat) : Prop := ∃ a b c : Nat, D (5 + 3 * i) = iN a ∧ D (5 + 3 * i + 1) = iN b ∧ D (5 + 3 * i + 2) = iN c ∧ 1 ≤ a ∧ a ≤ 6 ∧ b ≤ 30 ∧ c ≤ 60 ∧ (a ≤ 4 → 1 ≤ c)
def plD (D : Nat → Int32) (mm at_ g : Nat) : Prop := D 4 = iN mm ∧ mm ≤ 12 ∧ D 41 = iN at_ ∧ at_ ≤ mm ∧ D 42 = iN g ∧ (∀ i, i < mm → stOK D i) ∧ (g = 0 ∨ (at_ < mm ∧ ∃ a c : Nat, D (5 + 3 * at_) = iN a ∧ a ≤ 4 ∧ D (5 + 3 * at_ + 2) = iN c ∧ g < c ∧ c ≤ 60))
theorem onc1_p {D : Nat → Int32} {p : Nat} (h1 : p ≠ 41) (h2 : p ≠ 44) (h3 : p ≠ 48) (h4 : p ≠ 49) : onc1 D p = D p := by
  unfold onc1
  rw [up_ne h1]
  split
  · rw [up_ne h2]
  · rw [up_ne h4, up_ne h3]
theorem onc1_41 {D : Nat → Int32} : onc1 D 41 = D 41 + iN 1 := up_eq
theorem stOK_keep {D D' : Nat → Int32} {i : Nat} (h : stOK D i) (hi : i < 12) (e : ∀ p, p < 41 → D' p = D p) : stOK D' i := by
  obtain ⟨a, b, c, h1, h2, h3, h4⟩ := h
  exact ⟨a, b, c, by rw [e _ (by omega)]; exact h1, by rw [e _ (by omega)]; exact h2, by rw [e _ (by omega)]; exact h3, h4⟩
theorem plD_onc1 {D : Nat → Int32} {mm at_ g a : Nat} (h : plD D mm at_ g) (hlt : at_ < mm) (ha : D (5 + 3 * at_) = iN a) (h4 : 4 < a) (h6 : a ≤ 6) : plD (onc1 D) mm (at_ + 1) g ∧ g = 0 := by
  obtain ⟨p1, p2, p3, p4, p5, p6, p7⟩ := h
  have g0 : g = 0 := by
    rcases p7 with h | ⟨-, a', c, e1, e2, -⟩
    · exact h
    · rw [ha, iN_inj (by omega) (by omega)] at e1
      omega
  refine ⟨⟨by rw [onc1_p (by omega) (by omega) (by omega) (by omega)]; exact p1, p2, by rw [onc1_41, p3, iN_add], by omega, by rw [onc1_p (by omega) (by omega) (by omega) (by omega)]; exact p5, fun i hi => stOK_keep (p6 i hi) (by omega) (fun p hp => onc1_p (by omega) (by omega) (by omega) (by omega)), Or.inl g0⟩, g0⟩
theorem wf_onc1 {D : Nat → Int32} {n : Nat} (h : wfD D n) : wfD (onc1 D) n := by
  unfold onc1
  refine wf_up ?_ (by omega) (by omega) (by omega)
  split
  · exact wf_up h (by omega) (by omega) (by omega)
  · exact wf_up (wf_up h (by omega) (by omega) (by omega)) (by omega) (by omega) (by omega)
theorem once_p {f : Nat} {D : Nat → Int32} {p : Nat} (h1 : p ≠ 41) (h2 : p ≠ 44) (h3 : p ≠ 48) (h4 : p ≠ 49) : onceS f D p = D p := by
  induction f generalizing D with
  | zero => rfl
  | succ f ih =>
    unfold onceS
    split
    · rfl
    · split
      · rfl
      · rw [ih, onc1_p h1 h2 h3 h4]
theorem wf_once {f n : Nat} {D : Nat → Int32} (h : wfD D n) : wfD (onceS f D) n := by
  induction f generalizing D with
  | zero => exact h
  | succ f ih =>
    unfold onceS
    split
    · exact h
    · split
      · exact h
      · exact ih (wf_onc1 h)
/-- a place of the steps: at its end, a step that goes on, or one that is done at once -/
theorem pl_cases {D : Nat → Int32} {mm at_ g : Nat} (h : plD D mm at_ g) : (at_ = mm ∧ (D 4 ≤ D 41) = True) ∨ (at_ < mm ∧ (D 4 ≤ D 41) = False ∧ ∃ a : Nat, D (5 + 3 * ix (D 41)) = iN a ∧ D (5 + 3 * at_) = iN a ∧ 1 ≤ a ∧ a ≤ 6) := by
  obtain ⟨p1, p2, p3, p4, p5, p6, p7⟩ := h
  by_cases c : at_ = mm
  · left
    refine ⟨c, ?_⟩
    rw [p1, p3, iN_le_t (by omega) (by omega)]
  · right
    obtain ⟨a, b, c', h1, h2, h3, h4, h5, -⟩ := p6 at_ (by omega)
    refine ⟨by omega, ?_, a, ?_, h1, h4, h5⟩
    · rw [p1, p3, iN_le_f (by omega) (by omega)]
    · rw [p3, ix_iN (by omega)]; exact h1
theorem once_end {f mm : Nat} {D : Nat → Int32} {at_ g : Nat} (h : plD D mm at_ g) (hf : mm - at_ ≤ f) : ∃ at', plD (onceS f D) mm at' g ∧ (at' = mm ∨ (at' < mm ∧ ∃ a, onceS f D (5 + 3 * at') = iN a ∧ 1 ≤ a ∧ a ≤ 4)) := by
  induction f generalizing D at_ with
  | zero =>
    have := h.2.2.2.1
    exact ⟨at_, h, Or.inl (by omega)⟩
  | succ f ih =>
    unfold onceS
    rcases pl_cases h with ⟨c, e⟩ | ⟨c, e, a, e1, e2, e3, e4⟩
    · rw [if_pos (of_eq_true e)]
      exact ⟨at_, h, Or.inl c⟩
    · rw [if_neg (of_eq_false e), e1]
      by_cases c2 : a ≤ 4
      · rw [if_pos ((iN_le (by omega) (by omega)).mpr c2)]
        exact ⟨at_, h, Or.inr ⟨c, a, e2, e3, c2⟩⟩
      · rw [if_neg (fun x => c2 ((iN_le (by omega) (by omega)).mp x))]
        exact ih (plD_onc1 h c e2 (by omega) e4).1 (by omega)
theorem once_more {f f' mm : Nat} {D : Nat → Int32} {at_ g : Nat} (h : plD D mm at_ g) (hf : mm - at_ ≤ f) (hf' : mm - at_ ≤ f') : onceS f D = onceS f' D := by
  have stop : ∀ (f : Nat) (D : Nat → Int32) (at_ : Nat), plD D mm at_ g → mm - at_ = 0 → onceS f D = D := by
    intro f D at_ h h0
    cases f with
    | zero => rfl
    | succ f =>
      unfold onceS
      rcases pl_cases h with ⟨c, e⟩ | ⟨c, _⟩
      · rw [if_pos (of_eq_true e)]
      · omega
  induction f generalizing D at_ f' with
  | zero => rw [stop 0 D at_ h (by omega), stop f' D at_ h (by omega)]
  | succ f ih =>
    cases f' with
    | zero => rw [stop _ D at_ h (by omega), stop 0 D at_ h (by omega)]
    | succ f' =>
      unfold onceS
      rcases pl_cases h with ⟨c, e⟩ | ⟨c, e, a, e1, e2, e3, e4⟩
      · rw [if_pos (of_eq_true e), if_pos (of_eq_true e)]
      · rw [if_neg (of_eq_false e), if_neg (of_eq_false e), e1]
        by_cases c2 : a ≤ 4
        · rw [if_pos ((iN_le (by omega) (by omega)).mpr c2), if_pos ((iN_le (by omega) (by omega)).mpr c2)]
        · rw [if_neg (fun x => c2 ((iN_le (by omega) (by omega)).mp x)), if_neg (fun x => c2 ((iN_le (by omega) (by omega)).mp x))]
          exact ih (plD_onc1 h c e2 (by omega) e4).1 (by omega) (by omega)
-- the reference
theorem monce_ok {m mm at_ g : Nat} {D W : Nat → Int32} {G : G_} (h : bM m G) (hp : plD D mm at_ g) : f_X8_atOnce (stM m D W G) = some (stM m (onceS 12 D) W G) := by
  have key : ∀ (f fu : Nat) (D : Nat → Int32) (at_ : Nat), plD D mm at_ g → mm - at_ ≤ f → f < fu → f_X8_atOnce_l0_2 fu (stM m D W G) = some (stM m (onceS f D) W G) := by
    intro f
    induction f with
    | zero =>
      intro fu D at_ hp h1 h2
      obtain ⟨fu, rfl⟩ : ∃ k, fu = k + 1 := ⟨fu - 1, by omega⟩
      have e : (D 4 ≤ D 41) = True := by
        rcases pl_cases hp with ⟨_, e⟩ | ⟨c, _⟩
        · exact e
        · omega
      unfold f_X8_atOnce_l0_2
      simp (disch := omega) only [chk_t, beq_self_eq_true, nm_s, bj1_s, bj2_s, bj3_s, mo_1, mo_0, l_0, l_1, l_2, l_3, l_4, l_5, l_6, l_7, l_8, l_9, l_10, l_11, l_12, l_13, l_14, l_15, l_16, l_17, l_18, l_19, l_20, l_21, l_30, l_31, l_32, l_36, l_40, l_41, l_42, l_43, l_44, l_45, l_46, l_47, l_48, l_49, l_50, l_51, l_52, l_57, l_58, l_60, l_64, l_72, l_80, l_92, l_98, l_99, l_100, l_102, l_105, l_111, l_112, l_114, l_115, l_116, l_117, l_120, l_144, l_200, l_201, l_240, l_300, l_320, l_400, l_500, l_550, l_560, l_649, l_650, l_1000, l_1400, l_2000, l_4000, l_10000, iN_add, iN_sub, iN_mul, iN_le_t, iN_le_f, iN_lt_t, iN_lt_f, iN_eq_f, inb_iN, ix_iN, isZ_0, isZ_1, ↓reduceIte, eq_self, v_ok h, e]
      rfl
    | succ f ih =>
      intro fu D at_ hp h1 h2
      obtain ⟨fu, rfl⟩ : ∃ k, fu = k + 1 := ⟨fu - 1, by omega⟩
      have p2 := hp.2.1
      have p3 := hp.2.2.1
      have p4 := hp.2.2.2.1
      unfold f_X8_atOnce_l0_2 onceS
      rcases pl_cases hp with ⟨c, e⟩ | ⟨c, e, a, e1, e2, e3, e4⟩
      · simp (disch := omega) only [chk_t, beq_self_eq_true, nm_s, bj1_s, bj2_s, bj3_s, mo_1, mo_0, l_0, l_1, l_2, l_3, l_4, l_5, l_6, l_7, l_8, l_9, l_10, l_11, l_12, l_13, l_14, l_15, l_16, l_17, l_18, l_19, l_20, l_21, l_30, l_31, l_32, l_36, l_40, l_41, l_42, l_43, l_44, l_45, l_46, l_47, l_48, l_49, l_50, l_51, l_52, l_57, l_58, l_60, l_64, l_72, l_80, l_92, l_98, l_99, l_100, l_102, l_105, l_111, l_112, l_114, l_115, l_116, l_117, l_120, l_144, l_200, l_201, l_240, l_300, l_320, l_400, l_500, l_550, l_560, l_649, l_650, l_1000, l_1400, l_2000, l_4000, l_10000, iN_add, iN_sub, iN_mul, iN_le_t, iN_le_f, iN_lt_t, iN_lt_f, iN_eq_f, inb_iN, ix_iN, isZ_0, isZ_1, ↓reduceIte, eq_self, v_ok h, e]
      · have e9 : (D 4 ≤ iN at_) = False := by rw [← p3]; exact e
        by_cases c2 : a ≤ 4
        · have e5 : (iN a ≤ iN 4) = True := iN_le_t c2 (by omega)
          rw [e1]
          simp (disch := omega) only [chk_t, beq_self_eq_true, nm_s, bj1_s, bj2_s, bj3_s, mo_1, mo_0, l_0, l_1, l_2, l_3, l_4, l_5, l_6, l_7, l_8, l_9, l_10, l_11, l_12, l_13, l_14, l_15, l_16, l_17, l_18, l_19, l_20, l_21, l_30, l_31, l_32, l_36, l_40, l_41, l_42, l_43, l_44, l_45, l_46, l_47, l_48, l_49, l_50, l_51, l_52, l_57, l_58, l_60, l_64, l_72, l_80, l_92, l_98, l_99, l_100, l_102, l_105, l_111, l_112, l_114, l_115, l_116, l_117, l_120, l_144, l_200, l_201, l_240, l_300, l_320, l_400, l_500, l_550, l_560, l_649, l_650, l_1000, l_1400, l_2000, l_4000, l_10000, iN_add, iN_sub, iN_mul, iN_le_t, iN_le_f, iN_lt_t, iN_lt_f, iN_eq_f, inb_iN, ix_iN, isZ_0, isZ_1, ↓reduceIte, eq_self, v_ok h, e9, p3, e2, e5]
        · have e5 : (iN a ≤ iN 4) = False := iN_le_f (by omega) (by omega)
          have hp1 := (plD_onc1 hp c e2 (by omega) e4).1
          have hr := ih fu (onc1 D) (at_ + 1) hp1 (by omega) (by omega)
          rw [e1]
          by_cases c5 : a = 5
          · subst c5
            have e6 : onc1 D = up (up D 44 (iN 1 - D 44)) 41 (iN (at_ + 1)) := by
              unfold onc1
              rw [if_pos e1, p3, iN_add]
            rw [e6] at hr
            simp (disch := omega) only [chk_t, beq_self_eq_true, nm_s, bj1_s, bj2_s, bj3_s, mo_1, mo_0, l_0, l_1, l_2, l_3, l_4, l_5, l_6, l_7, l_8, l_9, l_10, l_11, l_12, l_13, l_14, l_15, l_16, l_17, l_18, l_19, l_20, l_21, l_30, l_31, l_32, l_36, l_40, l_41, l_42, l_43, l_44, l_45, l_46, l_47, l_48, l_49, l_50, l_51, l_52, l_57, l_58, l_60, l_64, l_72, l_80, l_92, l_98, l_99, l_100, l_102, l_105, l_111, l_112, l_114, l_115, l_116, l_117, l_120, l_144, l_200, l_201, l_240, l_300, l_320, l_400, l_500, l_550, l_560, l_649, l_650, l_1000, l_1400, l_2000, l_4000, l_10000, iN_add, iN_sub, iN_mul, iN_le_t, iN_le_f, iN_lt_t, iN_lt_f, iN_eq_f, inb_iN, ix_iN, isZ_0, isZ_1, ↓reduceIte, eq_self, v_ok h, e9, p3, e2, e5, mturn_ok h, up_ne, put_ok h, e6, hr]
          · have e7 : (iN a = iN 5) = False := iN_eq_f c5 (by omega) (by omega)
            have e6 : onc1 D = up (up (up D 48 (iN 0)) 49 (iN 0)) 41 (iN (at_ + 1)) := by
              unfold onc1
              rw [e1, if_neg (of_eq_false e7), p3, iN_add]
            rw [e6] at hr
            simp (disch := omega) only [chk_t, beq_self_eq_true, nm_s, bj1_s, bj2_s, bj3_s, mo_1, mo_0, l_0, l_1, l_2, l_3, l_4, l_5, l_6, l_7, l_8, l_9, l_10, l_11, l_12, l_13, l_14, l_15, l_16, l_17, l_18, l_19, l_20, l_21, l_30, l_31, l_32, l_36, l_40, l_41, l_42, l_43, l_44, l_45, l_46, l_47, l_48, l_49, l_50, l_51, l_52, l_57, l_58, l_60, l_64, l_72, l_80, l_92, l_98, l_99, l_100, l_102, l_105, l_111, l_112, l_114, l_115, l_116, l_117, l_120, l_144, l_200, l_201, l_240, l_300, l_320, l_400, l_500, l_550, l_560, l_649, l_650, l_1000, l_1400, l_2000, l_4000, l_10000, iN_add, iN_sub, iN_mul, iN_le_t, iN_le_f, iN_lt_t, iN_lt_f, iN_eq_f, inb_iN, ix_iN, isZ_0, isZ_1, ↓reduceIte, eq_self, v_ok h, e9, p3, e2, e5, e7, up_ne, put_ok h, e6, hr]
  unfold f_X8_atOnce
  have e := key 12 FU D at_ hp (by have := hp.2.1; omega) (fu_lt (by omega))
  simp (disch := omega) only [chk_t, beq_self_eq_true, nm_s, bj1_s, bj2_s, bj3_s, mo_1, mo_0, l_0, l_1, l_2, l_3, l_4, l_5, l_6, l_7, l_8, l_9, l_10, l_11, l_12, l_13, l_14, l_15, l_16, l_17, l_18, l_19, l_20, l_21, l_30, l_31, l_32, l_36, l_40, l_41, l_42, l_43, l_44, l_45, l_46, l_47, l_48, l_49, l_50, l_51, l_52, l_57, l_58, l_60, l_64, l_72, l_80, l_92, l_98, l_99, l_100, l_102, l_105, l_111, l_112, l_114, l_115, l_116, l_117, l_120, l_144, l_200, l_201, l_240, l_300, l_320, l_400, l_500, l_550, l_560, l_649, l_650, l_1000, l_1400, l_2000, l_4000, l_10000, iN_add, iN_sub, iN_mul, iN_le_t, iN_le_f, iN_lt_t, iN_lt_f, iN_eq_f, inb_iN, ix_iN, isZ_0, isZ_1, ↓reduceIte, eq_self, e]
def go1 (D : Nat → Int32) : Nat → Int32 :=
  if onceS 12 D 41 = onceS 12 D 4 then tickS (iN 4) (iN 0) (onceS 12 D)
  else if onceS 12 D 42 + iN 1 = onceS 12 D (5 + 3 * ix (onceS 12 D 41) + 2) then up (up (tickS (onceS 12 D (5 + 3 * ix (onceS 12 D 41))) (onceS 12 D (5 + 3 * ix (onceS 12 D 41) + 1)) (onceS 12 D)) 42 (iN 0)) 41 (onceS 12 D 41 + iN 1)
  else up (tickS (onceS 12 D (5 + 3 * ix (onceS 12 D 41))) (onceS 12 D (5 + 3 * ix (onceS 12 D 41) + 1)) (onceS 12 D)) 42 (onceS 12 D 42 + iN 1)
def goS (D : Nat → Int32) : Nat → Nat → Int32
  | 0 => D
  | k + 1 => go1 (goS D k)
/-- a dish that goes by its steps -/
def gD (D : Nat → Int32) (n mm : Nat) : Prop := wfD D n ∧ ∃ at_ g, plD D mm at_ g
theorem qR_N {b : Nat} (h : b ≤ 30) : qR (iN b) := ⟨by rw [li (by omega)]; omega, by rw [li (by omega)]; omega⟩
theorem plD_tick {D : Nat → Int32} {mm at_ g : Nat} {k q : Int32} (h : plD D mm at_ g) : plD (tickS k q D) mm at_ g := by
  obtain ⟨p1, p2, p3, p4, p5, p6, p7⟩ := h
  have e : ∀ p, p < 43 → tickS k q D p = D p := fun p hp => tickS_lo (by omega)
  refine ⟨by rw [e _ (by omega)]; exact p1, p2, by rw [e _ (by omega)]; exact p3, p4, by rw [e _ (by omega)]; exact p5, fun i hi => stOK_keep (p6 i hi) (by omega) (fun p hp => e p (by omega)), ?_⟩
  rcases p7 with h | ⟨h, a, c, h1, h2, h3, h4⟩
  · exact Or.inl h
  · exact Or.inr ⟨h, a, c, by rw [e _ (by omega)]; exact h1, h2, by rw [e _ (by omega)]; exact h3, h4⟩
theorem up_up {D : Nat → Int32} {p : Nat} {x y : Int32} : up (up D p x) p y = up D p y := by
  funext q
  unfold up
  split <;> rfl
/-- one tick by the steps, in its cases -/
theorem go1_cases {D : Nat → Int32} {n mm : Nat} (h : gD D n mm) : ∃ E at_ g, E = onceS 12 D ∧ wfD E n ∧ plD E mm at_ g ∧ mm ≤ 12 ∧
    ((at_ = mm ∧ go1 D = tickS (iN 4) (iN 0) E ∧ (iN at_ = iN mm) = True) ∨
     (at_ < mm ∧ ∃ a b c : Nat, E (5 + 3 * at_) = iN a ∧ E (5 + 3 * at_ + 1) = iN b ∧ E (5 + 3 * at_ + 2) = iN c ∧ 1 ≤ a ∧ a ≤ 4 ∧ b ≤ 30 ∧ c ≤ 60 ∧ g < c ∧ (iN at_ = iN mm) = False ∧
      go1 D = if g + 1 = c then up (up (tickS (iN a) (iN b) E) 42 (iN 0)) 41 (iN (at_ + 1)) else up (tickS (iN a) (iN b) E) 42 (iN (g + 1)))) := by
  obtain ⟨hw, at0, g, hp⟩ := h
  obtain ⟨at_, hp1, hc⟩ := once_end (f := 12) hp (by have := hp.2.1; omega)
  refine ⟨onceS 12 D, at_, g, rfl, wf_once hw, hp1, hp.2.1, ?_⟩
  unfold go1
  generalize hE : onceS 12 D = E at *
  obtain ⟨p1, p2, p3, p4, p5, p6, p7⟩ := hp1
  rcases hc with c | ⟨c, a, e1, e2, e3⟩
  · left
    refine ⟨c, ?_, by rw [c, eq_self]⟩
    rw [p1, p3, c, if_pos rfl]
  · right
    obtain ⟨a', b, c', h1, h2, h3, h4, h5, h6, h7, h8⟩ := p6 at_ c
    have ea : a' = a := (iN_inj (by omega) (by omega)).mp (h1.symm.trans e1)
    subst ea
    have hg : g < c' := by
      rcases p7 with h | ⟨-, a2, c2, -, -, h10, h11, h12⟩
      · have := h8 e3; omega
      · rw [h3, iN_inj (by omega) (by omega)] at h10
        omega
    have ef : (iN at_ = iN mm) = False := iN_eq_f (by omega) (by omega) (by omega)
    refine ⟨c, a', b, c', h1, h2, h3, e2, e3, h6, h7, hg, ef, ?_⟩
    rw [p1, p3, if_neg (of_eq_false ef), ix_iN (by omega), h1, h2, h3, p5, iN_add, iN_add]
    by_cases c9 : g + 1 = c'
    · rw [if_pos c9, if_pos (by rw [c9])]
    · rw [if_neg c9, if_neg (of_eq_false (iN_eq_f c9 (by omega) (by omega)))]
theorem gD_go1 {D : Nat → Int32} {n mm : Nat} (h : gD D n mm) : gD (go1 D) n mm := by
  obtain ⟨E, at_, g, eE, hw, hp, hm, ⟨c, e, -⟩ | ⟨c, a, b, c', h1, h2, h3, h4, h5, h6, h7, h8, -, e⟩⟩ := go1_cases h
  · rw [e]
    exact ⟨wf_tick hw qR_0, at_, g, plD_tick hp⟩
  · have hw1 := wf_tick (k := iN a) hw (qR_N h6)
    obtain ⟨p1, p2, p3, p4, p5, p6, p7⟩ := plD_tick (k := iN a) (q := iN b) hp
    have e0 : ∀ p, p < 43 → tickS (iN a) (iN b) E p = E p := fun p hp => tickS_lo (by omega)
    rw [e]
    by_cases c9 : g + 1 = c'
    · rw [if_pos c9]
      refine ⟨wf_up (wf_up hw1 (by omega) (by omega) (by omega)) (by omega) (by omega) (by omega), at_ + 1, 0, ?_, p2, up_eq, by omega, ?_, fun i hi => stOK_keep (p6 i hi) (by omega) (fun p hp => by rw [up_ne (by omega), up_ne (by omega)]), Or.inl rfl⟩
      · rw [up_ne (by omega), up_ne (by omega)]; exact p1
      · rw [up_ne (by omega), up_eq]
    · rw [if_neg c9]
      refine ⟨wf_up hw1 (by omega) (by omega) (by omega), at_, g + 1, ?_, p2, ?_, p4, up_eq, fun i hi => stOK_keep (p6 i hi) (by omega) (fun p hp => by rw [up_ne (by omega)]), Or.inr ⟨c, a, c', ?_, h5, ?_, by omega, h7⟩⟩
      · rw [up_ne (by omega)]; exact p1
      · rw [up_ne (by omega)]; exact p3
      · rw [up_ne (by omega), e0 _ (by omega)]; exact h1
      · rw [up_ne (by omega), e0 _ (by omega)]; exact h3
theorem gD_go {D : Nat → Int32} {n mm k : Nat} (h : gD D n mm) : gD (goS D k) n mm := by
  induction k with
  | zero => exact h
  | succ k ih => exact gD_go1 ih
theorem go1_lo {D : Nat → Int32} {n mm p : Nat} (h : gD D n mm) (hp : p < 41 ∨ 112 ≤ p) : go1 D p = D p := by
  obtain ⟨E, at_, g, eE, hw, hpl, hm, ⟨c, e, -⟩ | ⟨c, a, b, c', h1, h2, h3, h4, h5, h6, h7, h8, -, e⟩⟩ := go1_cases h
  · have e9 : E p = D p := by rw [eE, once_p (by omega) (by omega) (by omega) (by omega)]
    rw [e]
    rcases hp with h | h
    · rw [tickS_lo (by omega), e9]
    · rw [tickS_far hw.1 h, e9]
  · have e9 : E p = D p := by rw [eE, once_p (by omega) (by omega) (by omega) (by omega)]
    have e8 : tickS (iN a) (iN b) E p = D p := by
      rcases hp with h | h
      · rw [tickS_lo (by omega), e9]
      · rw [tickS_far hw.1 h, e9]
    rw [e]
    split
    · rw [up_ne (by omega), up_ne (by omega), e8]
    · rw [up_ne (by omega), e8]
theorem go_lo {D : Nat → Int32} {n mm p k : Nat} (h : gD D n mm) (hp : p < 41 ∨ 112 ≤ p) : goS D k p = D p := by
  induction k with
  | zero => rfl
  | succ k ih =>
    show go1 (goS D k) p = D p
    rw [go1_lo (gD_go h) hp, ih]
theorem mgo_ok {m n mm c : Nat} {D W : Nat → Int32} {G : G_} (h : bM m G) (hg : gD D n mm) (hc : c ≤ 700) : ∃ W', f_X8_goes (iN c) (stM m D W G) = some (stM m (goS D c) W' G) := by
  have hL : ∃ r, f_X8_goes_l2_3 (iN c) FU (iN 0) (stM m D W G) = some r ∧ ∃ W', r = stM m (goS D c) W' G := by
    refine loop_h (fun n v s => f_X8_goes_l2_3 (iN c) n v s) (fun j s => ∃ W', s = stM m (goS D j) W' G) _ 0 c ?_ ?_ (by omega) (n := FU) (fu_lt (by omega)) ⟨W, rfl⟩
    · intro f j s h3 h5 ⟨W1, e⟩
      subst e
      have hgj := gD_go (k := j) hg
      obtain ⟨at0, g0, hp0⟩ := hgj.2
      have ho := monce_ok (W := W1) h hp0
      obtain ⟨E, at_, g, eE, hw, hp, hm, ⟨c1, e, e2⟩ | ⟨c1, a, b, c', h1, h2, h3, h4, h6, h7, h8, h9, e2, e⟩⟩ := go1_cases hgj
      · obtain ⟨p1, p2, p3, p4, p5, p6, p7⟩ := hp
        rw [← eE] at ho
        obtain ⟨W', g'⟩ := mtick_ok (W := W1) (k := iN 4) (q := iN 0) h hw.1
        refine ⟨_, ⟨W', rfl⟩, ?_⟩
        show f_X8_goes_l2_3 (iN c) (f + 1) (iN j) _ = f_X8_goes_l2_3 (iN c) f (iN (j + 1)) (stM m (go1 (goS D j)) W' G)
        conv => lhs; unfold f_X8_goes_l2_3
        simp (disch := omega) only [chk_t, beq_self_eq_true, nm_s, bj1_s, bj2_s, bj3_s, mo_1, mo_0, l_0, l_1, l_2, l_3, l_4, l_5, l_6, l_7, l_8, l_9, l_10, l_11, l_12, l_13, l_14, l_15, l_16, l_17, l_18, l_19, l_20, l_21, l_30, l_31, l_32, l_36, l_40, l_41, l_42, l_43, l_44, l_45, l_46, l_47, l_48, l_49, l_50, l_51, l_52, l_57, l_58, l_60, l_64, l_72, l_80, l_92, l_98, l_99, l_100, l_102, l_105, l_111, l_112, l_114, l_115, l_116, l_117, l_120, l_144, l_200, l_201, l_240, l_300, l_320, l_400, l_500, l_550, l_560, l_649, l_650, l_1000, l_1400, l_2000, l_4000, l_10000, iN_add, iN_sub, iN_mul, iN_le_t, iN_le_f, iN_lt_t, iN_lt_f, iN_eq_f, inb_iN, ix_iN, isZ_0, isZ_1, ↓reduceIte, eq_self, ho, v_ok h, p1, p3, e2, g', e]
      · obtain ⟨p1, p2, p3, p4, p5, p6, p7⟩ := hp
        rw [← eE] at ho
        obtain ⟨W', g'⟩ := mtick_ok (W := W1) (k := iN a) (q := iN b) h hw.1
        refine ⟨_, ⟨W', rfl⟩, ?_⟩
        show f_X8_goes_l2_3 (iN c) (f + 1) (iN j) _ = f_X8_goes_l2_3 (iN c) f (iN (j + 1)) (stM m (go1 (goS D j)) W' G)
        conv => lhs; unfold f_X8_goes_l2_3
        have q2 : tickS (iN a) (iN b) E 42 = iN g := (tickS_lo (by omega)).trans p5
        have q3 : tickS (iN a) (iN b) E (5 + 3 * at_ + 2) = iN c' := (tickS_lo (by omega)).trans h3
        have q4 : tickS (iN a) (iN b) E 41 = iN at_ := (tickS_lo (by omega)).trans p3
        by_cases c9 : g + 1 = c'
        · have e10 : up (up (tickS (iN a) (iN b) E) 42 (iN 0)) 41 (iN (at_ + 1)) = up (up (up (tickS (iN a) (iN b) E) 42 (iN (g + 1))) 42 (iN 0)) 41 (iN (at_ + 1)) := by rw [up_up]
          rw [e, if_pos c9, e10]
          subst c9
          simp (disch := omega) only [chk_t, beq_self_eq_true, nm_s, bj1_s, bj2_s, bj3_s, mo_1, mo_0, l_0, l_1, l_2, l_3, l_4, l_5, l_6, l_7, l_8, l_9, l_10, l_11, l_12, l_13, l_14, l_15, l_16, l_17, l_18, l_19, l_20, l_21, l_30, l_31, l_32, l_36, l_40, l_41, l_42, l_43, l_44, l_45, l_46, l_47, l_48, l_49, l_50, l_51, l_52, l_57, l_58, l_60, l_64, l_72, l_80, l_92, l_98, l_99, l_100, l_102, l_105, l_111, l_112, l_114, l_115, l_116, l_117, l_120, l_144, l_200, l_201, l_240, l_300, l_320, l_400, l_500, l_550, l_560, l_649, l_650, l_1000, l_1400, l_2000, l_4000, l_10000, iN_add, iN_sub, iN_mul, iN_le_t, iN_le_f, iN_lt_t, iN_lt_f, iN_eq_f, inb_iN, ix_iN, isZ_0, isZ_1, ↓reduceIte, eq_self, ho, v_ok h, p1, p3, e2, h1, h2, g', q2, put_ok h, up_eq, up_ne, q3, q4]
        · have e9 : (iN (g + 1) = iN c') = False := iN_eq_f c9 (by omega) (by omega)
          rw [e, if_neg c9]
          simp (disch := omega) only [chk_t, beq_self_eq_true, nm_s, bj1_s, bj2_s, bj3_s, mo_1, mo_0, l_0, l_1, l_2, l_3, l_4, l_5, l_6, l_7, l_8, l_9, l_10, l_11, l_12, l_13, l_14, l_15, l_16, l_17, l_18, l_19, l_20, l_21, l_30, l_31, l_32, l_36, l_40, l_41, l_42, l_43, l_44, l_45, l_46, l_47, l_48, l_49, l_50, l_51, l_52, l_57, l_58, l_60, l_64, l_72, l_80, l_92, l_98, l_99, l_100, l_102, l_105, l_111, l_112, l_114, l_115, l_116, l_117, l_120, l_144, l_200, l_201, l_240, l_300, l_320, l_400, l_500, l_550, l_560, l_649, l_650, l_1000, l_1400, l_2000, l_4000, l_10000, iN_add, iN_sub, iN_mul, iN_le_t, iN_le_f, iN_lt_t, iN_lt_f, iN_eq_f, inb_iN, ix_iN, isZ_0, isZ_1, ↓reduceIte, eq_self, ho, v_ok h, p1, p3, e2, h1, h2, g', q2, put_ok h, up_eq, up_ne, q3, e9]
    · intro f s ⟨W1, e⟩
      subst e
      refine ⟨_, ?_, W1, rfl⟩
      show f_X8_goes_l2_3 (iN c) (f + 1) (iN c) _ = _
      unfold f_X8_goes_l2_3
      simp (disch := omega) only [chk_t, beq_self_eq_true, nm_s, bj1_s, bj2_s, bj3_s, mo_1, mo_0, l_0, l_1, l_2, l_3, l_4, l_5, l_6, l_7, l_8, l_9, l_10, l_11, l_12, l_13, l_14, l_15, l_16, l_17, l_18, l_19, l_20, l_21, l_30, l_31, l_32, l_36, l_40, l_41, l_42, l_43, l_44, l_45, l_46, l_47, l_48, l_49, l_50, l_51, l_52, l_57, l_58, l_60, l_64, l_72, l_80, l_92, l_98, l_99, l_100, l_102, l_105, l_111, l_112, l_114, l_115, l_116, l_117, l_120, l_144, l_200, l_201, l_240, l_300, l_320, l_400, l_500, l_550, l_560, l_649, l_650, l_1000, l_1400, l_2000, l_4000, l_10000, iN_add, iN_sub, iN_mul, iN_le_t, iN_le_f, iN_lt_t, iN_lt_f, iN_eq_f, inb_iN, ix_iN, isZ_0, isZ_1, ↓reduceIte, eq_self]
  obtain ⟨r, hr, W', e⟩ := hL
  refine ⟨W', ?_⟩
  unfold f_X8_goes
  simp (disch := omega) only [chk_t, beq_self_eq_true, nm_s, bj1_s, bj2_s, bj3_s, mo_1, mo_0, l_0, l_1, l_2, l_3, l_4, l_5, l_6, l_7, l_8, l_9, l_10, l_11, l_12, l_13, l_14, l_15, l_16, l_17, l_18, l_19, l_20, l_21, l_30, l_31, l_32, l_36, l_40, l_41, l_42, l_43, l_44, l_45, l_46, l_47, l_48, l_49, l_50, l_51, l_52, l_57, l_58, l_60, l_64, l_72, l_80, l_92, l_98, l_99, l_100, l_102, l_105, l_111, l_112, l_114, l_115, l_116, l_117, l_120, l_144, l_200, l_201, l_240, l_300, l_320, l_400, l_500, l_550, l_560, l_649, l_650, l_1000, l_1400, l_2000, l_4000, l_10000, iN_add, iN_sub, iN_mul, iN_le_t, iN_le_f, iN_lt_t, iN_lt_f, iN_eq_f, inb_iN, ix_iN, isZ_0, isZ_1, ↓reduceIte, eq_self, hr]
  rw [e]

/-! the calls that change a dish, or try it: dish, go, keep, on, slice, cut, rise -/
theorem RR_5 {G G' : G_} (h : RR G) (r5 : R5 G') (e : ∀ q, q = 17 ∨ (50 ≤ q ∧ q < 91) ∨ (125 ≤ q ∧ q ≤ 135 ∧ q ≠ 128) → G'.1 q = G.1 q) (e0 : G'.1 0 15 = G.1 0 15) (e1 : G'.1 124 0 = G.1 124 0) (e2 : G'.2 = G.2) (ra : G'.1 0 16 = G'.1 124 2) : RR G' := by
  obtain ⟨⟨r1, r2, r3, r4, _, r6⟩, _⟩ := h
  refine ⟨⟨R1_fr r1 (fun q hq => e q (by omega)), R2_fr r2 (fun q hq => e q (by omega)), R3_fr r3 (fun q hq => e q (by omega)), R4_fr r4 (fun q hq => e q (by omega)), r5, ?_⟩, ra⟩
  exact ⟨by rw [e0, e1]; exact r6.1, by rw [e 50 (by omega), e 125 (by omega)]; exact r6.2.1, by rw [e2]; exact r6.2.2.1, by rw [e2]; exact r6.2.2.2.1, by rw [e 17 (by omega)]; exact r6.2.2.2.2⟩
theorem R5_upd {G B : G_} {k0 : Nat} (h : R5 G) (n1 : B.1 (dp k0) 7 = iN 1) (n2 : B.1 138 k0 = iN 1) (n3 : ∃ n mm, gD (DM k0 B) n mm ∧ upOK (DM k0 B) ∧ cD (dp k0) (DM k0 B) B)
    (o : ∀ k, k < 4 → k ≠ k0 → (∀ q, dp k ≤ q → q < dp k + 11 → B.1 q = G.1 q) ∧ B.1 138 k = G.1 138 k ∧ ∀ p, p < 112 → DM k B p = DM k G p) : R5 B := by
  intro k hk
  by_cases c : k = k0
  · subst c
    exact ⟨n1.trans n2.symm, Or.inr ⟨n2, n3⟩⟩
  · obtain ⟨o1, o2, o3⟩ := o k hk c
    have a := h k hk
    rw [o1 (dp k) (by omega) (by omega), o2]
    refine ⟨a.1, ?_⟩
    rcases a.2 with a | ⟨a0, n, mm, a1, a2, a3⟩
    · exact Or.inl a
    · exact Or.inr ⟨a0, n, mm, gD_cg a1 o3, upOK_cg a2 o3, cD_cg (cD_fr a3 o1) (dz_g a1) o3⟩
theorem upOK_tick {D : Nat → Int32} {n : Nat} {k q : Int32} (hn : okN D n) (h : D 44 = iN 0 ∨ D 44 = iN 1) : upOK (tickS k q D) := by
  have h2 := hn.2
  have e4 : tickS k q D 44 = D 44 := tickS_lo (by omega)
  refine ⟨fun e => ?_, by rw [e4]; exact h⟩
  rw [e4]
  unfold tickS endS at e ⊢
  rw [up_ne (by omega), up_ne (by omega), up_ne (by omega), up_eq] at e
  rw [up_ne (by omega), up_ne (by omega), up_eq, if_pos e, brownS_0 (by omega), brownS_0 (by omega), mostS_lo (by omega), bathS_0 (by omega), dryS_0 (by omega) (by rw [okN_n hn]; omega), bathS_0 (by omega), dryS_0 (by omega) (by omega), warmsS_lo (by omega)]
theorem onc1_44 {D : Nat → Int32} (h : D 44 = iN 0 ∨ D 44 = iN 1) : onc1 D 44 = iN 0 ∨ onc1 D 44 = iN 1 := by
  unfold onc1
  rw [up_ne (by omega)]
  split
  · rw [up_eq]
    rcases h with h | h <;> rw [h]
    · exact Or.inr rfl
    · exact Or.inl rfl
  · rw [up_ne (by omega), up_ne (by omega)]
    exact h
theorem once_44 {f : Nat} {D : Nat → Int32} (h : D 44 = iN 0 ∨ D 44 = iN 1) : onceS f D 44 = iN 0 ∨ onceS f D 44 = iN 1 := by
  induction f generalizing D with
  | zero => exact h
  | succ f ih =>
    unfold onceS
    split
    · exact h
    · split
      · exact h
      · exact ih (onc1_44 h)
theorem upOK_up {D : Nat → Int32} {p : Nat} {x : Int32} (h : upOK D) (hp : p ≠ 44 ∧ p ≠ 45 ∧ p ≠ 46) : upOK (up D p x) := by
  unfold upOK
  rw [up_ne (by omega), up_ne (by omega), up_ne (by omega)]
  exact h
theorem upOK_go1 {D : Nat → Int32} {n mm : Nat} (hg : gD D n mm) (h : D 44 = iN 0 ∨ D 44 = iN 1) : upOK (go1 D) := by
  obtain ⟨E, at_, g, eE, hw, hp, hm, ⟨c, e, -⟩ | ⟨c, a, b, c', h1, h2, h3, h4, h5, h6, h7, h8, -, e⟩⟩ := go1_cases hg
  · rw [e]
    exact upOK_tick hw.1 (by rw [eE]; exact once_44 h)
  · have u := upOK_tick (k := iN a) (q := iN b) hw.1 (by rw [eE]; exact once_44 h)
    rw [e]
    split
    · exact upOK_up (upOK_up u (by omega)) (by omega)
    · exact upOK_up u (by omega)
theorem upOK_go {D : Nat → Int32} {n mm k : Nat} (hg : gD D n mm) (h : upOK D) : upOK (goS D k) := by
  induction k with
  | zero => exact h
  | succ k ih => exact upOK_go1 (gD_go hg) ih.2
theorem DM_far {m k p : Nat} {D W : Nat → Int32} {G : G_} : DM (m + k) (stM m D W G) p = D (112 * k + p) := by
  unfold DM
  rw [stM_139, if_pos (by omega), show 112 * (m + k) + p - 112 * m = 112 * k + p by omega]
theorem DM_low {m k p : Nat} {D W : Nat → Int32} {G : G_} (hk : k < m) (hp : p < 112) : DM k (stM m D W G) p = DM k G p := by
  unfold DM
  rw [stM_139, if_neg (by omega)]
theorem st_sI {m q j : Nat} {v : Int32} {D W : Nat → Int32} {G : G_} (h1 : q ≠ 139) (h2 : q ≠ 140) : sI (stM m D W G) q j v = stM m D W (sI G q j v) := by
  refine G_ext (fun r i => ?_) rfl
  by_cases c1 : r = 139
  · subst c1
    rw [sI_p (Ne.symm h1), stM_139, stM_139, sI_p (Ne.symm h1)]
  · by_cases c2 : r = 140
    · subst c2
      rw [sI_p (Ne.symm h2), stM_140, stM_140]
    · rw [stM_o c1 c2]
      by_cases c3 : r = q
      · subst c3
        by_cases c4 : i = j
        · subst c4
          rw [sI_eq, sI_eq]
        · rw [sI_j c4, sI_j c4, stM_o c1 c2]
      · rw [sI_p c3, sI_p c3, stM_o c1 c2]
theorem DM_of {m : Nat} {G G' : G_} (h : G'.1 139 = G.1 139) : DM m G' = DM m G := by
  funext p
  unfold DM
  rw [h]
theorem op_go (a1 : Int32) {G : G_} (h : RR G) : pOK (f_X7_go a1) (f_X8_go a1) G := by
  rcases in_N 0 200 a1 with e1 | ⟨e1, c, rfl, -, hc⟩
  · refine pOK_same (x := -iN 1) h ?_ ?_
    · unfold f_X7_go
      rw [in7, bj1_s]
      exact if_pos e1
    · unfold f_X8_go
      rw [in8, bj1_s]
      exact if_pos e1
  · obtain ⟨r1, r2⟩ := dish0 h.1
    rcases r2 with r2 | ⟨r2, n, mm, hg, hu, hcd⟩
    · refine pOK_same (x := -iN 4) h ?_ ?_
      · unfold f_X7_go
        simp (disch := omega) only [chk_t, beq_self_eq_true, nm_s, bj1_s, bj2_s, bj3_s, mo_1, mo_0, l_0, l_1, l_2, l_3, l_4, l_5, l_6, l_7, l_8, l_9, l_10, l_11, l_12, l_13, l_14, l_15, l_16, l_17, l_18, l_19, l_20, l_21, l_30, l_31, l_32, l_36, l_40, l_41, l_42, l_43, l_44, l_45, l_46, l_47, l_48, l_49, l_50, l_51, l_52, l_57, l_58, l_60, l_64, l_72, l_80, l_92, l_98, l_99, l_100, l_102, l_105, l_111, l_112, l_114, l_115, l_116, l_117, l_120, l_144, l_200, l_201, l_240, l_300, l_320, l_400, l_500, l_550, l_560, l_649, l_650, l_1000, l_1400, l_2000, l_4000, l_10000, iN_add, iN_sub, iN_mul, iN_le_t, iN_le_f, iN_lt_t, iN_lt_f, iN_eq_f, inb_iN, ix_iN, isZ_0, isZ_1, ↓reduceIte, eq_self, in7, e1, r1, r2]
      · unfold f_X8_go
        simp (disch := omega) only [chk_t, beq_self_eq_true, nm_s, bj1_s, bj2_s, bj3_s, mo_1, mo_0, l_0, l_1, l_2, l_3, l_4, l_5, l_6, l_7, l_8, l_9, l_10, l_11, l_12, l_13, l_14, l_15, l_16, l_17, l_18, l_19, l_20, l_21, l_30, l_31, l_32, l_36, l_40, l_41, l_42, l_43, l_44, l_45, l_46, l_47, l_48, l_49, l_50, l_51, l_52, l_57, l_58, l_60, l_64, l_72, l_80, l_92, l_98, l_99, l_100, l_102, l_105, l_111, l_112, l_114, l_115, l_116, l_117, l_120, l_144, l_200, l_201, l_240, l_300, l_320, l_400, l_500, l_550, l_560, l_649, l_650, l_1000, l_1400, l_2000, l_4000, l_10000, iN_add, iN_sub, iN_mul, iN_le_t, iN_le_f, iN_lt_t, iN_lt_f, iN_eq_f, inb_iN, ix_iN, isZ_0, isZ_1, ↓reduceIte, eq_self, in8, e1, r2]
    · have r12 : G.1 5 12 = DM 0 G 43 := c_12 hcd
      by_cases c3 : DM 0 G 43 + iN c ≤ iN 300
      · obtain ⟨A, hA, cA, fA⟩ := cgo_ok (c := c) kd5 hg (by omega) hcd
        have eA : ∀ q, q < 5 ∨ 16 ≤ q → A.1 q = G.1 q := fun q hq => fA.1.1 q (by omega)
        have eD : DM 0 A = DM 0 G := DM_of (eA 139 (by omega))
        obtain ⟨W', hB⟩ := mgo_ok (D := DM 0 G) (W := WM A) (c := c) (bM_LG (m := 0) (G := A) (by omega)) hg (by omega)
        have eL := LG_eta 0 A
        rw [eD] at eL
        rw [← eL] at hB
        have hv := v_ok (D := goS (DM 0 G) c) (W := W') (p := 43) (bM_LG (m := 0) (G := A) (by omega)) (by omega)
        have a12 : A.1 5 12 = goS (DM 0 G) c 43 := c_12 cA
        have eB : ∀ q, q ≠ 124 → q ≠ 139 → q ≠ 140 → (stM 0 (goS (DM 0 G) c) W' (LG 0 A)).1 q = A.1 q := fun q h1 h2 h3 => by rw [stM_o1 h2 h3, LG_o h1]
        refine ⟨goS (DM 0 G) c 43, A, stM 0 (goS (DM 0 G) c) W' (LG 0 A), ?_, ?_, ?_⟩
        · unfold f_X7_go
          simp (disch := omega) only [chk_t, beq_self_eq_true, nm_s, bj1_s, bj2_s, bj3_s, mo_1, mo_0, l_0, l_1, l_2, l_3, l_4, l_5, l_6, l_7, l_8, l_9, l_10, l_11, l_12, l_13, l_14, l_15, l_16, l_17, l_18, l_19, l_20, l_21, l_30, l_31, l_32, l_36, l_40, l_41, l_42, l_43, l_44, l_45, l_46, l_47, l_48, l_49, l_50, l_51, l_52, l_57, l_58, l_60, l_64, l_72, l_80, l_92, l_98, l_99, l_100, l_102, l_105, l_111, l_112, l_114, l_115, l_116, l_117, l_120, l_144, l_200, l_201, l_240, l_300, l_320, l_400, l_500, l_550, l_560, l_649, l_650, l_1000, l_1400, l_2000, l_4000, l_10000, iN_add, iN_sub, iN_mul, iN_le_t, iN_le_f, iN_lt_t, iN_lt_f, iN_eq_f, inb_iN, ix_iN, isZ_0, isZ_1, ↓reduceIte, eq_self, in7, e1, r1, r2, r12, if_pos c3, hA, a12]
        · unfold f_X8_go
          have a138 : A.1 138 0 = iN 1 := by rw [eA 138 (by omega)]; exact r2
          simp (disch := omega) only [chk_t, beq_self_eq_true, nm_s, bj1_s, bj2_s, bj3_s, mo_1, mo_0, l_0, l_1, l_2, l_3, l_4, l_5, l_6, l_7, l_8, l_9, l_10, l_11, l_12, l_13, l_14, l_15, l_16, l_17, l_18, l_19, l_20, l_21, l_30, l_31, l_32, l_36, l_40, l_41, l_42, l_43, l_44, l_45, l_46, l_47, l_48, l_49, l_50, l_51, l_52, l_57, l_58, l_60, l_64, l_72, l_80, l_92, l_98, l_99, l_100, l_102, l_105, l_111, l_112, l_114, l_115, l_116, l_117, l_120, l_144, l_200, l_201, l_240, l_300, l_320, l_400, l_500, l_550, l_560, l_649, l_650, l_1000, l_1400, l_2000, l_4000, l_10000, iN_add, iN_sub, iN_mul, iN_le_t, iN_le_f, iN_lt_t, iN_lt_f, iN_eq_f, inb_iN, ix_iN, isZ_0, isZ_1, ↓reduceIte, eq_self, in8, e1, a138, look_ok, v_LG, eD, if_pos c3, hB, hv]
        · have dB : DM 0 (stM 0 (goS (DM 0 G) c) W' (LG 0 A)) = goS (DM 0 G) c := DM_st _ _ _ _
          refine RR_5 h ?_ (fun q hq => by rw [eB q (by omega) (by omega) (by omega), eA q (by omega)]) (by rw [eB 0 (by omega) (by omega) (by omega), eA 0 (by omega)]) (by rw [stM_o (by omega) (by omega), LG_j (by omega), eA 124 (by omega)]) (by rw [stM_j, LG_2, fA.1.2]) (by rw [eB 0 (by omega) (by omega) (by omega), eA 0 (by omega), stM_o (by omega) (by omega), LG_j (by omega), eA 124 (by omega)]; exact h.2)
          refine R5_upd (k0 := 0) h.1.2.2.2.2.1 ?_ ?_ ⟨n, mm, by rw [dB]; exact gD_go hg, by rw [dB]; exact upOK_go hg hu, ?_⟩ (fun k hk hk0 => ?_)
          · show (stM 0 (goS (DM 0 G) c) W' (LG 0 A)).1 5 7 = _
            rw [eB 5 (by omega) (by omega) (by omega), fA.2]
            exact r1.trans r2
          · rw [eB 138 (by omega) (by omega) (by omega), eA 138 (by omega)]
            exact r2
          · rw [dB]
            exact cD_fr cA (fun q h1 h2 => by
              have h1 : 5 ≤ q := h1
              have h2 : q < 16 := h2
              exact eB q (by omega) (by omega) (by omega))
          · have hd := dp_r hk
            refine ⟨fun q h1 h2 => by rw [eB q (by omega) (by omega) (by omega), eA q (by omega)], by rw [eB 138 (by omega) (by omega) (by omega), eA 138 (by omega)], fun p hp => ?_⟩
            have := DM_far (m := 0) (k := k) (p := p) (D := goS (DM 0 G) c) (W := W') (G := LG 0 A)
            rw [show 0 + k = k by omega] at this
            rw [this, go_lo hg (by omega)]
            unfold DM
            rw [show 112 * 0 + (112 * k + p) = 112 * k + p by omega]
      · refine pOK_none (x := -iN 6) h ?_ cc_refl ?_ (mf_LG (m := 0))
        · unfold f_X7_go
          simp (disch := omega) only [chk_t, beq_self_eq_true, nm_s, bj1_s, bj2_s, bj3_s, mo_1, mo_0, l_0, l_1, l_2, l_3, l_4, l_5, l_6, l_7, l_8, l_9, l_10, l_11, l_12, l_13, l_14, l_15, l_16, l_17, l_18, l_19, l_20, l_21, l_30, l_31, l_32, l_36, l_40, l_41, l_42, l_43, l_44, l_45, l_46, l_47, l_48, l_49, l_50, l_51, l_52, l_57, l_58, l_60, l_64, l_72, l_80, l_92, l_98, l_99, l_100, l_102, l_105, l_111, l_112, l_114, l_115, l_116, l_117, l_120, l_144, l_200, l_201, l_240, l_300, l_320, l_400, l_500, l_550, l_560, l_649, l_650, l_1000, l_1400, l_2000, l_4000, l_10000, iN_add, iN_sub, iN_mul, iN_le_t, iN_le_f, iN_lt_t, iN_lt_f, iN_eq_f, inb_iN, ix_iN, isZ_0, isZ_1, ↓reduceIte, eq_self, in7, e1, r1, r2, r12, if_neg c3]
        · unfold f_X8_go
          simp (disch := omega) only [chk_t, beq_self_eq_true, nm_s, bj1_s, bj2_s, bj3_s, mo_1, mo_0, l_0, l_1, l_2, l_3, l_4, l_5, l_6, l_7, l_8, l_9, l_10, l_11, l_12, l_13, l_14, l_15, l_16, l_17, l_18, l_19, l_20, l_21, l_30, l_31, l_32, l_36, l_40, l_41, l_42, l_43, l_44, l_45, l_46, l_47, l_48, l_49, l_50, l_51, l_52, l_57, l_58, l_60, l_64, l_72, l_80, l_92, l_98, l_99, l_100, l_102, l_105, l_111, l_112, l_114, l_115, l_116, l_117, l_120, l_144, l_200, l_201, l_240, l_300, l_320, l_400, l_500, l_550, l_560, l_649, l_650, l_1000, l_1400, l_2000, l_4000, l_10000, iN_add, iN_sub, iN_mul, iN_le_t, iN_le_f, iN_lt_t, iN_lt_f, iN_eq_f, inb_iN, ix_iN, isZ_0, isZ_1, ↓reduceIte, eq_self, in8, e1, r2, look_ok, v_LG, if_neg c3]
/-- a slab and a plan laid in one row -/
theorem sl_X {k n : Nat} {P D : Nat → Int32} {G : G_} (h : slR (SL k G) n) : slR (lpS P (lsS (SL k G) D)) n := by
  obtain ⟨h1, h2⟩ := h
  refine ⟨okN_keep h1 (by rw [lp_lo (by omega), ls_lo (by omega)]), ?_⟩
  rw [lp_lo (by omega), ls_lo (by omega)]
  exact h2
theorem cSl_X {a k : Nat} {P D : Nat → Int32} {G : G_} (h : cSl a (SL k G) G) : cSl a (lpS P (lsS (SL k G) D)) G := by
  unfold cSl
  rw [lp_lo (by omega), lp_lo (by omega), lp_lo (by omega), lp_lo (by omega), ls_lo (by omega), ls_lo (by omega), ls_lo (by omega), ls_lo (by omega)]
  exact h
theorem tk_X {P E : Nat → Int32} {mm : Nat} (h : P 4 = iN mm) (hm : mm ≤ 12) : tkS (lpS P E) = tkS P := by
  unfold tkS
  rw [mD_of (lp_in (by omega) (by omega)), mD_N h hm]
  exact sumS_congr (fun i hi => lp_in (by omega) (by omega))
theorem pl_X {P E : Nat → Int32} {mm : Nat} (h : plR P mm) : plR (lpS P E) mm := by
  obtain ⟨h1, h2, h3, T, h4, h5⟩ := h
  refine ⟨by rw [lp_in (by omega) (by omega)]; exact h1, h2, fun i hi => ?_, T, h4, by rw [tk_X h1 h2]; exact h5⟩
  obtain ⟨a, b, c, g1, g2, g3, g4⟩ := h3 i hi
  exact ⟨a, b, c, by rw [lp_in (by omega) (by omega)]; exact g1, by rw [lp_in (by omega) (by omega)]; exact g2, by rw [lp_in (by omega) (by omega)]; exact g3, g4⟩
theorem cPl_X {b mm : Nat} {P E : Nat → Int32} {G : G_} (h : P 4 = iN mm) (hm : mm ≤ 12) (hP : cPl b P G) : cPl b (lpS P E) G := by
  obtain ⟨h1, h2, h3⟩ := hP
  refine ⟨by rw [lp_in (by omega) (by omega)]; exact h1, by rw [tk_X h hm]; exact h2, fun i hi => ?_⟩
  rw [mD_of (lp_in (by omega) (by omega)), mD_N h hm] at hi
  rw [lp_in (by omega) (by omega), lp_in (by omega) (by omega), lp_in (by omega) (by omega)]
  exact h3 i (by rw [mD_N h hm]; exact hi)
theorem op_dish (a1 a2 : Int32) {G : G_} (h : RR G) : pOK (f_X7_dish a1 a2) (f_X8_dish a1 a2) G := by
  rcases slab_cases a1 G with ⟨e1, c1⟩ | ⟨s, hs, rfl, e1, c1, ho1⟩
  · refine pOK_same (x := -iN 1) h ?_ ?_
    · rcases plan_cases a2 G with ⟨e2, c2⟩ | ⟨p, hp, rfl, e2, c2, ho2⟩
      · unfold f_X7_dish
        rw [c1, bj1_s, c2, bj1_s]
        rfl
      · unfold f_X7_dish
        rw [c1, bj1_s, c2, bj1_s]
        rfl
    · unfold f_X8_dish
      rw [place8, bj1_s]
      exact if_pos e1
  · rcases plan_cases a2 G with ⟨e2, c2⟩ | ⟨p, hp, rfl, e2, c2, ho2⟩
    · refine pOK_same (x := -iN 1) h ?_ ?_
      · unfold f_X7_dish
        simp (disch := omega) only [chk_t, beq_self_eq_true, nm_s, bj1_s, bj2_s, bj3_s, mo_1, mo_0, l_0, l_1, l_2, l_3, l_4, l_5, l_6, l_7, l_8, l_9, l_10, l_11, l_12, l_13, l_14, l_15, l_16, l_17, l_18, l_19, l_20, l_21, l_30, l_31, l_32, l_36, l_40, l_41, l_42, l_43, l_44, l_45, l_46, l_47, l_48, l_49, l_50, l_51, l_52, l_57, l_58, l_60, l_64, l_72, l_80, l_92, l_98, l_99, l_100, l_102, l_105, l_111, l_112, l_114, l_115, l_116, l_117, l_120, l_144, l_200, l_201, l_240, l_300, l_320, l_400, l_500, l_550, l_560, l_649, l_650, l_1000, l_1400, l_2000, l_4000, l_10000, iN_add, iN_sub, iN_mul, iN_le_t, iN_le_f, iN_lt_t, iN_lt_f, iN_eq_f, inb_iN, ix_iN, isZ_0, isZ_1, ↓reduceIte, eq_self, c1, c2, kd_b ho1]
      · unfold f_X8_dish
        simp (disch := omega) only [chk_t, beq_self_eq_true, nm_s, bj1_s, bj2_s, bj3_s, mo_1, mo_0, l_0, l_1, l_2, l_3, l_4, l_5, l_6, l_7, l_8, l_9, l_10, l_11, l_12, l_13, l_14, l_15, l_16, l_17, l_18, l_19, l_20, l_21, l_30, l_31, l_32, l_36, l_40, l_41, l_42, l_43, l_44, l_45, l_46, l_47, l_48, l_49, l_50, l_51, l_52, l_57, l_58, l_60, l_64, l_72, l_80, l_92, l_98, l_99, l_100, l_102, l_105, l_111, l_112, l_114, l_115, l_116, l_117, l_120, l_144, l_200, l_201, l_240, l_300, l_320, l_400, l_500, l_550, l_560, l_649, l_650, l_1000, l_1400, l_2000, l_4000, l_10000, iN_add, iN_sub, iN_mul, iN_le_t, iN_le_f, iN_lt_t, iN_lt_f, iN_eq_f, inb_iN, ix_iN, isZ_0, isZ_1, ↓reduceIte, eq_self, place8, e1, e2]
    · obtain ⟨q1, q2, q3⟩ := h.1.2.2.1 s hs
      rcases q2 with q2 | ⟨q2, n, hsl⟩
      · refine pOK_found (f := 1) (by omega) h ?_ ?_
        · unfold f_X7_dish
          simp (disch := omega) only [chk_t, beq_self_eq_true, nm_s, bj1_s, bj2_s, bj3_s, mo_1, mo_0, l_0, l_1, l_2, l_3, l_4, l_5, l_6, l_7, l_8, l_9, l_10, l_11, l_12, l_13, l_14, l_15, l_16, l_17, l_18, l_19, l_20, l_21, l_30, l_31, l_32, l_36, l_40, l_41, l_42, l_43, l_44, l_45, l_46, l_47, l_48, l_49, l_50, l_51, l_52, l_57, l_58, l_60, l_64, l_72, l_80, l_92, l_98, l_99, l_100, l_102, l_105, l_111, l_112, l_114, l_115, l_116, l_117, l_120, l_144, l_200, l_201, l_240, l_300, l_320, l_400, l_500, l_550, l_560, l_649, l_650, l_1000, l_1400, l_2000, l_4000, l_10000, iN_add, iN_sub, iN_mul, iN_le_t, iN_le_f, iN_lt_t, iN_lt_f, iN_eq_f, inb_iN, ix_iN, isZ_0, isZ_1, ↓reduceIte, eq_self, c1, c2, kd_b ho1, kd_b ho2, q1, q2, found_ok]
        · unfold f_X8_dish
          simp (disch := omega) only [chk_t, beq_self_eq_true, nm_s, bj1_s, bj2_s, bj3_s, mo_1, mo_0, l_0, l_1, l_2, l_3, l_4, l_5, l_6, l_7, l_8, l_9, l_10, l_11, l_12, l_13, l_14, l_15, l_16, l_17, l_18, l_19, l_20, l_21, l_30, l_31, l_32, l_36, l_40, l_41, l_42, l_43, l_44, l_45, l_46, l_47, l_48, l_49, l_50, l_51, l_52, l_57, l_58, l_60, l_64, l_72, l_80, l_92, l_98, l_99, l_100, l_102, l_105, l_111, l_112, l_114, l_115, l_116, l_117, l_120, l_144, l_200, l_201, l_240, l_300, l_320, l_400, l_500, l_550, l_560, l_649, l_650, l_1000, l_1400, l_2000, l_4000, l_10000, iN_add, iN_sub, iN_mul, iN_le_t, iN_le_f, iN_lt_t, iN_lt_f, iN_eq_f, inb_iN, ix_iN, isZ_0, isZ_1, ↓reduceIte, eq_self, place8, e1, e2, fndC_o, q2, meets_ok]
      · obtain ⟨t1, t2, t3⟩ := h.1.2.2.2.1 p hp
        rcases t2 with t2 | ⟨t2, mm, hpl⟩
        · refine pOK_found (f := 1) (by omega) h ?_ ?_
          · unfold f_X7_dish
            simp (disch := omega) only [chk_t, beq_self_eq_true, nm_s, bj1_s, bj2_s, bj3_s, mo_1, mo_0, l_0, l_1, l_2, l_3, l_4, l_5, l_6, l_7, l_8, l_9, l_10, l_11, l_12, l_13, l_14, l_15, l_16, l_17, l_18, l_19, l_20, l_21, l_30, l_31, l_32, l_36, l_40, l_41, l_42, l_43, l_44, l_45, l_46, l_47, l_48, l_49, l_50, l_51, l_52, l_57, l_58, l_60, l_64, l_72, l_80, l_92, l_98, l_99, l_100, l_102, l_105, l_111, l_112, l_114, l_115, l_116, l_117, l_120, l_144, l_200, l_201, l_240, l_300, l_320, l_400, l_500, l_550, l_560, l_649, l_650, l_1000, l_1400, l_2000, l_4000, l_10000, iN_add, iN_sub, iN_mul, iN_le_t, iN_le_f, iN_lt_t, iN_lt_f, iN_eq_f, inb_iN, ix_iN, isZ_0, isZ_1, ↓reduceIte, eq_self, c1, c2, kd_b ho1, kd_b ho2, q1, q2, t1, t2, found_ok]
          · unfold f_X8_dish
            simp (disch := omega) only [chk_t, beq_self_eq_true, nm_s, bj1_s, bj2_s, bj3_s, mo_1, mo_0, l_0, l_1, l_2, l_3, l_4, l_5, l_6, l_7, l_8, l_9, l_10, l_11, l_12, l_13, l_14, l_15, l_16, l_17, l_18, l_19, l_20, l_21, l_30, l_31, l_32, l_36, l_40, l_41, l_42, l_43, l_44, l_45, l_46, l_47, l_48, l_49, l_50, l_51, l_52, l_57, l_58, l_60, l_64, l_72, l_80, l_92, l_98, l_99, l_100, l_102, l_105, l_111, l_112, l_114, l_115, l_116, l_117, l_120, l_144, l_200, l_201, l_240, l_300, l_320, l_400, l_500, l_550, l_560, l_649, l_650, l_1000, l_1400, l_2000, l_4000, l_10000, iN_add, iN_sub, iN_mul, iN_le_t, iN_le_f, iN_lt_t, iN_lt_f, iN_eq_f, inb_iN, ix_iN, isZ_0, isZ_1, ↓reduceIte, eq_self, place8, e1, e2, fndC_o, q2, t2, meets_ok]
        · have hX1 := sl_X (P := PL p G) (D := DM 0 G) hsl
          have hX2 := cSl_X (P := PL p G) (D := DM 0 G) q3
          have hX3 := pl_X (E := lsS (SL s G) (DM 0 G)) hpl
          have hX4 := cPl_X (E := lsS (SL s G) (DM 0 G)) hpl.1 hpl.2.1 (t3 t2)
          have e5 : G.1 (75 + 4 * p) 5 = tkS (lpS (PL p G) (lsS (SL s G) (DM 0 G))) := hX4.2.1
          generalize hXe : lpS (PL p G) (lsS (SL s G) (DM 0 G)) = X at *
          obtain ⟨G1, G2, g1, g2, c5, f1, f2⟩ := beginP_ok kd5 ho1 (by omega) ho2 (by omega) hX1.1 hX2.2.1 hX2.2.2.2 hX3.1 hX3.2.1 hX4
          have eA : ∀ q, q < 5 ∨ 16 ≤ q → (sI G2 5 7 (iN 1)).1 q = G.1 q := fun q hq => by rw [sI_p (by omega), f2.1.1 q (by omega), f1.1.1 q (by omega)]
          have cA : cD 5 (bgS X) (sI G2 5 7 (iN 1)) := by
            intro d j hc
            rw [← c5 d j hc]
            by_cases cc : d = 0
            · subst cc
              exact sI_j (by unfold cok at hc; omega)
            · rw [sI_p (by omega)]
          have A7 : (sI G2 5 7 (iN 1)).1 5 7 = iN 1 := sI_eq
          have A2 : (sI G2 5 7 (iN 1)).2 = G.2 := f2.1.2.trans f1.1.2
          have hC : f_X7_dish (iN s) (iN p) G = some (tkS X, sI G2 5 7 (iN 1)) := by
            have x1 : G.1 (71 + s) 1 = iN n := hX2.1.trans hX1.1.1
            have x3 : G.1 (71 + s) 3 = X 2 := hX2.2.2.1
            have x5 : G2.1 (75 + 4 * p) 5 = tkS X := by rw [f2.1.1 _ (by omega), f1.1.1 _ (by omega)]; exact e5
            unfold f_X7_dish
            simp (disch := omega) only [chk_t, beq_self_eq_true, nm_s, bj1_s, bj2_s, bj3_s, mo_1, mo_0, l_0, l_1, l_2, l_3, l_4, l_5, l_6, l_7, l_8, l_9, l_10, l_11, l_12, l_13, l_14, l_15, l_16, l_17, l_18, l_19, l_20, l_21, l_30, l_31, l_32, l_36, l_40, l_41, l_42, l_43, l_44, l_45, l_46, l_47, l_48, l_49, l_50, l_51, l_52, l_57, l_58, l_60, l_64, l_72, l_80, l_92, l_98, l_99, l_100, l_102, l_105, l_111, l_112, l_114, l_115, l_116, l_117, l_120, l_144, l_200, l_201, l_240, l_300, l_320, l_400, l_500, l_550, l_560, l_649, l_650, l_1000, l_1400, l_2000, l_4000, l_10000, iN_add, iN_sub, iN_mul, iN_le_t, iN_le_f, iN_lt_t, iN_lt_f, iN_eq_f, inb_iN, ix_iN, isZ_0, isZ_1, ↓reduceIte, eq_self, c1, c2, kd_b ho1, kd_b ho2, q1, q2, t1, t2, x1, x3, g1, g2, sI_p, x5]
          generalize sI G2 5 7 (iN 1) = A at *
          have eD : DM 0 A = DM 0 G := DM_of (eA 139 (by omega))
          have eS : SL s (LG 0 A) = SL s G := SL_fr (by rw [LG_o (by omega), eA 132 (by omega)])
          have eP : PL p (LG 0 A) = PL p G := PL_fr (by rw [LG_o (by omega), eA 134 (by omega)]) (by rw [LG_o (by omega), eA 135 (by omega)])
          have hb0 := bM_LG (m := 0) (G := A) (by omega)
          have m1 := laySlab_ok (D := DM 0 G) (W := WM A) hb0 hs
          have eL := LG_eta 0 A
          rw [eD] at eL
          rw [← eL, eS] at m1
          have m2 := layPlan_ok (D := lsS (SL s G) (DM 0 G)) (W := WM A) hb0 hp
          rw [eP, hXe] at m2
          have m3 := mbegins_ok (D := X) (W := WM A) hb0 hX1.1
          have hb1 : bM 0 (sI (LG 0 A) 138 0 (iN 1)) := ⟨hb0.1, by rw [sI_p (by omega)]; exact hb0.2⟩
          have m4 := mticks_ok (D := bgS X) (W := WM A) hb1 ((bg_lo (by omega)).trans hX3.1) hX3.2.1
          rw [tk_bg hX3.1 hX3.2.1] at m4
          have eB : ∀ q, q ≠ 124 → q ≠ 138 → q ≠ 139 → q ≠ 140 → (stM 0 (bgS X) (WM A) (sI (LG 0 A) 138 0 (iN 1))).1 q = A.1 q := fun q h1 h2 h3 h4 => by rw [stM_o1 h3 h4, sI_p h2, LG_o h1]
          have dB : DM 0 (stM 0 (bgS X) (WM A) (sI (LG 0 A) 138 0 (iN 1))) = bgS X := DM_st _ _ _ _
          refine ⟨tkS X, A, stM 0 (bgS X) (WM A) (sI (LG 0 A) 138 0 (iN 1)), hC, ?_, ?_⟩
          · have a1 : A.1 131 s = iN 1 := by rw [eA 131 (by omega)]; exact q2
            have a3 : A.1 133 p = iN 1 := by rw [eA 133 (by omega)]; exact t2
            unfold f_X8_dish
            simp (disch := omega) only [chk_t, beq_self_eq_true, nm_s, bj1_s, bj2_s, bj3_s, mo_1, mo_0, l_0, l_1, l_2, l_3, l_4, l_5, l_6, l_7, l_8, l_9, l_10, l_11, l_12, l_13, l_14, l_15, l_16, l_17, l_18, l_19, l_20, l_21, l_30, l_31, l_32, l_36, l_40, l_41, l_42, l_43, l_44, l_45, l_46, l_47, l_48, l_49, l_50, l_51, l_52, l_57, l_58, l_60, l_64, l_72, l_80, l_92, l_98, l_99, l_100, l_102, l_105, l_111, l_112, l_114, l_115, l_116, l_117, l_120, l_144, l_200, l_201, l_240, l_300, l_320, l_400, l_500, l_550, l_560, l_649, l_650, l_1000, l_1400, l_2000, l_4000, l_10000, iN_add, iN_sub, iN_mul, iN_le_t, iN_le_f, iN_lt_t, iN_lt_f, iN_eq_f, inb_iN, ix_iN, isZ_0, isZ_1, ↓reduceIte, eq_self, place8, e1, e2, a1, a3, look_ok, m1, m2, m3, st_sI, m4]
          · refine RR_5 h ?_ (fun q hq => by rw [eB q (by omega) (by omega) (by omega) (by omega), eA q (by omega)]) (by rw [eB 0 (by omega) (by omega) (by omega) (by omega), eA 0 (by omega)]) (by rw [stM_o (by omega) (by omega), sI_p (by omega), LG_j (by omega), eA 124 (by omega)]) A2 (by rw [eB 0 (by omega) (by omega) (by omega) (by omega), eA 0 (by omega), stM_o (by omega) (by omega), sI_p (by omega), LG_j (by omega), eA 124 (by omega)]; exact h.2)
            refine R5_upd (k0 := 0) h.1.2.2.2.2.1 ?_ ?_ ⟨n, mm, by rw [dB]; exact gD_bg hX1 hX3, by rw [dB]; exact ⟨fun e => by rw [bg_41 (by omega) (by omega)] at e; exact absurd e (by decide), Or.inl (bg_41 (by omega) (by omega))⟩, ?_⟩ (fun k hk hk0 => ?_)
            · show (stM 0 (bgS X) (WM A) (sI (LG 0 A) 138 0 (iN 1))).1 5 7 = _
              rw [eB 5 (by omega) (by omega) (by omega) (by omega)]
              exact A7
            · rw [stM_o (by omega) (by omega), sI_eq]
            · rw [dB]
              exact cD_fr cA (fun q h1 h2 => by
                have h1 : 5 ≤ q := h1
                have h2 : q < 16 := h2
                exact eB q (by omega) (by omega) (by omega) (by omega))
            · have hd := dp_r hk
              refine ⟨fun q h1 h2 => by rw [eB q (by omega) (by omega) (by omega) (by omega), eA q (by omega)], by rw [stM_o (by omega) (by omega), sI_j hk0, LG_o (by omega), eA 138 (by omega)], fun q hq => ?_⟩
              have := DM_far (m := 0) (k := k) (p := q) (D := bgS X) (W := WM A) (G := sI (LG 0 A) 138 0 (iN 1))
              rw [show 0 + k = k by omega] at this
              rw [this, bg_hi (by omega), ← hXe, lp_hi (by omega), ls_hi (by omega)]
              unfold DM
              rw [show 112 * 0 + (112 * k + q) = 112 * k + q by omega]
theorem isZ_N1 : isZ (iN 1) = true := isZ_1
theorem op_keep (a1 : Int32) {G : G_} (h : RR G) : pOK (f_X7_keep a1) (f_X8_keep a1) G := by
  rcases kept_cases a1 G with ⟨e1, c1⟩ | ⟨k, hk, rfl, e1, c1, ho⟩
  · refine pOK_same (x := -iN 1) h ?_ ?_
    · unfold f_X7_keep
      simp (disch := omega) only [chk_t, beq_self_eq_true, nm_s, bj1_s, bj2_s, bj3_s, mo_1, mo_0, l_0, l_1, l_2, l_3, l_4, l_5, l_6, l_7, l_8, l_9, l_10, l_11, l_12, l_13, l_14, l_15, l_16, l_17, l_18, l_19, l_20, l_21, l_30, l_31, l_32, l_36, l_40, l_41, l_42, l_43, l_44, l_45, l_46, l_47, l_48, l_49, l_50, l_51, l_52, l_57, l_58, l_60, l_64, l_72, l_80, l_92, l_98, l_99, l_100, l_102, l_105, l_111, l_112, l_114, l_115, l_116, l_117, l_120, l_144, l_200, l_201, l_240, l_300, l_320, l_400, l_500, l_550, l_560, l_649, l_650, l_1000, l_1400, l_2000, l_4000, l_10000, iN_add, iN_sub, iN_mul, iN_le_t, iN_le_f, iN_lt_t, iN_lt_f, iN_eq_f, inb_iN, ix_iN, isZ_0, isZ_1, ↓reduceIte, eq_self, c1]
    · unfold f_X8_keep
      simp (disch := omega) only [chk_t, beq_self_eq_true, nm_s, bj1_s, bj2_s, bj3_s, mo_1, mo_0, l_0, l_1, l_2, l_3, l_4, l_5, l_6, l_7, l_8, l_9, l_10, l_11, l_12, l_13, l_14, l_15, l_16, l_17, l_18, l_19, l_20, l_21, l_30, l_31, l_32, l_36, l_40, l_41, l_42, l_43, l_44, l_45, l_46, l_47, l_48, l_49, l_50, l_51, l_52, l_57, l_58, l_60, l_64, l_72, l_80, l_92, l_98, l_99, l_100, l_102, l_105, l_111, l_112, l_114, l_115, l_116, l_117, l_120, l_144, l_200, l_201, l_240, l_300, l_320, l_400, l_500, l_550, l_560, l_649, l_650, l_1000, l_1400, l_2000, l_4000, l_10000, iN_add, iN_sub, iN_mul, iN_le_t, iN_le_f, iN_lt_t, iN_lt_f, iN_eq_f, inb_iN, ix_iN, isZ_0, isZ_1, ↓reduceIte, eq_self, in8, e1]
  · obtain ⟨r1, r2⟩ := dish0 h.1
    rcases r2 with r2 | ⟨r2, n, mm, hg, hu, hcd⟩
    · refine pOK_same (x := -iN 4) h ?_ ?_
      · unfold f_X7_keep
        simp (disch := omega) only [chk_t, beq_self_eq_true, nm_s, bj1_s, bj2_s, bj3_s, mo_1, mo_0, l_0, l_1, l_2, l_3, l_4, l_5, l_6, l_7, l_8, l_9, l_10, l_11, l_12, l_13, l_14, l_15, l_16, l_17, l_18, l_19, l_20, l_21, l_30, l_31, l_32, l_36, l_40, l_41, l_42, l_43, l_44, l_45, l_46, l_47, l_48, l_49, l_50, l_51, l_52, l_57, l_58, l_60, l_64, l_72, l_80, l_92, l_98, l_99, l_100, l_102, l_105, l_111, l_112, l_114, l_115, l_116, l_117, l_120, l_144, l_200, l_201, l_240, l_300, l_320, l_400, l_500, l_550, l_560, l_649, l_650, l_1000, l_1400, l_2000, l_4000, l_10000, iN_add, iN_sub, iN_mul, iN_le_t, iN_le_f, iN_lt_t, iN_lt_f, iN_eq_f, inb_iN, ix_iN, isZ_0, isZ_1, ↓reduceIte, eq_self, c1, kd_b ho, r1, r2]
      · unfold f_X8_keep
        simp (disch := omega) only [chk_t, beq_self_eq_true, nm_s, bj1_s, bj2_s, bj3_s, mo_1, mo_0, l_0, l_1, l_2, l_3, l_4, l_5, l_6, l_7, l_8, l_9, l_10, l_11, l_12, l_13, l_14, l_15, l_16, l_17, l_18, l_19, l_20, l_21, l_30, l_31, l_32, l_36, l_40, l_41, l_42, l_43, l_44, l_45, l_46, l_47, l_48, l_49, l_50, l_51, l_52, l_57, l_58, l_60, l_64, l_72, l_80, l_92, l_98, l_99, l_100, l_102, l_105, l_111, l_112, l_114, l_115, l_116, l_117, l_120, l_144, l_200, l_201, l_240, l_300, l_320, l_400, l_500, l_550, l_560, l_649, l_650, l_1000, l_1400, l_2000, l_4000, l_10000, iN_add, iN_sub, iN_mul, iN_le_t, iN_le_f, iN_lt_t, iN_lt_f, iN_eq_f, inb_iN, ix_iN, isZ_0, isZ_1, ↓reduceIte, eq_self, in8, e1, r2]
    · obtain ⟨at_, g, hp⟩ := hg.2
      have r7 : G.1 5 7 = iN 1 := r1.trans r2
      obtain ⟨A, hA, cA, fA, A7⟩ := become_ok (o := 91 + 11 * k) (a := 5) ho kd5 (by omega) hg.1.1 hp.1 hp.2.1 (by rw [r7]; exact isZ_1) hcd
      have eA : ∀ q, q < 91 + 11 * k ∨ 91 + 11 * k + 11 ≤ q → A.1 q = G.1 q := fun q hq => fA.1 q hq
      have eD : ∀ m, DM m A = DM m G := fun m => DM_of (eA 139 (by omega))
      have a12 : A.1 5 12 = DM 0 G 43 := by rw [eA 5 (by omega)]; exact c_12 hcd
      have m1 := copyDish_ok (a := 0) (b := 1 + k) (G := A) (by omega) (by omega) (by omega)
      rw [eD 0, eD (1 + k)] at m1
      have dB : ∀ m p, DM m (LG 0 (stM (1 + k) (cpS (DM 0 G) (DM (1 + k) G)) (WM A) (sI A 138 (1 + k) (iN 1)))) p = DM m (stM (1 + k) (cpS (DM 0 G) (DM (1 + k) G)) (WM A) (sI A 138 (1 + k) (iN 1))) p := fun m p => by rw [DM_LG]
      have eB : ∀ q, q ≠ 124 → q ≠ 138 → q ≠ 139 → q ≠ 140 → (LG 0 (stM (1 + k) (cpS (DM 0 G) (DM (1 + k) G)) (WM A) (sI A 138 (1 + k) (iN 1)))).1 q = A.1 q := fun q h1 h2 h3 h4 => by rw [LG_o h1, stM_o1 h3 h4, sI_p h2]
      have B138 : ∀ j, (LG 0 (stM (1 + k) (cpS (DM 0 G) (DM (1 + k) G)) (WM A) (sI A 138 (1 + k) (iN 1)))).1 138 j = if j = 1 + k then iN 1 else G.1 138 j := by
        intro j
        rw [LG_o (by omega), stM_o (by omega) (by omega)]
        by_cases c : j = 1 + k
        · rw [if_pos c, c, sI_eq]
        · rw [if_neg c, sI_j c, eA 138 (by omega)]
      have B43 : DM 0 (stM (1 + k) (cpS (DM 0 G) (DM (1 + k) G)) (WM A) (sI A 138 (1 + k) (iN 1))) 43 = DM 0 G 43 := by
        rw [DM_low (by omega) (by omega), DM_of (sI_p (by omega)), eD]
      refine ⟨DM 0 G 43, A, LG 0 (stM (1 + k) (cpS (DM 0 G) (DM (1 + k) G)) (WM A) (sI A 138 (1 + k) (iN 1))), ?_, ?_, ?_⟩
      · unfold f_X7_keep
        simp (disch := omega) only [chk_t, beq_self_eq_true, nm_s, bj1_s, bj2_s, bj3_s, mo_1, mo_0, l_0, l_1, l_2, l_3, l_4, l_5, l_6, l_7, l_8, l_9, l_10, l_11, l_12, l_13, l_14, l_15, l_16, l_17, l_18, l_19, l_20, l_21, l_30, l_31, l_32, l_36, l_40, l_41, l_42, l_43, l_44, l_45, l_46, l_47, l_48, l_49, l_50, l_51, l_52, l_57, l_58, l_60, l_64, l_72, l_80, l_92, l_98, l_99, l_100, l_102, l_105, l_111, l_112, l_114, l_115, l_116, l_117, l_120, l_144, l_200, l_201, l_240, l_300, l_320, l_400, l_500, l_550, l_560, l_649, l_650, l_1000, l_1400, l_2000, l_4000, l_10000, iN_add, iN_sub, iN_mul, iN_le_t, iN_le_f, iN_lt_t, iN_lt_f, iN_eq_f, inb_iN, ix_iN, isZ_0, isZ_1, ↓reduceIte, eq_self, c1, kd_b ho, r7, hA, a12]
      · have a138 : A.1 138 0 = iN 1 := by rw [eA 138 (by omega)]; exact r2
        unfold f_X8_keep
        simp (disch := omega) only [chk_t, beq_self_eq_true, nm_s, bj1_s, bj2_s, bj3_s, mo_1, mo_0, l_0, l_1, l_2, l_3, l_4, l_5, l_6, l_7, l_8, l_9, l_10, l_11, l_12, l_13, l_14, l_15, l_16, l_17, l_18, l_19, l_20, l_21, l_30, l_31, l_32, l_36, l_40, l_41, l_42, l_43, l_44, l_45, l_46, l_47, l_48, l_49, l_50, l_51, l_52, l_57, l_58, l_60, l_64, l_72, l_80, l_92, l_98, l_99, l_100, l_102, l_105, l_111, l_112, l_114, l_115, l_116, l_117, l_120, l_144, l_200, l_201, l_240, l_300, l_320, l_400, l_500, l_550, l_560, l_649, l_650, l_1000, l_1400, l_2000, l_4000, l_10000, iN_add, iN_sub, iN_mul, iN_le_t, iN_le_f, iN_lt_t, iN_lt_f, iN_eq_f, inb_iN, ix_iN, isZ_0, isZ_1, ↓reduceIte, eq_self, in8, e1, a138, m1, st_sI, look_ok, v_LG, B43]
      · have e124 : ∀ j, j ≠ 23 → (LG 0 (stM (1 + k) (cpS (DM 0 G) (DM (1 + k) G)) (WM A) (sI A 138 (1 + k) (iN 1)))).1 124 j = G.1 124 j := fun j hj => by rw [LG_j hj, stM_o (by omega) (by omega), sI_p (by omega), eA 124 (by omega)]
        refine RR_5 h ?_ (fun q hq => by rw [eB q (by omega) (by omega) (by omega) (by omega), eA q (by omega)]) (by rw [eB 0 (by omega) (by omega) (by omega) (by omega), eA 0 (by omega)]) (e124 0 (by omega)) (by rw [LG_2, stM_j, sI_2, fA.2]) (by rw [eB 0 (by omega) (by omega) (by omega) (by omega), eA 0 (by omega), e124 2 (by omega)]; exact h.2)
        have hdp : dp (1 + k) = 91 + 11 * k := by unfold dp; rw [if_neg (by omega)]; omega
        have cg : ∀ p, p < 112 → DM (1 + k) (LG 0 (stM (1 + k) (cpS (DM 0 G) (DM (1 + k) G)) (WM A) (sI A 138 (1 + k) (iN 1)))) p = DM 0 G p := fun p hp => by
          rw [dB, DM_st]
          exact spD_in (by omega) hp
        refine R5_upd (k0 := 1 + k) h.1.2.2.2.2.1 ?_ ?_ ⟨n, mm, gD_cg hg cg, upOK_cg hu cg, ?_⟩ (fun j hj hj0 => ?_)
        · rw [hdp, eB _ (by omega) (by omega) (by omega) (by omega), A7]
          exact r7
        · rw [B138, if_pos rfl]
        · rw [hdp]
          exact cD_cg (cD_fr cA (fun q h1 h2 => eB q (by omega) (by omega) (by omega) (by omega))) (dz_g hg) cg
        · have hd := dp_r hj
          refine ⟨fun q h1 h2 => by rw [eB q (by omega) (by omega) (by omega) (by omega), eA q (by omega)], by rw [B138, if_neg hj0], fun p hp => ?_⟩
          rw [dB]
          by_cases c : j < 1 + k
          · rw [DM_low c hp, DM_of (sI_p (by omega)), eD]
          · obtain ⟨i, rfl⟩ : ∃ i, j = 1 + k + i := ⟨j - (1 + k), by omega⟩
            rw [DM_far]
            show spD (DM (1 + k) G) 0 112 (DM 0 G) (112 * i + p) = _
            rw [spD_out (by omega)]
            unfold DM
            rw [show 112 * (1 + k) + (112 * i + p) = 112 * (1 + k + i) + p by omega]
theorem op_on (a1 : Int32) {G : G_} (h : RR G) : pOK (f_X7_on a1) (f_X8_on a1) G := by
  rcases kept_cases a1 G with ⟨e1, c1⟩ | ⟨k, hk, rfl, e1, c1, ho⟩
  · refine pOK_same (x := -iN 1) h ?_ ?_
    · unfold f_X7_on
      simp (disch := omega) only [chk_t, beq_self_eq_true, nm_s, bj1_s, bj2_s, bj3_s, mo_1, mo_0, l_0, l_1, l_2, l_3, l_4, l_5, l_6, l_7, l_8, l_9, l_10, l_11, l_12, l_13, l_14, l_15, l_16, l_17, l_18, l_19, l_20, l_21, l_30, l_31, l_32, l_36, l_40, l_41, l_42, l_43, l_44, l_45, l_46, l_47, l_48, l_49, l_50, l_51, l_52, l_57, l_58, l_60, l_64, l_72, l_80, l_92, l_98, l_99, l_100, l_102, l_105, l_111, l_112, l_114, l_115, l_116, l_117, l_120, l_144, l_200, l_201, l_240, l_300, l_320, l_400, l_500, l_550, l_560, l_649, l_650, l_1000, l_1400, l_2000, l_4000, l_10000, iN_add, iN_sub, iN_mul, iN_le_t, iN_le_f, iN_lt_t, iN_lt_f, iN_eq_f, inb_iN, ix_iN, isZ_0, isZ_1, ↓reduceIte, eq_self, c1]
    · unfold f_X8_on
      simp (disch := omega) only [chk_t, beq_self_eq_true, nm_s, bj1_s, bj2_s, bj3_s, mo_1, mo_0, l_0, l_1, l_2, l_3, l_4, l_5, l_6, l_7, l_8, l_9, l_10, l_11, l_12, l_13, l_14, l_15, l_16, l_17, l_18, l_19, l_20, l_21, l_30, l_31, l_32, l_36, l_40, l_41, l_42, l_43, l_44, l_45, l_46, l_47, l_48, l_49, l_50, l_51, l_52, l_57, l_58, l_60, l_64, l_72, l_80, l_92, l_98, l_99, l_100, l_102, l_105, l_111, l_112, l_114, l_115, l_116, l_117, l_120, l_144, l_200, l_201, l_240, l_300, l_320, l_400, l_500, l_550, l_560, l_649, l_650, l_1000, l_1400, l_2000, l_4000, l_10000, iN_add, iN_sub, iN_mul, iN_le_t, iN_le_f, iN_lt_t, iN_lt_f, iN_eq_f, inb_iN, ix_iN, isZ_0, isZ_1, ↓reduceIte, eq_self, in8, e1]
  · have hdp : dp (1 + k) = 91 + 11 * k := by unfold dp; rw [if_neg (by omega)]; omega
    obtain ⟨r1, r2⟩ := h.1.2.2.2.2.1 (1 + k) (by omega)
    rw [hdp] at r1 r2
    rcases r2 with r2 | ⟨r2, n, mm, hg, hu, hcd⟩
    · refine pOK_found (f := 1) (by omega) h ?_ ?_
      · unfold f_X7_on
        simp (disch := omega) only [chk_t, beq_self_eq_true, nm_s, bj1_s, bj2_s, bj3_s, mo_1, mo_0, l_0, l_1, l_2, l_3, l_4, l_5, l_6, l_7, l_8, l_9, l_10, l_11, l_12, l_13, l_14, l_15, l_16, l_17, l_18, l_19, l_20, l_21, l_30, l_31, l_32, l_36, l_40, l_41, l_42, l_43, l_44, l_45, l_46, l_47, l_48, l_49, l_50, l_51, l_52, l_57, l_58, l_60, l_64, l_72, l_80, l_92, l_98, l_99, l_100, l_102, l_105, l_111, l_112, l_114, l_115, l_116, l_117, l_120, l_144, l_200, l_201, l_240, l_300, l_320, l_400, l_500, l_550, l_560, l_649, l_650, l_1000, l_1400, l_2000, l_4000, l_10000, iN_add, iN_sub, iN_mul, iN_le_t, iN_le_f, iN_lt_t, iN_lt_f, iN_eq_f, inb_iN, ix_iN, isZ_0, isZ_1, ↓reduceIte, eq_self, c1, kd_b ho, r1, r2, found_ok]
      · unfold f_X8_on
        simp (disch := omega) only [chk_t, beq_self_eq_true, nm_s, bj1_s, bj2_s, bj3_s, mo_1, mo_0, l_0, l_1, l_2, l_3, l_4, l_5, l_6, l_7, l_8, l_9, l_10, l_11, l_12, l_13, l_14, l_15, l_16, l_17, l_18, l_19, l_20, l_21, l_30, l_31, l_32, l_36, l_40, l_41, l_42, l_43, l_44, l_45, l_46, l_47, l_48, l_49, l_50, l_51, l_52, l_57, l_58, l_60, l_64, l_72, l_80, l_92, l_98, l_99, l_100, l_102, l_105, l_111, l_112, l_114, l_115, l_116, l_117, l_120, l_144, l_200, l_201, l_240, l_300, l_320, l_400, l_500, l_550, l_560, l_649, l_650, l_1000, l_1400, l_2000, l_4000, l_10000, iN_add, iN_sub, iN_mul, iN_le_t, iN_le_f, iN_lt_t, iN_lt_f, iN_eq_f, inb_iN, ix_iN, isZ_0, isZ_1, ↓reduceIte, eq_self, in8, e1, fndC_o, r2, meets_ok]
    · obtain ⟨at_, g, hp⟩ := hg.2
      have r7 : G.1 (91 + 11 * k) 7 = iN 1 := r1.trans r2
      obtain ⟨A, hA, cA, fA, A7⟩ := become_ok (o := 5) (a := 91 + 11 * k) kd5 ho (by omega) hg.1.1 hp.1 hp.2.1 (by rw [r7]; exact isZ_1) hcd
      have eA : ∀ q, q < 5 ∨ 16 ≤ q → A.1 q = G.1 q := fun q hq => fA.1 q (by omega)
      have eD : ∀ m, DM m A = DM m G := fun m => DM_of (eA 139 (by omega))
      have a12 : A.1 5 12 = DM (1 + k) G 43 := c_12 cA
      have m1 := copyDish_ok (a := 1 + k) (b := 0) (G := A) (by omega) (by omega) (by omega)
      rw [eD 0, eD (1 + k)] at m1
      have dB : ∀ m p, DM m (LG 0 (stM 0 (cpS (DM (1 + k) G) (DM 0 G)) (WM A) (sI A 138 0 (iN 1)))) p = DM m (stM 0 (cpS (DM (1 + k) G) (DM 0 G)) (WM A) (sI A 138 0 (iN 1))) p := fun m p => by rw [DM_LG]
      have eB : ∀ q, q ≠ 124 → q ≠ 138 → q ≠ 139 → q ≠ 140 → (LG 0 (stM 0 (cpS (DM (1 + k) G) (DM 0 G)) (WM A) (sI A 138 0 (iN 1)))).1 q = A.1 q := fun q h1 h2 h3 h4 => by rw [LG_o h1, stM_o1 h3 h4, sI_p h2]
      have B138 : ∀ j, (LG 0 (stM 0 (cpS (DM (1 + k) G) (DM 0 G)) (WM A) (sI A 138 0 (iN 1)))).1 138 j = if j = 0 then iN 1 else G.1 138 j := by
        intro j
        rw [LG_o (by omega), stM_o (by omega) (by omega)]
        by_cases c : j = 0
        · rw [if_pos c, c, sI_eq]
        · rw [if_neg c, sI_j c, eA 138 (by omega)]
      have cg : ∀ p, p < 112 → DM 0 (LG 0 (stM 0 (cpS (DM (1 + k) G) (DM 0 G)) (WM A) (sI A 138 0 (iN 1)))) p = DM (1 + k) G p := fun p hp => by
        rw [dB, DM_st]
        exact spD_in (by omega) hp
      have B43 : DM 0 (stM 0 (cpS (DM (1 + k) G) (DM 0 G)) (WM A) (sI A 138 0 (iN 1))) 43 = DM (1 + k) G 43 := by
        rw [← dB, cg 43 (by omega)]
      refine ⟨DM (1 + k) G 43, A, LG 0 (stM 0 (cpS (DM (1 + k) G) (DM 0 G)) (WM A) (sI A 138 0 (iN 1))), ?_, ?_, ?_⟩
      · unfold f_X7_on
        simp (disch := omega) only [chk_t, beq_self_eq_true, nm_s, bj1_s, bj2_s, bj3_s, mo_1, mo_0, l_0, l_1, l_2, l_3, l_4, l_5, l_6, l_7, l_8, l_9, l_10, l_11, l_12, l_13, l_14, l_15, l_16, l_17, l_18, l_19, l_20, l_21, l_30, l_31, l_32, l_36, l_40, l_41, l_42, l_43, l_44, l_45, l_46, l_47, l_48, l_49, l_50, l_51, l_52, l_57, l_58, l_60, l_64, l_72, l_80, l_92, l_98, l_99, l_100, l_102, l_105, l_111, l_112, l_114, l_115, l_116, l_117, l_120, l_144, l_200, l_201, l_240, l_300, l_320, l_400, l_500, l_550, l_560, l_649, l_650, l_1000, l_1400, l_2000, l_4000, l_10000, iN_add, iN_sub, iN_mul, iN_le_t, iN_le_f, iN_lt_t, iN_lt_f, iN_eq_f, inb_iN, ix_iN, isZ_0, isZ_1, ↓reduceIte, eq_self, c1, kd_b ho, r7, hA, a12]
      · have a138 : A.1 138 (1 + k) = iN 1 := by rw [eA 138 (by omega)]; exact r2
        unfold f_X8_on
        simp (disch := omega) only [chk_t, beq_self_eq_true, nm_s, bj1_s, bj2_s, bj3_s, mo_1, mo_0, l_0, l_1, l_2, l_3, l_4, l_5, l_6, l_7, l_8, l_9, l_10, l_11, l_12, l_13, l_14, l_15, l_16, l_17, l_18, l_19, l_20, l_21, l_30, l_31, l_32, l_36, l_40, l_41, l_42, l_43, l_44, l_45, l_46, l_47, l_48, l_49, l_50, l_51, l_52, l_57, l_58, l_60, l_64, l_72, l_80, l_92, l_98, l_99, l_100, l_102, l_105, l_111, l_112, l_114, l_115, l_116, l_117, l_120, l_144, l_200, l_201, l_240, l_300, l_320, l_400, l_500, l_550, l_560, l_649, l_650, l_1000, l_1400, l_2000, l_4000, l_10000, iN_add, iN_sub, iN_mul, iN_le_t, iN_le_f, iN_lt_t, iN_lt_f, iN_eq_f, inb_iN, ix_iN, isZ_0, isZ_1, ↓reduceIte, eq_self, in8, e1, a138, m1, st_sI, look_ok, v_LG, B43]
      · have e124 : ∀ j, j ≠ 23 → (LG 0 (stM 0 (cpS (DM (1 + k) G) (DM 0 G)) (WM A) (sI A 138 0 (iN 1)))).1 124 j = G.1 124 j := fun j hj => by rw [LG_j hj, stM_o (by omega) (by omega), sI_p (by omega), eA 124 (by omega)]
        refine RR_5 h ?_ (fun q hq => by rw [eB q (by omega) (by omega) (by omega) (by omega), eA q (by omega)]) (by rw [eB 0 (by omega) (by omega) (by omega) (by omega), eA 0 (by omega)]) (e124 0 (by omega)) (by rw [LG_2, stM_j, sI_2, fA.2]) (by rw [eB 0 (by omega) (by omega) (by omega) (by omega), eA 0 (by omega), e124 2 (by omega)]; exact h.2)
        refine R5_upd (k0 := 0) h.1.2.2.2.2.1 ?_ ?_ ⟨n, mm, gD_cg hg cg, upOK_cg hu cg, ?_⟩ (fun j hj hj0 => ?_)
        · show (LG 0 (stM 0 (cpS (DM (1 + k) G) (DM 0 G)) (WM A) (sI A 138 0 (iN 1)))).1 5 7 = _
          rw [eB _ (by omega) (by omega) (by omega) (by omega), A7]
          exact r7
        · rw [B138, if_pos rfl]
        · exact cD_cg (cD_fr cA (fun q h1 h2 => by
            have h1 : 5 ≤ q := h1
            have h2 : q < 16 := h2
            exact eB q (by omega) (by omega) (by omega) (by omega))) (dz_g hg) cg
        · have hd := dp_r hj
          refine ⟨fun q h1 h2 => by rw [eB q (by omega) (by omega) (by omega) (by omega), eA q (by omega)], by rw [B138, if_neg hj0], fun p hp => ?_⟩
          rw [dB]
          have := DM_far (m := 0) (k := j) (p := p) (D := cpS (DM (1 + k) G) (DM 0 G)) (W := WM A) (G := sI A 138 0 (iN 1))
          rw [show 0 + j = j by omega] at this
          rw [this]
          show spD (DM 0 G) 0 112 (DM (1 + k) G) (112 * j + p) = _
          rw [spD_out (by omega)]
          unfold DM
          rw [show 112 * 0 + (112 * j + p) = 112 * j + p by omega]

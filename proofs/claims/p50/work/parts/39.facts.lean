/-! how far a plan has gone -/
theorem plD_u {D : Nat → Int32} {mm a g a' g' : Nat} (h : plD D mm a g) (h' : plD D mm a' g') : a = a' ∧ g = g' := by
  have b : g ≤ 60 := by
    rcases h.2.2.2.2.2.2 with c | ⟨-, x, y, -, -, -, c, d⟩ <;> omega
  have b' : g' ≤ 60 := by
    rcases h'.2.2.2.2.2.2 with c | ⟨-, x, y, -, -, -, c, d⟩ <;> omega
  have h1 := h.2.1
  have h2 := h.2.2.2.1
  have h3 := h'.2.2.2.1
  exact ⟨(iN_inj (by omega) (by omega)).mp (h.2.2.1.symm.trans h'.2.2.1), (iN_inj (by omega) (by omega)).mp (h.2.2.2.2.1.symm.trans h'.2.2.2.2.1)⟩
theorem once_ts {s : Nat → Nat × Nat × Nat} {mm : Nat} (hs : ∀ i, stg (s i)) : ∀ (f : Nat) (D : Nat → Int32) (at_ g : Nat), plD D mm at_ g → (∀ i, i < mm → D (5 + 3 * i) = iN (s i).1) → ∃ at', plD (onceS f D) mm at' g ∧ tsN s at' = tsN s at_ := by
  intro f
  induction f with
  | zero => exact fun D at_ g h _ => ⟨at_, h, rfl⟩
  | succ f ih =>
    intro D at_ g h hk
    have hm := h.2.1
    unfold onceS
    rcases pl_cases h with ⟨c, c2⟩ | ⟨c, c2, a, e1, e2, a1, a6⟩
    · rw [if_pos (of_eq_true c2)]
      exact ⟨at_, h, rfl⟩
    · rw [if_neg (of_eq_false c2), e1]
      by_cases c4 : a ≤ 4
      · rw [if_pos ((iN_le (by omega) (by omega)).mpr c4)]
        exact ⟨at_, h, rfl⟩
      · rw [if_neg (fun e => c4 ((iN_le (by omega) (by omega)).mp e))]
        obtain ⟨h1, -⟩ := plD_onc1 h c e2 (by omega) a6
        obtain ⟨at', h2, h3⟩ := ih (onc1 D) (at_ + 1) g h1 (fun i hi => by rw [onc1_p (by omega) (by omega) (by omega) (by omega)]; exact hk i hi)
        refine ⟨at', h2, h3.trans ?_⟩
        have sg := hs at_
        have ea : a = (s at_).1 := (iN_inj (by omega) (by have := sg.2.1; omega)).mp (e2.symm.trans (hk at_ c))
        show tsN s at_ + (s at_).2.2 = _
        rw [sg.2.2.2.2.2 (by omega)]
        rfl
def PG (s : Nat → Nat × Nat × Nat) (mm k : Nat) (D : Nat → Int32) : Prop := ∃ at_ g, plD D mm at_ g ∧ tsN s at_ + g = k
theorem PG_go {s : Nat → Nat × Nat × Nat} {n mm k : Nat} {D : Nat → Int32} (hs : ∀ i, stg (s i)) (hg : gD D n mm) (hk : ∀ i, i < mm → D (5 + 3 * i) = iN (s i).1 ∧ D (5 + 3 * i + 2) = iN (s i).2.2) (h : PG s mm k D) (hlt : k < tsN s mm) : PG s mm (k + 1) (go1 D) := by
  obtain ⟨at_, g, hp, hs1⟩ := h
  obtain ⟨at', hp', ht⟩ := once_ts hs 12 D at_ g hp (fun i hi => (hk i hi).1)
  obtain ⟨at3, g3, hp3⟩ := (gD_go1 hg).2
  obtain ⟨E, a2, g2, eE, hw, hpE, hm, ⟨c, e, -⟩ | ⟨c, a, b, c', h1, h2, h3, h4, h5, h6, h7, h8, -, e⟩⟩ := go1_cases hg
  · subst eE
    obtain ⟨u1, u2⟩ := plD_u hp' hpE
    rcases hp'.2.2.2.2.2.2 with c0 | ⟨c1, -⟩
    · subst u1 c
      omega
    · omega
  · subst eE
    obtain ⟨u1, u2⟩ := plD_u hp' hpE
    subst u1 u2
    have hc : c' = (s at').2.2 := by
      have k1 := (hk at' c).2
      rw [once_p (by omega) (by omega) (by omega) (by omega)] at h3
      have sg := hs at'
      have b60 : (s at').2.2 ≤ 60 := by
        by_cases q : (s at').1 ≤ 4
        · exact (sg.2.2.2.2.1 q).2
        · rw [sg.2.2.2.2.2 (by omega)]
          omega
      exact (iN_inj (by omega) (by omega)).mp (h3.symm.trans k1)
    have p41 := hp3.2.2.1
    have p42 := hp3.2.2.2.2.1
    have b3 := hp3.2.2.2.1
    have g60 : g3 ≤ 60 := by
      rcases hp3.2.2.2.2.2.2 with c | ⟨-, x, y, -, -, -, c, d⟩ <;> omega
    rw [e] at p41 p42
    by_cases cc : g + 1 = c'
    · rw [if_pos cc] at p41 p42
      rw [up_eq] at p41
      rw [up_ne (by omega), up_eq] at p42
      have e3 := (iN_inj (by omega) (by omega)).mp p41
      have e4 := (iN_inj (by omega) (by omega)).mp p42
      refine ⟨at3, g3, hp3, ?_⟩
      rw [← e3, ← e4]
      show tsN s at' + (s at').2.2 + 0 = k + 1
      omega
    · rw [if_neg cc] at p41 p42
      rw [up_ne (by omega), tickS_lo (by omega), hp'.2.2.1] at p41
      rw [up_eq] at p42
      have e3 := (iN_inj (by omega) (by omega)).mp p41
      have e4 := (iN_inj (by omega) (by omega)).mp p42
      refine ⟨at3, g3, hp3, ?_⟩
      rw [← e3, ← e4]
      omega
theorem PG_all {s : Nat → Nat × Nat × Nat} {n mm : Nat} {D : Nat → Int32} (hs : ∀ i, stg (s i)) (hg : gD D n mm) (hm : mm ≤ 12) (hk : ∀ i, i < mm → D (5 + 3 * i) = iN (s i).1 ∧ D (5 + 3 * i + 2) = iN (s i).2.2) (h : PG s mm 0 D) (k : Nat) (hlt : k ≤ tsN s mm) : PG s mm k (goS D k) := by
  induction k with
  | zero => exact h
  | succ k ih => exact PG_go hs (gD_go hg) (fun i hi => by rw [go_lo hg (by omega), go_lo hg (by omega)]; exact hk i hi) (ih (by omega)) (by omega)
theorem PG_end {s : Nat → Nat × Nat × Nat} {mm : Nat} {D : Nat → Int32} (hs : ∀ i, stg (s i)) (hm : 1 ≤ mm) (hl : (s (mm - 1)).1 ≤ 4) (hk : ∀ i, i < mm → D (5 + 3 * i + 2) = iN (s i).2.2) (h : PG s mm (tsN s mm) D) : onceS 12 D = D := by
  obtain ⟨at_, g, hp, e⟩ := h
  have hm2 := hp.2.1
  have ha : at_ = mm := by
    by_cases c : at_ = mm
    · exact c
    · have hle := hp.2.2.2.1
      exfalso
      have t1 : tsN s (mm - 1) + (s (mm - 1)).2.2 = tsN s mm := by
        obtain ⟨k, rfl⟩ : ∃ k, mm = k + 1 := ⟨mm - 1, by omega⟩
        rfl
      have t2 := tsN_mono s (show at_ ≤ mm - 1 by omega)
      have t3 := ((hs (mm - 1)).2.2.2.2.1 hl).1
      rcases hp.2.2.2.2.2.2 with c0 | ⟨c1, a, c', h1, h2, h3, h4, h5⟩
      · omega
      · have t4 := tsN_mono s (show at_ + 1 ≤ mm by omega)
        have t5 : tsN s (at_ + 1) = tsN s at_ + (s at_).2.2 := rfl
        have sg := hs at_
        have b60 : (s at_).2.2 ≤ 60 := by
          by_cases q : (s at_).1 ≤ 4
          · exact (sg.2.2.2.2.1 q).2
          · rw [sg.2.2.2.2.2 (by omega)]
            omega
        have ec := (iN_inj (by omega) (by omega)).mp (h3.symm.trans (hk at_ c1))
        omega
  subst ha
  unfold onceS
  rw [if_pos (by rw [hp.1, hp.2.2.1]; exact (iN_le (by omega) (by omega)).mpr (Nat.le_refl _))]
/-! losses -/
theorem lossA_le {j w : Int32} (hj : 0 ≤ j.toInt) : (lossA j w).toInt ≤ j.toInt := by
  unfold lossA
  split
  · rw [li (by omega)]
    exact hj
  · split
    · exact Int.le_refl _
    · next c =>
      have : ¬ j.toInt < (j * ((w - iN 400) / iN 100) / iN 20).toInt := fun x => c (t_lt.mpr x)
      omega
theorem loss_le {D : Nat → Int32} {n : Nat} (h : wfD D n) (hb : jB D n) : (lossS D).toInt ≤ (juicesS D).toInt ∧ 0 ≤ (lossS D).toInt := by
  obtain ⟨hn, hm, hw, hj⟩ := h
  have h2 := hn.2
  have hnn := okN_n hn
  have key : ∀ c, c ≤ n → 0 ≤ (sumS (fun i => lossA (D (92 + i)) (D (52 + i))) c).toInt ∧ (sumS (fun i => lossA (D (92 + i)) (D (52 + i))) c).toInt ≤ (sumS (fun i => D (92 + i)) c).toInt ∧ (sumS (fun i => D (92 + i)) c).toInt ≤ 100 * c := by
    intro c
    induction c with
    | zero =>
      have z : (iN 0).toInt = 0 := li (by omega)
      exact fun _ => ⟨by show 0 ≤ (iN 0).toInt; omega, by show (iN 0).toInt ≤ (iN 0).toInt; omega, by show (iN 0).toInt ≤ _; omega⟩
    | succ c ih =>
      intro hc
      have ih := ih (by omega)
      have a := hw c (by omega)
      have b := hj c (by omega)
      have b2 := hb c (by omega)
      have l1 := lossA_R (j := D (92 + c)) (w := D (52 + c)) b b2 a.1 a.2
      have l2 := lossA_le (j := D (92 + c)) (w := D (52 + c)) b
      show 0 ≤ (sumS (fun i => lossA (D (92 + i)) (D (52 + i))) c + lossA (D (92 + c)) (D (52 + c))).toInt ∧ (sumS (fun i => lossA (D (92 + i)) (D (52 + i))) c + lossA (D (92 + c)) (D (52 + c))).toInt ≤ (sumS (fun i => D (92 + i)) c + D (92 + c)).toInt ∧ (sumS (fun i => D (92 + i)) c + D (92 + c)).toInt ≤ 100 * (c + 1 : Nat)
      rw [t_add (by omega) (by omega), t_add (by omega) (by omega)]
      omega
  have k := key n (Nat.le_refl n)
  unfold lossS juicesS
  rw [hnn]
  exact ⟨k.2.1, k.1⟩
theorem rest_cg {D E : Nat → Int32} (h : D = E) (k : Nat) : restS D k = restS E k := by rw [h]
theorem loss_hi {D E : Nat → Int32} (h : ∀ p, p = 0 ∨ 50 ≤ p → D p = E p) : lossS D = lossS E := by
  unfold lossS
  rw [nD_of (h 0 (by omega))]
  exact sumS_congr (fun i _ => by rw [h _ (by omega), h _ (by omega)])
theorem riB_ge (f : Nat → Int32) (k : Nat) : (f 0).toInt ≤ (riB f k).toInt := by
  induction k with
  | zero => exact Int.le_refl _
  | succ k ih =>
    show _ ≤ (if f (k + 1) ≤ riB f k then riB f k else f (k + 1)).toInt
    split
    · exact ih
    · next c =>
      have : ¬ (f (k + 1)).toInt ≤ (riB f k).toInt := fun x => c (t_le.mpr x)
      omega
theorem riB_R {f : Nat → Int32} (h : ∀ k, 0 ≤ (f k).toInt ∧ (f k).toInt ≤ 3000) (k : Nat) : 0 ≤ (riB f k).toInt ∧ (riB f k).toInt ≤ 3000 := by
  induction k with
  | zero => exact h 0
  | succ k ih =>
    show 0 ≤ (if f (k + 1) ≤ riB f k then riB f k else f (k + 1)).toInt ∧ (if f (k + 1) ≤ riB f k then riB f k else f (k + 1)).toInt ≤ 3000
    split
    · exact ih
    · exact h (k + 1)
theorem midW_R {D : Nat → Int32} {n : Nat} (h : wfD D n) : 0 ≤ (midW D).toInt ∧ (midW D).toInt ≤ 3000 := by
  have hb := h.1.2
  have hnn := okN_n h.1
  exact h.2.2.1 _ (by omega)
theorem rise_0 {D : Nat → Int32} {n : Nat} (h : wfD D n) (k : Nat) : ¬ riB (fun k => midW (restS D k)) k - midW D < iN 0 := by
  have a := fun k => midW_R (wf_rest (k := k) h)
  have b := riB_R a k
  have c := riB_ge (fun k => midW (restS D k)) k
  have c : (midW D).toInt ≤ (riB (fun k => midW (restS D k)) k).toInt := c
  have d := midW_R h
  intro x
  have x := t_lt.mp x
  rw [t_sub (by omega) (by omega), li (by omega)] at x
  omega
theorem sum_one {f : Nat → Int32} {n : Nat} (h : ∀ i, i < n → f i = iN 1) : sumS f n = iN n := by
  induction n with
  | zero => rfl
  | succ n ih =>
    show sumS f n + f n = _
    rw [ih (fun i hi => h i (by omega)), h n (by omega), iN_add]
theorem in_all {x : Int32} (h : 0 ≤ x.toInt ∧ x.toInt ≤ 3000) : inS (iN 0) (iN 4000) x = iN 1 := by
  unfold inS
  rw [if_neg (fun e => by have := t_lt.mp e; rw [li (by omega)] at this; omega), if_neg (fun e => by have := t_lt.mp e; rw [li (by omega)] at this; omega)]
theorem just_all {D : Nat → Int32} {h c n : Nat} (hl : LF h c D n) : justS (iN 0) (iN 4000) D = iN n := by
  unfold justS
  rw [okN_n hl.1.1]
  refine sum_one (fun i hi => in_all ?_)
  have a := hl.2.1 i hi
  have b := hl.2.2.1 i hi
  omega

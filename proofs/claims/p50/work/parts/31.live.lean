/-! what holds of a dish all along: warmth within what is without or was within; what was warmest, juice, brown -/
def wRh (h : Nat) (D : Nat → Int32) (n : Nat) : Prop := ∀ i, i < n → 0 ≤ (D (52 + i)).toInt ∧ (D (52 + i)).toInt ≤ h
def qRh (h : Nat) (q : Int32) : Prop := 0 ≤ q.toInt ∧ q.toInt ≤ 30 ∧ 100 * q.toInt ≤ h
theorem out_Rh {h : Nat} {k q w : Int32} {b : Prop} [Decidable b] (hh : 200 ≤ h ∧ h ≤ 3000) (hq : qRh h q) (h0 : 0 ≤ w.toInt) (h1 : w.toInt ≤ h) : -w.toInt ≤ 2 * (outS k q b w).toInt ∧ 2 * (outS k q b w).toInt ≤ h - w.toInt := by
  obtain ⟨q0, q1, q2⟩ := hq
  have e1 : (iN 100 * q).toInt = 100 * q.toInt := by
    rw [t_mul (by rw [li (by omega)]; omega) (by rw [li (by omega)]; omega), li (by omega)]
    rfl
  have e2 : (iN 100 * q - w).toInt = 100 * q.toInt - w.toInt := by rw [t_sub (by omega) (by omega), e1]
  have e3 : (iN 200 - w).toInt = 200 - w.toInt := by
    rw [t_sub (by rw [li (by omega)]; omega) (by rw [li (by omega)]; omega), li (by omega)]
    rfl
  unfold outS
  split
  · split
    · rw [t_div4, e2]; split <;> omega
    · rw [t_div16, e3]; split <;> omega
  · split
    · rw [t_div12, e2]; split <;> omega
    · split
      · rw [t_div2, e2]; split <;> omega
      · rw [t_div20, e3]; split <;> omega
theorem skin_Rh {h : Nat} {k q w v : Int32} {b : Prop} [Decidable b] (hh : 200 ≤ h ∧ h ≤ 3000) (hq : qRh h q) (h0 : 0 ≤ w.toInt) (h1 : w.toInt ≤ h) (h2 : 0 ≤ v.toInt) (h3 : v.toInt ≤ h) : 0 ≤ (w + (v - w) / iN 4 + outS k q b w).toInt ∧ (w + (v - w) / iN 4 + outS k q b w).toInt ≤ h := by
  have ho := out_Rh (k := k) (b := b) hh hq h0 h1
  have e1 : (v - w).toInt = v.toInt - w.toInt := t_sub (by omega) (by omega)
  have e2 : -w.toInt ≤ 4 * ((v - w) / iN 4).toInt ∧ 4 * ((v - w) / iN 4).toInt ≤ h - w.toInt := by
    rw [t_div4, e1]; split <;> omega
  have e3 : (w + (v - w) / iN 4).toInt = w.toInt + ((v - w) / iN 4).toInt := t_add (by omega) (by omega)
  rw [t_add (by omega) (by omega), e3]
  omega
theorem mid_Rh {h : Nat} {w u v : Int32} (hh : h ≤ 3000) (h0 : 0 ≤ w.toInt) (h1 : w.toInt ≤ h) (h2 : 0 ≤ v.toInt) (h3 : v.toInt ≤ h) (h4 : 0 ≤ u.toInt) (h5 : u.toInt ≤ h) : 0 ≤ (w + ((u - w) + (v - w)) / iN 4).toInt ∧ (w + ((u - w) + (v - w)) / iN 4).toInt ≤ h := by
  have e1 : (v - w).toInt = v.toInt - w.toInt := t_sub (by omega) (by omega)
  have e0 : (u - w).toInt = u.toInt - w.toInt := t_sub (by omega) (by omega)
  have e4 : ((u - w) + (v - w)).toInt = u.toInt - w.toInt + (v.toInt - w.toInt) := by rw [t_add (by omega) (by omega), e0, e1]
  have e2 : -(2 * w.toInt) ≤ 4 * (((u - w) + (v - w)) / iN 4).toInt ∧ 4 * (((u - w) + (v - w)) / iN 4).toInt ≤ 2 * h - 2 * w.toInt := by
    rw [t_div4, e4]; split <;> omega
  rw [t_add (by omega) (by omega)]
  omega
theorem warm_Rh {h : Nat} {D : Nat → Int32} {n : Nat} {k q : Int32} (hh : 200 ≤ h ∧ h ≤ 3000) (hn : okN D n) (hw : wRh h D n) (hq : qRh h q) {i : Nat} (hi : i < n) : 0 ≤ (warmS k q D i).toInt ∧ (warmS k q D i).toInt ≤ h := by
  have h2 := hn.2
  have hnn := okN_n hn
  have h0 := hw i hi
  unfold warmS
  split
  · next c =>
    subst c
    have h1 := hw 1 (by omega)
    exact skin_Rh hh hq h0.1 h0.2 h1.1 h1.2
  · rw [hnn]
    split
    · have h1 := hw (i - 1) (by omega)
      rw [show 52 + (i - 1) = 52 + i - 1 by omega] at h1
      exact skin_Rh hh hq h0.1 h0.2 h1.1 h1.2
    · have h1 := hw (i - 1) (by omega)
      have h3 := hw (i + 1) (by omega)
      rw [show 52 + (i - 1) = 52 + i - 1 by omega] at h1
      rw [show 52 + (i + 1) = 52 + i + 1 by omega] at h3
      exact mid_Rh hh.2 h0.1 h0.2 h3.1 h3.2 h1.1 h1.2
theorem bW_R {h : Nat} {t w : Int32} (h0 : 0 ≤ w.toInt) (h1 : w.toInt ≤ h) (h2 : h ≤ 3000) : 0 ≤ (bW t w).toInt ∧ (bW t w).toInt ≤ h := by
  unfold bW
  split
  · exact ⟨h0, h1⟩
  · split
    · exact ⟨h0, h1⟩
    · next c =>
      have e : (w - iN 1000).toInt = w.toInt - 1000 := by rw [t_sub (by rw [li (by omega)]; omega) (by rw [li (by omega)]; omega), li (by omega)]; rfl
      have : ¬ (w - iN 1000).toInt ≤ (iN 0).toInt := fun x => c (t_le.mpr x)
      rw [e, li (by omega)] at this
      rw [li (by omega)]
      omega
theorem nw_Rh {h : Nat} {D : Nat → Int32} {n : Nat} {k q : Int32} (hh : 200 ≤ h ∧ h ≤ 3000) (hn : okN D n) (hw : wRh h D n) (hq : qRh h q) {i : Nat} (hi : i < n) : 0 ≤ (nw k q D n i).toInt ∧ (nw k q D n i).toInt ≤ h := by
  have a := warm_Rh (k := k) hh hn hw hq hi
  unfold nw
  split
  · next c =>
    subst c
    exact bW_R a.1 a.2 hh.2
  · split
    · exact bW_R a.1 a.2 hh.2
    · exact a
/-- brown of both skins behind c ticks, fat -/
def BRd (c : Nat) (D : Nat → Int32) : Prop := (0 ≤ (D 3).toInt ∧ (D 3).toInt ≤ 9) ∧ ∀ s, s < 2 → 0 ≤ (D (50 + s)).toInt ∧ (D (50 + s)).toInt ≤ 20 * c
theorem bB_R {t w b f : Int32} {c : Nat} (hw : 0 ≤ w.toInt ∧ w.toInt ≤ 3000) (hb : 0 ≤ b.toInt ∧ b.toInt ≤ 20 * c) (hf : 0 ≤ f.toInt ∧ f.toInt ≤ 9) (hc : c ≤ 1000) : b.toInt ≤ (bB t w b f).toInt ∧ (bB t w b f).toInt ≤ b.toInt + 20 := by
  unfold bB
  split
  · split
    · omega
    · next c2 =>
      have e : (w - iN 1400).toInt = w.toInt - 1400 := by rw [t_sub (by rw [li (by omega)]; omega) (by rw [li (by omega)]; omega), li (by omega)]; rfl
      have h3 : ¬ (w - iN 1400).toInt < (iN 0).toInt := fun x => c2 (t_lt.mpr x)
      rw [e, li (by omega)] at h3
      have e2 := t_div100 (a := w - iN 1400)
      rw [e, if_pos (by omega)] at e2
      have e3 := t_div4 (a := f)
      rw [if_pos hf.1] at e3
      rw [t_add (by rw [t_add (by omega) (by omega)]; omega) (by rw [t_add (by omega) (by omega)]; omega), t_add (by omega) (by omega), e2, e3]
      omega
  · omega
/-- what holds of a dish behind c ticks, h the warmest that is without or was within -/
def LF (h c : Nat) (D : Nat → Int32) (n : Nat) : Prop := wfD D n ∧ wRh h D n ∧ (∀ i, i < n → (D (52 + i)).toInt ≤ (D (72 + i)).toInt ∧ (D (72 + i)).toInt ≤ 3000) ∧ jB D n ∧ BRd c D
/-- nothing that was warmest falls, no juice grows, no brown goes -/
def MO (D T : Nat → Int32) (n : Nat) : Prop := (∀ i, i < n → (D (72 + i)).toInt ≤ (T (72 + i)).toInt ∧ (T (92 + i)).toInt ≤ (D (92 + i)).toInt) ∧ ∀ s, s < 2 → (D (50 + s)).toInt ≤ (T (50 + s)).toInt
theorem LF_tick {h c : Nat} {D : Nat → Int32} {n : Nat} {k q : Int32} (hh : 200 ≤ h ∧ h ≤ 3000) (hl : LF h c D n) (hq : qRh h q) (hc : c ≤ 999) : LF h (c + 1) (tickS k q D) n ∧ MO D (tickS k q D) n := by
  obtain ⟨l1, l2, l3, l4, l5, l6⟩ := hl
  have hn := l1.1
  have hb := hn.2
  have hnn := okN_n hn
  have q1 : qR q := ⟨hq.1, hq.2.1⟩
  have nwr := fun i (hi : i < n) => nw_Rh (k := k) (q := q) hh hn l2 hq hi
  have hjj := l1.2.2.2
  unfold jR at hjj
  rw [hnn] at hjj
  have mm : ∀ i, i < n → (D (72 + i)).toInt ≤ (tickS k q D (72 + i)).toInt ∧ (nw k q D n i).toInt ≤ (tickS k q D (72 + i)).toInt ∧ (tickS k q D (72 + i)).toInt ≤ 3000 := by
    intro i hi
    have a := nwr i hi
    have b := l3 i hi
    rw [tick_m hn hi]
    by_cases cc : nw k q D n i < D (72 + i)
    · rw [if_pos cc]
      have := t_lt.mp cc
      omega
    · rw [if_neg cc]
      have : ¬ (nw k q D n i).toInt < (D (72 + i)).toInt := fun e => cc (t_lt.mpr e)
      omega
  have bb : ∀ s, s < 2 → (D (50 + s)).toInt ≤ (tickS k q D (50 + s)).toInt ∧ (tickS k q D (50 + s)).toInt ≤ (D (50 + s)).toInt + 20 := by
    intro s hs
    rw [tick_b hn hs]
    have a := nwr (if s = 0 then 0 else n - 1) (by split <;> omega)
    exact bB_R ⟨a.1, by omega⟩ (l6 s hs) l5 (by omega)
  have jj : ∀ i, i < n → (tickS k q D (92 + i)).toInt ≤ (D (92 + i)).toInt := by
    intro i hi
    have a := nwr i hi
    rw [tick_j hn hi]
    exact juice_le (hjj i hi) a.1 (by omega)
  refine ⟨⟨wf_tick l1 q1, fun i hi => ?_, fun i hi => ?_, jB_tick l1 q1 l4, ?_, fun s hs => ?_⟩, fun i hi => ⟨(mm i hi).1, jj i hi⟩, fun s hs => (bb s hs).1⟩
  · rw [tick_w hn hi]
    exact nwr i hi
  · rw [tick_w hn hi]
    exact ⟨(mm i hi).2.1, (mm i hi).2.2⟩
  · rw [tickS_lo (by omega)]
    exact l5
  · have a := bb s hs
    have b := l6 s hs
    have e : ((c + 1 : Nat) : Int) = c + 1 := rfl
    omega
theorem LF_up {h c : Nat} {D : Nat → Int32} {n p : Nat} {x : Int32} (hl : LF h c D n) (h1 : p < 50) (h0 : p ≠ 0) (h3 : p ≠ 3) (h4 : p ≠ 4) : LF h c (up D p x) n := by
  obtain ⟨l1, l2, l3, l4, l5, l6⟩ := hl
  refine ⟨wf_up l1 (by omega) h0 h4, fun i hi => ?_, fun i hi => ?_, fun i hi => ?_, ?_, fun s hs => ?_⟩
  · rw [up_ne (by omega)]; exact l2 i hi
  · rw [up_ne (by omega), up_ne (by omega)]; exact l3 i hi
  · rw [up_ne (by omega)]; exact l4 i hi
  · rw [up_ne (by omega)]; exact l5
  · rw [up_ne (by omega)]; exact l6 s hs
theorem LF_cg {h c : Nat} {D E : Nat → Int32} {n : Nat} (hl : LF h c D n) (hw : wfD E n) (e : ∀ p, p = 3 ∨ 50 ≤ p → E p = D p) : LF h c E n := by
  obtain ⟨l1, l2, l3, l4, l5, l6⟩ := hl
  refine ⟨hw, fun i hi => ?_, fun i hi => ?_, fun i hi => ?_, ?_, fun s hs => ?_⟩
  · rw [e _ (by omega)]; exact l2 i hi
  · rw [e _ (by omega), e _ (by omega)]; exact l3 i hi
  · rw [e _ (by omega)]; exact l4 i hi
  · rw [e _ (by omega)]; exact l5
  · rw [e _ (by omega)]; exact l6 s hs
def HQ (h mm : Nat) (D : Nat → Int32) : Prop := ∀ i, i < mm → ∀ b : Nat, b ≤ 30 → D (5 + 3 * i + 1) = iN b → 100 * b ≤ h
theorem qRh_N {h b : Nat} (h1 : b ≤ 30) (h2 : 100 * b ≤ h) : qRh h (iN b) := ⟨by rw [li (by omega)]; omega, by rw [li (by omega)]; omega, by rw [li (by omega)]; omega⟩
/-- a step of a dish is a tick behind what comes at once -/
theorem go1_tick {h : Nat} {D : Nat → Int32} {n mm : Nat} (hg : gD D n mm) (hQ : HQ h mm D) : ∃ k q, wfD (onceS 12 D) n ∧ qRh h q ∧ ∀ p, p ≠ 41 → p ≠ 42 → go1 D p = tickS k q (onceS 12 D) p := by
  obtain ⟨E, at_, g, eE, hw, hp, hm, ⟨c, e, -⟩ | ⟨c, a, b, c', h1, h2, h3, h4, h5, h6, h7, h8, -, e⟩⟩ := go1_cases hg
  · subst eE
    exact ⟨iN 4, iN 0, hw, qRh_N (by omega) (by omega), fun p _ _ => by rw [e]⟩
  · subst eE
    rw [once_p (by omega) (by omega) (by omega) (by omega)] at h2
    refine ⟨iN a, iN b, hw, qRh_N h6 (hQ at_ c b h6 h2), fun p q1 q2 => ?_⟩
    rw [e]
    split
    · rw [up_ne q1, up_ne q2]
    · rw [up_ne q2]
theorem LF_go1 {h c : Nat} {D : Nat → Int32} {n mm : Nat} (hh : 200 ≤ h ∧ h ≤ 3000) (hg : gD D n mm) (hQ : HQ h mm D) (hl : LF h c D n) (hc : c ≤ 999) : LF h (c + 1) (go1 D) n ∧ MO D (go1 D) n := by
  obtain ⟨k, q, hw, hq, e⟩ := go1_tick hg hQ
  have hE : LF h c (onceS 12 D) n := LF_cg hl hw (fun p hp => once_p (by omega) (by omega) (by omega) (by omega))
  have eo : ∀ p, 50 ≤ p → onceS 12 D p = D p := fun p hp => once_p (by omega) (by omega) (by omega) (by omega)
  obtain ⟨t1, t2, t3⟩ := LF_tick (k := k) hh hE hq hc
  refine ⟨LF_cg t1 (gD_go1 hg).1 (fun p hp => e p (by omega) (by omega)), fun i hi => ?_, fun s hs => ?_⟩
  · have a := t2 i hi
    rw [eo _ (by omega), eo _ (by omega)] at a
    rw [e _ (by omega) (by omega), e _ (by omega) (by omega)]
    exact a
  · have a := t3 s hs
    rw [eo _ (by omega)] at a
    rw [e _ (by omega) (by omega)]
    exact a
theorem HQ_go {h k : Nat} {D : Nat → Int32} {n mm : Nat} (hg : gD D n mm) (hm : mm ≤ 12) (hQ : HQ h mm D) : HQ h mm (goS D k) := fun i hi b hb e => by
  rw [go_lo hg (by omega)] at e
  exact hQ i hi b hb e
theorem LF_go {h c : Nat} {D : Nat → Int32} {n mm : Nat} (hh : 200 ≤ h ∧ h ≤ 3000) (hg : gD D n mm) (hm : mm ≤ 12) (hQ : HQ h mm D) (hl : LF h c D n) (k : Nat) (hc : c + k ≤ 999) : LF h (c + k) (goS D k) n := by
  induction k with
  | zero => exact hl
  | succ k ih => exact (LF_go1 hh (gD_go hg) (HQ_go hg hm hQ) (ih (by omega)) (by omega)).1
theorem LF_bg {h n : Nat} {X : Nat → Int32} (hX : slR X n) (hm : mD X ≤ 12) (h3 : 0 ≤ (X 3).toInt ∧ (X 3).toInt ≤ 9) (hh : h ≤ 3000) (h1 : 10 * (X 1).toInt ≤ h) : LF h 0 (bgS X) n := by
  have hn := hX.1
  have hb := hn.2
  have hnn := okN_n hn
  have e : (iN 10 * X 1).toInt = 10 * (X 1).toInt := by
    have := hX.2
    rw [t_mul (by rw [li (by omega)]; omega) (by rw [li (by omega)]; omega), li (by omega)]
    rfl
  have w : ∀ i, i < n → bgS X (52 + i) = iN 10 * X 1 := fun i hi => bg_w (by rw [hnn]; exact hi) (by omega)
  have m : ∀ i, i < n → bgS X (72 + i) = iN 10 * X 1 := fun i hi => bg_m (by rw [hnn]; exact hi) (by omega)
  have j : ∀ i, i < n → bgS X (92 + i) = iN 100 := fun i hi => bg_j (by rw [hnn]; exact hi) (by omega)
  have := hX.2
  refine ⟨wf_bg hX hm, fun i hi => ?_, fun i hi => ?_, fun i hi => ?_, ?_, fun s hs => ?_⟩
  · rw [w i hi, e]
    omega
  · rw [w i hi, m i hi, e]
    omega
  · rw [j i hi, li (by omega)]
    omega
  · rw [bg_lo (by omega)]
    exact h3
  · rw [bg_50 (by omega) (by omega), li (by omega)]
    omega
/-! begun on the other skin -/
def QR (n mm : Nat) (D E : Nat → Int32) : Prop := MR n D E ∧ D 4 = iN mm ∧ E 4 = iN (mm + 1) ∧ (∃ a, a ≤ mm ∧ D 41 = iN a ∧ E 41 = iN (a + 1)) ∧ E 42 = D 42 ∧ ∀ i, i < mm → E (5 + 3 * (i + 1)) = D (5 + 3 * i) ∧ E (5 + 3 * (i + 1) + 1) = D (5 + 3 * i + 1) ∧ E (5 + 3 * (i + 1) + 2) = D (5 + 3 * i + 2)
theorem MR_cg {n : Nat} {D E D' E' : Nat → Int32} (h : MR n D E) (e : ∀ p, p = 0 ∨ p = 2 ∨ p = 3 ∨ (44 ≤ p ∧ p ≤ 51 ∧ p ≠ 46 ∧ p ≠ 47) ∨ 52 ≤ p → D' p = D p ∧ E' p = E p) : MR n D' E' := by
  unfold MR at *
  rw [(e 0 (by omega)).1, (e 0 (by omega)).2, (e 2 (by omega)).1, (e 2 (by omega)).2, (e 3 (by omega)).1, (e 3 (by omega)).2, (e 45 (by omega)).1, (e 45 (by omega)).2, (e 44 (by omega)).1, (e 44 (by omega)).2, (e 48 (by omega)).1, (e 48 (by omega)).2, (e 49 (by omega)).1, (e 49 (by omega)).2, (e 50 (by omega)).1, (e 50 (by omega)).2, (e 51 (by omega)).1, (e 51 (by omega)).2]
  refine ⟨h.1, h.2.1, h.2.2.1, h.2.2.2.1, h.2.2.2.2.1, h.2.2.2.2.2.1, h.2.2.2.2.2.2.1, fun i hi => ?_⟩
  rw [(e (52 + i) (by omega)).2, (e (72 + i) (by omega)).2, (e (92 + i) (by omega)).2, (e (52 + (n - 1 - i)) (by omega)).1, (e (72 + (n - 1 - i)) (by omega)).1, (e (92 + (n - 1 - i)) (by omega)).1]
  exact h.2.2.2.2.2.2.2 i hi
theorem QR_onc1 {n mm a : Nat} {D E : Nat → Int32} (h : QR n mm D E) (hm : mm ≤ 11) (ha : D 41 = iN a) (hlt : a < mm) : QR n mm (onc1 D) (onc1 E) := by
  obtain ⟨h1, h2, h3, ⟨a', a0, a1, a2⟩, h5, h6⟩ := h
  have ea : a' = a := (iN_inj (by omega) (by omega)).mp (a1.symm.trans ha)
  subst ea
  have kE : E (5 + 3 * ix (E 41)) = D (5 + 3 * ix (D 41)) := by rw [a1, a2, ix_iN (by omega), ix_iN (by omega)]; exact (h6 a' hlt).1
  have lo : ∀ p, p < 41 ∨ p = 42 → onc1 D p = D p ∧ onc1 E p = E p := fun p hp => ⟨onc1_p (by omega) (by omega) (by omega) (by omega), onc1_p (by omega) (by omega) (by omega) (by omega)⟩
  refine ⟨?_, by rw [(lo 4 (by omega)).1]; exact h2, by rw [(lo 4 (by omega)).2]; exact h3, ⟨a' + 1, by omega, by rw [onc1_41, a1, iN_add], by rw [onc1_41, a2, iN_add]⟩, by rw [(lo 42 (by omega)).1, (lo 42 (by omega)).2]; exact h5, fun i hi => ?_⟩
  · unfold onc1
    rw [kE]
    by_cases c : D (5 + 3 * ix (D 41)) = iN 5
    · rw [if_pos c, if_pos c]
      unfold MR at *
      obtain ⟨g0, g2, g3, g45, g44, gw, gb, gd⟩ := h1
      have o : ∀ (Z : Nat → Int32) (x y : Int32) (p : Nat), p ≠ 41 → p ≠ 44 → up (up Z 44 x) 41 y p = Z p := fun Z x y p q1 q2 => by rw [up_ne q1, up_ne q2]
      have o44 : ∀ (Z : Nat → Int32) (x y : Int32), up (up Z 44 x) 41 y 44 = x := fun Z x y => by rw [up_ne (by omega), up_eq]
      rw [o _ _ _ 0 (by omega) (by omega), o _ _ _ 0 (by omega) (by omega), o _ _ _ 2 (by omega) (by omega), o _ _ _ 2 (by omega) (by omega), o _ _ _ 3 (by omega) (by omega), o _ _ _ 3 (by omega) (by omega), o _ _ _ 45 (by omega) (by omega), o _ _ _ 45 (by omega) (by omega), o44, o44, o _ _ _ 48 (by omega) (by omega), o _ _ _ 48 (by omega) (by omega), o _ _ _ 49 (by omega) (by omega), o _ _ _ 49 (by omega) (by omega), o _ _ _ 50 (by omega) (by omega), o _ _ _ 50 (by omega) (by omega), o _ _ _ 51 (by omega) (by omega), o _ _ _ 51 (by omega) (by omega)]
      refine ⟨g0, g2, g3, g45, ?_, gw, gb, fun i hi => ?_⟩
      · rcases g44 with ⟨x, y⟩ | ⟨x, y⟩
        · right
          rw [x, y]
          exact ⟨rfl, rfl⟩
        · left
          rw [x, y]
          exact ⟨rfl, rfl⟩
      · rw [o _ _ _ (52 + i) (by omega) (by omega), o _ _ _ (72 + i) (by omega) (by omega), o _ _ _ (92 + i) (by omega) (by omega), o _ _ _ (52 + (n - 1 - i)) (by omega) (by omega), o _ _ _ (72 + (n - 1 - i)) (by omega) (by omega), o _ _ _ (92 + (n - 1 - i)) (by omega) (by omega)]
        exact gd i hi
    · rw [if_neg c, if_neg c]
      unfold MR at *
      obtain ⟨g0, g2, g3, g45, g44, gw, gb, gd⟩ := h1
      have o : ∀ (Z : Nat → Int32) (y : Int32) (p : Nat), p ≠ 41 → p ≠ 48 → p ≠ 49 → up (up (up Z 48 (iN 0)) 49 (iN 0)) 41 y p = Z p := fun Z y p q1 q2 q3 => by rw [up_ne q1, up_ne q3, up_ne q2]
      have o48 : ∀ (Z : Nat → Int32) (y : Int32), up (up (up Z 48 (iN 0)) 49 (iN 0)) 41 y 48 = iN 0 := fun Z y => by rw [up_ne (by omega), up_ne (by omega), up_eq]
      have o49 : ∀ (Z : Nat → Int32) (y : Int32), up (up (up Z 48 (iN 0)) 49 (iN 0)) 41 y 49 = iN 0 := fun Z y => by rw [up_ne (by omega), up_eq]
      rw [o _ _ 0 (by omega) (by omega) (by omega), o _ _ 0 (by omega) (by omega) (by omega), o _ _ 2 (by omega) (by omega) (by omega), o _ _ 2 (by omega) (by omega) (by omega), o _ _ 3 (by omega) (by omega) (by omega), o _ _ 3 (by omega) (by omega) (by omega), o _ _ 45 (by omega) (by omega) (by omega), o _ _ 45 (by omega) (by omega) (by omega), o _ _ 44 (by omega) (by omega) (by omega), o _ _ 44 (by omega) (by omega) (by omega), o48, o48, o49, o49, o _ _ 50 (by omega) (by omega) (by omega), o _ _ 50 (by omega) (by omega) (by omega), o _ _ 51 (by omega) (by omega) (by omega), o _ _ 51 (by omega) (by omega) (by omega)]
      refine ⟨g0, g2, g3, g45, g44, ⟨rfl, rfl⟩, gb, fun i hi => ?_⟩
      rw [o _ _ (52 + i) (by omega) (by omega) (by omega), o _ _ (72 + i) (by omega) (by omega) (by omega), o _ _ (92 + i) (by omega) (by omega) (by omega), o _ _ (52 + (n - 1 - i)) (by omega) (by omega) (by omega), o _ _ (72 + (n - 1 - i)) (by omega) (by omega) (by omega), o _ _ (92 + (n - 1 - i)) (by omega) (by omega) (by omega)]
      exact gd i hi
  · rw [(lo _ (by omega)).1, (lo _ (by omega)).1, (lo _ (by omega)).1, (lo _ (by omega)).2, (lo _ (by omega)).2, (lo _ (by omega)).2]
    exact h6 i hi
theorem QR_once {n mm f : Nat} {D E : Nat → Int32} (h : QR n mm D E) (hm : mm ≤ 11) : QR n mm (onceS f D) (onceS f E) := by
  induction f generalizing D E with
  | zero => exact h
  | succ f ih =>
    have h' := h
    obtain ⟨h1, h2, h3, ⟨a, a0, a1, a2⟩, h5, h6⟩ := h
    unfold onceS
    rw [h2, h3, a1, a2]
    by_cases c : a = mm
    · rw [if_pos ((iN_le (by omega) (by omega)).mpr (by omega)), if_pos ((iN_le (by omega) (by omega)).mpr (by omega))]
      exact h'
    · have n1 : ¬ iN mm ≤ iN a := fun e => by have := (iN_le (by omega) (by omega)).mp e; omega
      have n2 : ¬ iN (mm + 1) ≤ iN (a + 1) := fun e => by have := (iN_le (by omega) (by omega)).mp e; omega
      rw [if_neg n1, if_neg n2, ix_iN (by omega), ix_iN (by omega), (h6 a (by omega)).1]
      split
      · exact h'
      · exact ih (QR_onc1 h' hm a1 (by omega))
theorem QR_go1 {n mm : Nat} {D E : Nat → Int32} (hg : gD D n mm) (h : QR n mm D E) (hm : mm ≤ 11) : QR n mm (go1 D) (go1 E) := by
  have hw := wf_once (f := 12) hg.1
  have h' := QR_once (f := 12) h hm
  unfold go1
  generalize onceS 12 D = D1 at *
  generalize onceS 12 E = E1 at *
  obtain ⟨h1, h2, h3, ⟨a, a0, a1, a2⟩, h5, h6⟩ := h'
  have hn := hw.1
  rw [h2, h3, a1, a2]
  have tk : ∀ k q, QR n mm (tickS k q D1) (tickS k q E1) := fun k q => ⟨MR_tick hn h1, by rw [tickS_lo (by omega)]; exact h2, by rw [tickS_lo (by omega)]; exact h3, ⟨a, a0, by rw [tickS_lo (by omega)]; exact a1, by rw [tickS_lo (by omega)]; exact a2⟩, by rw [tickS_lo (by omega), tickS_lo (by omega)]; exact h5, fun i hi => by
    rw [tickS_lo (by omega), tickS_lo (by omega), tickS_lo (by omega), tickS_lo (by omega), tickS_lo (by omega), tickS_lo (by omega)]
    exact h6 i hi⟩
  have mu : ∀ (k q x y : Int32), MR n (up (tickS k q D1) 42 x) (up (tickS k q E1) 42 y) := fun k q x y => MR_cg (tk k q).1 (fun p hp => ⟨up_ne (by omega), up_ne (by omega)⟩)
  by_cases c : a = mm
  · rw [if_pos (by rw [c]), if_pos (by rw [c])]
    exact tk _ _
  · obtain ⟨s1, s2, s3⟩ := h6 a (by omega)
    have n1 : ¬ iN a = iN mm := fun e => by have := (iN_inj (by omega) (by omega)).mp e; omega
    have n2 : ¬ iN (a + 1) = iN (mm + 1) := fun e => by have := (iN_inj (by omega) (by omega)).mp e; omega
    rw [if_neg n1, if_neg n2, ix_iN (by omega), ix_iN (by omega), s1, s2, s3, h5]
    generalize D1 (5 + 3 * a) = k
    generalize D1 (5 + 3 * a + 1) = q
    obtain ⟨t1, t2, t3, -, t5, t6⟩ := tk k q
    by_cases c2 : D1 42 + iN 1 = D1 (5 + 3 * a + 2)
    · rw [if_pos c2, if_pos c2]
      refine ⟨MR_cg (mu k q _ _) (fun p hp => ⟨up_ne (by omega), up_ne (by omega)⟩), by rw [up_ne (by omega), up_ne (by omega)]; exact t2, by rw [up_ne (by omega), up_ne (by omega)]; exact t3, ⟨a + 1, by omega, by rw [up_eq, iN_add], by rw [up_eq, iN_add]⟩, (up_ne (by omega)).trans (up_eq.trans ((up_ne (by omega)).trans up_eq).symm), fun i hi => ?_⟩
      rw [up_ne (by omega), up_ne (by omega), up_ne (by omega), up_ne (by omega), up_ne (by omega), up_ne (by omega), up_ne (by omega), up_ne (by omega), up_ne (by omega), up_ne (by omega), up_ne (by omega), up_ne (by omega)]
      exact t6 i hi
    · rw [if_neg c2, if_neg c2]
      refine ⟨mu k q _ _, by rw [up_ne (by omega)]; exact t2, by rw [up_ne (by omega)]; exact t3, ⟨a, a0, by rw [up_ne (by omega), tickS_lo (by omega)]; exact a1, by rw [up_ne (by omega), tickS_lo (by omega)]; exact a2⟩, by rw [up_eq, up_eq], fun i hi => ?_⟩
      rw [up_ne (by omega), up_ne (by omega), up_ne (by omega), up_ne (by omega), up_ne (by omega), up_ne (by omega)]
      exact t6 i hi
theorem QR_go {n mm k : Nat} {D E : Nat → Int32} (hg : gD D n mm) (h : QR n mm D E) (hm : mm ≤ 11) : QR n mm (goS D k) (goS E k) := by
  induction k with
  | zero => exact h
  | succ k ih => exact QR_go1 (gD_go hg) ih hm
/-- a plan with a turn ahead -/
def trX (mm : Nat) (X Y : Nat → Int32) : Prop := (∀ p, p < 4 → Y p = X p) ∧ X 4 = iN mm ∧ Y 4 = iN (mm + 1) ∧ Y 5 = iN 5 ∧ ∀ i, i < mm → Y (5 + 3 * (i + 1)) = X (5 + 3 * i) ∧ Y (5 + 3 * (i + 1) + 1) = X (5 + 3 * i + 1) ∧ Y (5 + 3 * (i + 1) + 2) = X (5 + 3 * i + 2)
theorem QR_bg {n mm : Nat} {X Y : Nat → Int32} (hX : okN X n) (hm : mm ≤ 11) (h : trX mm X Y) : QR n mm (bgS X) (onc1 (bgS Y)) := by
  obtain ⟨h0, h4, h4', h5, h6⟩ := h
  have hb := hX.2
  have hY : okN Y n := okN_keep hX (h0 0 (by omega))
  have hnX := okN_n hX
  have hnY := okN_n hY
  have k41 : bgS Y 41 = iN 0 := bg_41 (by omega) (by omega)
  have k5 : bgS Y (5 + 3 * ix (bgS Y 41)) = iN 5 := by rw [k41, ix_iN (by omega), bg_lo (by omega)]; exact h5
  have e1 : ∀ p, p ≠ 41 → p ≠ 44 → onc1 (bgS Y) p = bgS Y p := fun p q1 q2 => by
    unfold onc1
    rw [if_pos k5, up_ne q1, up_ne q2]
  have e44 : onc1 (bgS Y) 44 = iN 1 := by
    unfold onc1
    rw [if_pos k5, up_ne (by omega), up_eq, bg_41 (by omega) (by omega)]
    rfl
  have e41 : onc1 (bgS Y) 41 = iN 1 := by
    rw [onc1_41, bg_41 (by omega) (by omega)]
    rfl
  have w2 : wetS (Y 2) = wetS (X 2) := by rw [h0 2 (by omega)]
  refine ⟨⟨?_, ?_, ?_, ?_, ?_, ⟨?_, ?_⟩, ⟨?_, ?_⟩, fun i hi => ⟨?_, ?_, ?_⟩⟩, ?_, ?_, ⟨0, by omega, ?_, ?_⟩, ?_, fun i hi => ?_⟩
  · rw [e1 0 (by omega) (by omega), bg_lo (by omega), bg_lo (by omega), h0 0 (by omega)]
  · rw [e1 2 (by omega) (by omega), bg_lo (by omega), bg_lo (by omega), h0 2 (by omega)]
  · rw [e1 3 (by omega) (by omega), bg_lo (by omega), bg_lo (by omega), h0 3 (by omega)]
  · rw [e1 45 (by omega) (by omega), bg_41 (by omega) (by omega), bg_41 (by omega) (by omega)]
  · left
    rw [e44, bg_41 (by omega) (by omega)]
    exact ⟨rfl, rfl⟩
  · rw [e1 48 (by omega) (by omega), bg_wet (by omega) (by omega), bg_wet (by omega) (by omega), w2]
  · rw [e1 49 (by omega) (by omega), bg_wet (by omega) (by omega), bg_wet (by omega) (by omega), w2]
  · rw [e1 50 (by omega) (by omega), bg_50 (by omega) (by omega), bg_50 (by omega) (by omega)]
  · rw [e1 51 (by omega) (by omega), bg_50 (by omega) (by omega), bg_50 (by omega) (by omega)]
  · rw [e1 _ (by omega) (by omega), bg_w (by rw [hnY]; exact hi) (by omega), bg_w (by rw [hnX]; omega) (by omega), h0 1 (by omega)]
  · rw [e1 _ (by omega) (by omega), bg_m (by rw [hnY]; exact hi) (by omega), bg_m (by rw [hnX]; omega) (by omega), h0 1 (by omega)]
  · rw [e1 _ (by omega) (by omega), bg_j (by rw [hnY]; exact hi) (by omega), bg_j (by rw [hnX]; omega) (by omega)]
  · rw [bg_lo (by omega)]; exact h4
  · rw [e1 4 (by omega) (by omega), bg_lo (by omega)]; exact h4'
  · rw [bg_41 (by omega) (by omega)]
  · exact e41
  · rw [e1 42 (by omega) (by omega), bg_41 (by omega) (by omega), bg_41 (by omega) (by omega)]
  · rw [e1 _ (by omega) (by omega), e1 _ (by omega) (by omega), e1 _ (by omega) (by omega), bg_lo (by omega), bg_lo (by omega), bg_lo (by omega), bg_lo (by omega), bg_lo (by omega), bg_lo (by omega)]
    exact h6 i hi
theorem go_tr {n mm : Nat} {Y : Nat → Int32} (hm : mm ≤ 11) (hg : gD (bgS Y) n (mm + 1)) (h4 : Y 4 = iN (mm + 1)) (h5 : Y 5 = iN 5) (k : Nat) : goS (bgS Y) (k + 1) = goS (onc1 (bgS Y)) (k + 1) := by
  have k41 : bgS Y 41 = iN 0 := bg_41 (by omega) (by omega)
  have k5 : bgS Y (5 + 3 * ix (bgS Y 41)) = iN 5 := by rw [k41, ix_iN (by omega), bg_lo (by omega)]; exact h5
  obtain ⟨at_, g, hp⟩ := hg.2
  have a0 : at_ = 0 := by
    have := hp.2.2.1
    rw [bg_41 (by omega) (by omega)] at this
    exact (iN_inj (by have := hp.2.2.2.1; omega) (by omega)).mp this.symm
  subst a0
  have e5 : bgS Y (5 + 3 * 0) = iN 5 := by rw [bg_lo (by omega)]; exact h5
  obtain ⟨hp1, -⟩ := plD_onc1 hp (by omega) e5 (by omega) (by omega)
  have e1 : onceS 12 (bgS Y) = onceS 12 (onc1 (bgS Y)) := by
    have s : onceS 12 (bgS Y) = onceS 11 (onc1 (bgS Y)) := by
      conv => lhs; unfold onceS
      rw [if_neg (fun e => by
        rw [bg_lo (by omega), h4, bg_41 (by omega) (by omega)] at e
        have := (iN_le (by omega) (by omega)).mp e
        omega), if_neg (fun e => by
        rw [k5] at e
        exact absurd e (by decide))]
    rw [s]
    exact once_more hp1 (by omega) (by omega)
  induction k with
  | zero =>
    show go1 (bgS Y) = go1 (onc1 (bgS Y))
    unfold go1
    rw [e1]
  | succ k ih =>
    show go1 (goS (bgS Y) (k + 1)) = go1 (goS (onc1 (bgS Y)) (k + 1))
    rw [ih]
theorem MR_kind {n : Nat} {D E : Nat → Int32} (h : MR n D E) : kindS 1 E = kindS 0 D := by
  obtain ⟨g0, g2, g3, g45, g44, gw, gb, gd⟩ := h
  have b : E (50 + 1) = D (50 + 0) := gb.2
  have w : E (48 + 1) = D (48 + 0) := gw.2
  unfold kindS
  rw [b, w, g45, g2]
  have x : (E 44 = iN 1) ↔ (D 44 = iN 0) := by
    rcases g44 with ⟨x, y⟩ | ⟨x, y⟩
    · rw [x, y]
      exact ⟨fun _ => rfl, fun _ => rfl⟩
    · rw [x, y]
      exact ⟨fun e => absurd e (by decide), fun e => absurd e (by decide)⟩
  by_cases c : D 44 = iN 0
  · rw [if_pos (x.mpr c), if_pos c]
  · rw [if_neg (fun e => c (x.mp e)), if_neg c]

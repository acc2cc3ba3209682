/-! juice stays within what a slab begins with; the loss as it is cut, too -/
def jB (D : Nat → Int32) (n : Nat) : Prop := ∀ i, i < n → (D (92 + i)).toInt ≤ 100
theorem juice_le {j w : Int32} (hj : 0 ≤ j.toInt) (hw : 0 ≤ w.toInt) (hw2 : w.toInt ≤ 3000) : (juiceS j w).toInt ≤ j.toInt := by
  have hr := t_rng j
  unfold juiceS
  split
  · omega
  · next c =>
    have c2 : ¬ w.toInt ≤ 550 := fun e => c (t_le.mpr (by rw [li (by omega)]; omega))
    have e1 : (w - iN 550).toInt = w.toInt - 550 := t_sub (by rw [li (by omega)]; omega) (by rw [li (by omega)]; omega)
    have e2 := t_div100 (a := w - iN 550)
    rw [e1, if_pos (by omega)] at e2
    have e3 : (j - (w - iN 550) / iN 100).toInt = j.toInt - (w.toInt - 550) / 100 := by
      rw [t_sub (by rw [e2]; omega) (by rw [e2]; omega), e2]
    split
    · rw [li (by omega)]
      omega
    · rw [e3]
      omega
theorem jB_tick {D : Nat → Int32} {n : Nat} {k q : Int32} (h : wfD D n) (hq : qR q) (hb : jB D n) : jB (tickS k q D) n := by
  obtain ⟨hn, hm, hw, hj⟩ := h
  have h2 := hn.2
  have hnn := okN_n hn
  intro i hi
  unfold tickS
  rw [hnn]
  have w1 := bath_R (k := k) (s := 1) (by omega) (dry_R (s := 1) (i := n - 1) (by omega) (bath_R (k := k) (s := 0) (by omega) (dry_R (s := 0) (i := 0) (by omega) (warms_R (k := k) hn hw hq))))
  have n1 : okN (bathS k 1 (dryS 1 (n - 1) (bathS k 0 (dryS 0 0 (warmsS k q D))))) n := okN_keep hn (by rw [bathS_0 (by omega), dryS_0 (by omega) (by omega), bathS_0 (by omega), dryS_0 (by omega) (by omega), warmsS_lo (by omega)])
  have e : bathS k 1 (dryS 1 (n - 1) (bathS k 0 (dryS 0 0 (warmsS k q D)))) (92 + i) = D (92 + i) := by
    rw [bathS_0 (by omega), dryS_0 (by omega) (by omega), bathS_0 (by omega), dryS_0 (by omega) (by omega)]
    unfold warmsS
    rw [spD_out (by rw [hnn]; omega)]
  rw [endS_0 (by omega) (by omega) (by omega) (by omega), brownS_0 (by omega), brownS_0 (by omega)]
  generalize bathS k 1 (dryS 1 (n - 1) (bathS k 0 (dryS 0 0 (warmsS k q D)))) = E at *
  have w2 := w1 i (by rw [okN_n n1]; exact hi)
  have e2 : mostS E n (92 + i) = juiceS (E (92 + i)) (E (52 + i)) := by
    unfold mostS
    rw [spD_in (by omega) (by omega), show 92 + i - 40 = 52 + i by omega]
  rw [e2, e]
  have := juice_le (j := D (92 + i)) (hj i (by rw [hnn]; exact hi)) w2.1 w2.2
  have := hb i hi
  omega
theorem jB_cg {D E : Nat → Int32} {n : Nat} (h : jB D n) (hn : n ≤ 20) (e : ∀ p, 92 ≤ p → p < 112 → E p = D p) : jB E n := fun i hi => by
  rw [e _ (by omega) (by omega)]
  exact h i hi
theorem jB_rest {D : Nat → Int32} {n k : Nat} (h : wfD D n) (hb : jB D n) : jB (restS D k) n := by
  induction k with
  | zero => exact hb
  | succ k ih => exact jB_tick (wf_rest h) qR_0 ih
theorem jB_go1 {D : Nat → Int32} {n mm : Nat} (h : gD D n mm) (hb : jB D n) : jB (go1 D) n := by
  have h20 := h.1.1.2
  obtain ⟨E, at_, g, eE, hw, hpl, hm, ⟨c, e, -⟩ | ⟨c, a, b, c', h1, h2, h3, h4, h5, h6, h7, h8, -, e⟩⟩ := go1_cases h
  · have hE : jB E n := jB_cg hb (by omega) (fun p g1 g2 => by rw [eE, once_p (by omega) (by omega) (by omega) (by omega)])
    rw [e]
    exact jB_tick hw qR_0 hE
  · have hE : jB E n := jB_cg hb (by omega) (fun p g1 g2 => by rw [eE, once_p (by omega) (by omega) (by omega) (by omega)])
    have hT := jB_tick (k := iN a) hw (qR_N h6) hE
    rw [e]
    split
    · exact jB_cg hT (by omega) (fun p g1 g2 => by rw [up_ne (by omega), up_ne (by omega)])
    · exact jB_cg hT (by omega) (fun p g1 g2 => by rw [up_ne (by omega)])
theorem jB_go {D : Nat → Int32} {n mm k : Nat} (h : gD D n mm) (hb : jB D n) : jB (goS D k) n := by
  induction k with
  | zero => exact hb
  | succ k ih => exact jB_go1 (gD_go h) ih
theorem jB_mk {X : Nat → Int32} {n mm : Nat} (hs : slR X n) (hp : plR X mm) : jB (mkS X) n := by
  have h20 := hs.1.2
  have hnn := okN_n hs.1
  have h0 : jB (bgS X) n := fun i hi => by
    rw [bg_j (by omega) (by omega), li (by omega)]
    omega
  unfold mkS
  exact jB_cg (jB_go (k := ix (tkS X)) (gD_bg hs hp) h0) (by omega) (fun p g1 g2 => once_p (by omega) (by omega) (by omega) (by omega))
theorem lossA_R {j w : Int32} (hj : 0 ≤ j.toInt) (hj2 : j.toInt ≤ 100) (hw : 0 ≤ w.toInt) (hw2 : w.toInt ≤ 3000) : 0 ≤ (lossA j w).toInt ∧ (lossA j w).toInt ≤ 100 := by
  have e1 : (w - iN 400).toInt = w.toInt - 400 := t_sub (by rw [li (by omega)]; omega) (by rw [li (by omega)]; omega)
  unfold lossA
  split
  · rw [li (by omega)]
    omega
  · next c =>
    have c2 : ¬ w.toInt ≤ 400 := fun e => c (t_le.mpr (by rw [e1, li (by omega)]; omega))
    have e2 := t_div100 (a := w - iN 400)
    rw [e1, if_pos (by omega)] at e2
    generalize (w - iN 400) / iN 100 = d at *
    have hd : 0 ≤ d.toInt ∧ d.toInt ≤ 26 := by omega
    have hm0 : 0 ≤ j.toInt * d.toInt := Int.mul_nonneg hj hd.1
    have hm1 : j.toInt * d.toInt ≤ 100 * 26 := Int.mul_le_mul hj2 hd.2 hd.1 (by omega)
    have e3 : (j * d).toInt = j.toInt * d.toInt := t_mul (by omega) (by omega)
    have e4 := t_div20 (a := j * d)
    rw [e3, if_pos hm0] at e4
    split
    · omega
    · next c3 =>
      have : ¬ j.toInt < ((j * d) / iN 20).toInt := fun e => c3 (t_lt.mpr e)
      omega
theorem loss_R {D : Nat → Int32} {n : Nat} (h : wfD D n) (hb : jB D n) : ∃ k, k ≤ 2000 ∧ lossS D = iN k := by
  obtain ⟨hn, hm, hw, hj⟩ := h
  have h2 := hn.2
  have hnn := okN_n hn
  have key : ∀ c, c ≤ n → ∃ k, k ≤ 100 * c ∧ sumS (fun i => lossA (D (92 + i)) (D (52 + i))) c = iN k := by
    intro c
    induction c with
    | zero => exact fun _ => ⟨0, by omega, rfl⟩
    | succ c ih =>
      intro hc
      obtain ⟨k, h3, h4⟩ := ih (by omega)
      have r := lossA_R (hj c (by rw [hnn]; omega)) (hb c (by omega)) (hw c (by rw [hnn]; omega)).1 (hw c (by rw [hnn]; omega)).2
      have e := iN_ex r.1
      have hi := ix_t r.1
      refine ⟨k + ix (lossA (D (92 + c)) (D (52 + c))), by omega, ?_⟩
      show sumS _ c + lossA (D (92 + c)) (D (52 + c)) = _
      rw [h4]
      conv => lhs; rw [e]
      exact iN_add _ _
  obtain ⟨k, h3, h4⟩ := key n (by omega)
  refine ⟨k, by omega, ?_⟩
  unfold lossS
  rw [hnn]
  exact h4

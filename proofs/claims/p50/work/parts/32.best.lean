/-! the best of many: what the class's choices are worth -/
theorem N_m1' {k : Nat} (h : k ≤ 100000) : ¬ iN k ≤ -iN 1 := by
  rw [t_le, li (by omega), show (-iN 1).toInt = -1 from by decide]
  omega
theorem mxA_max {F : Nat → Int32} {g : Nat → Nat} {a : Nat} {x0 : Int32} (hF : ∀ j, F j = iN (g j)) (hg : ∀ j, g j ≤ 100000) (b : Nat) (hab : a < b) : ∃ t, a ≤ t ∧ t < b ∧ mxA F a (x0, -iN 1) b = (iN t, iN (g t)) ∧ ∀ s, a ≤ s → s < b → g s ≤ g t ∧ (g s = g t → t ≤ s) := by
  obtain ⟨d, rfl⟩ : ∃ d, b = a + 1 + d := ⟨b - a - 1, by omega⟩
  clear hab
  induction d with
  | zero =>
    refine ⟨a, Nat.le_refl a, by omega, ?_, fun s h1 h2 => ?_⟩
    · rw [Nat.add_zero, mxA_s (Nat.le_refl a), mxA_0, if_neg (by
        rw [hF]
        exact N_m1' (hg a)), hF]
    · have : s = a := by omega
      rw [this]
      exact ⟨Nat.le_refl _, fun _ => Nat.le_refl _⟩
  | succ d ih =>
    obtain ⟨t, h1, h2, h3, h4⟩ := ih
    have e := mxA_s (f := F) (a := a) (j := a + 1 + d) (s0 := (x0, -iN 1)) (by omega)
    have g1 := hg t
    have g2 := hg (a + 1 + d)
    by_cases c : g (a + 1 + d) ≤ g t
    · refine ⟨t, h1, by omega, ?_, fun s k1 k2 => ?_⟩
      · rw [show a + 1 + (d + 1) = a + 1 + d + 1 by omega, e, h3]
        rw [if_pos (by rw [hF]; exact (iN_le (by omega) (by omega)).mpr c)]
      · by_cases c2 : s < a + 1 + d
        · exact h4 s k1 c2
        · have : s = a + 1 + d := by omega
          rw [this]
          exact ⟨c, fun _ => by omega⟩
    · refine ⟨a + 1 + d, by omega, by omega, ?_, fun s k1 k2 => ?_⟩
      · rw [show a + 1 + (d + 1) = a + 1 + d + 1 by omega, e, h3]
        rw [if_neg (by rw [hF]; exact fun x => c ((iN_le (by omega) (by omega)).mp x)), hF]
      · by_cases c2 : s < a + 1 + d
        · have := h4 s k1 c2
          exact ⟨by omega, fun e => by omega⟩
        · have : s = a + 1 + d := by omega
          rw [this]
          exact ⟨Nat.le_refl _, fun _ => Nat.le_refl _⟩
theorem mnA_min {F : Nat → Int32} {g : Nat → Nat} (hF : ∀ j, F j = iN (g j)) (hg : ∀ j, g j ≤ 100000) (b : Nat) (hb : 1 ≤ b) : ∃ t, t < b ∧ mnA F 1 (iN 0, F 0) b = (iN t, iN (g t)) ∧ ∀ s, s < b → g t ≤ g s := by
  obtain ⟨d, rfl⟩ : ∃ d, b = 1 + d := ⟨b - 1, by omega⟩
  clear hb
  induction d with
  | zero => exact ⟨0, by omega, by rw [Nat.add_zero, mnA_0, hF], fun s h => by rw [show s = 0 by omega]; exact Nat.le_refl _⟩
  | succ d ih =>
    obtain ⟨t, h2, h3, h4⟩ := ih
    have e := mnA_s (f := F) (a := 1) (j := 1 + d) (s0 := (iN 0, F 0)) (by omega)
    have g1 := hg t
    have g2 := hg (1 + d)
    by_cases c : g t ≤ g (1 + d)
    · refine ⟨t, by omega, ?_, fun s k2 => ?_⟩
      · rw [show 1 + (d + 1) = 1 + d + 1 by omega, e, h3]
        rw [if_pos (by rw [hF]; exact (iN_le (by omega) (by omega)).mpr c)]
      · by_cases c2 : s < 1 + d
        · exact h4 s c2
        · rw [show s = 1 + d by omega]
          exact c
    · refine ⟨1 + d, by omega, ?_, fun s k2 => ?_⟩
      · rw [show 1 + (d + 1) = 1 + d + 1 by omega, e, h3]
        rw [if_neg (by rw [hF]; exact fun x => c ((iN_le (by omega) (by omega)).mp x)), hF]
      · by_cases c2 : s < 1 + d
        · have := h4 s c2
          omega
        · rw [show s = 1 + d by omega]
          exact Nat.le_refl _
theorem fiA_at {F : Nat → Int32} {s0 : Int32 × Int32} (d : Nat) : ∃ t, 1 ≤ t ∧ t < 2 + d ∧ fiA F s0 (2 + d) = (iN t, F t) := by
  induction d with
  | zero => exact ⟨1, by omega, by omega, fiA_2⟩
  | succ d ih =>
    obtain ⟨t, h1, h2, h3⟩ := ih
    have e := fiA_s (f := F) (s0 := s0) (j := 2 + d) (by omega)
    rw [show 2 + (d + 1) = 2 + d + 1 by omega, e, h3]
    split
    · exact ⟨t, h1, by omega, rfl⟩
    · exact ⟨2 + d, by omega, by omega, rfl⟩
theorem thF_cg {f g : Nat → Int32} (k : Nat) (h : ∀ j, 3 ≤ j → j < 3 + k → f j = g j) : thF f k = thF g k := by
  induction k with
  | zero => rfl
  | succ k ih =>
    unfold thF
    rw [ih (fun j h1 h2 => h j h1 (by omega)), h (3 + k) (by omega) (by omega)]
theorem thA_one {f : Nat → Int32} (h : ∀ j, 3 ≤ j → j < 21 → f j = iN 1) : thA f 21 = (iN 18, iN 3) := by
  have e : thA f 21 = thF (fun _ => iN 1) 18 := thF_cg (f := f) (g := fun _ => iN 1) 18 (fun j h1 h2 => h j h1 (by omega))
  rw [e]
  decide +kernel
theorem fiA_cg {f g : Nat → Int32} {s0 : Int32 × Int32} (h : ∀ j, 1 ≤ j → f j = g j) (j : Nat) : fiA f s0 j = fiA g s0 j := by
  unfold fiA mnA
  split
  · rfl
  · rw [h 1 (by omega)]
    have key : ∀ k, mnF f 2 (iN 1, g 1) k = mnF g 2 (iN 1, g 1) k := by
      intro k
      induction k with
      | zero => rfl
      | succ k ih =>
        unfold mnF
        rw [ih, h (2 + k) (by omega)]
    exact key _
def ruO (x : Nat) : Int32 := sumS (fun i => if iN x * iN (3 + i) < iN 1 then iN 1 - iN x * iN (3 + i) else iN x * iN (3 + i) - iN 1) 18
theorem ru_one : (fiA ruO (-iN 9, iN 0) 21).1 = iN 1 := by decide +kernel
theorem tillF_1 {P : Nat → Bool} {f k : Nat} (h : P (k + 1) = true) : tillF P (f + 1) k = iN (k + 1) := if_pos h
/-! in a bath: warmer without, warmer within -/
def leD (D E : Nat → Int32) (n : Nat) : Prop := ∀ i, i < n → (D (52 + i)).toInt ≤ (E (52 + i)).toInt
theorem bath_skin {q w v w' v' : Int32} {q' : Int32} (e0 : q'.toInt = q.toInt + 1) (q0 : 0 ≤ q.toInt) (q1 : q.toInt ≤ 9) (h0 : 0 ≤ w.toInt) (h1 : w'.toInt ≤ 1000) (h2 : 0 ≤ v.toInt) (h3 : v'.toInt ≤ 1000) (hw : w.toInt ≤ w'.toInt) (hv : v.toInt ≤ v'.toInt) : (w + (v - w) / iN 4 + (iN 100 * q - w) / iN 2).toInt ≤ (w' + (v' - w') / iN 4 + (iN 100 * q' - w') / iN 2).toInt := by
  have m : ∀ x : Int32, 0 ≤ x.toInt → x.toInt ≤ 30 → (iN 100 * x).toInt = 100 * x.toInt := fun x a b => by
    rw [t_mul (by rw [li (by omega)]; omega) (by rw [li (by omega)]; omega), li (by omega)]
    rfl
  have m1 := m q (by omega) (by omega)
  have m2 := m q' (by omega) (by omega)
  have a1 : (iN 100 * q - w).toInt = 100 * q.toInt - w.toInt := by rw [t_sub (by omega) (by omega), m1]
  have a2 : (iN 100 * q' - w').toInt = 100 * q'.toInt - w'.toInt := by rw [t_sub (by omega) (by omega), m2]
  have b1 : (v - w).toInt = v.toInt - w.toInt := t_sub (by omega) (by omega)
  have b2 : (v' - w').toInt = v'.toInt - w'.toInt := t_sub (by omega) (by omega)
  have c1 := t_div4 (a := v - w)
  have c2 := t_div4 (a := v' - w')
  have d1 := t_div2 (a := iN 100 * q - w)
  have d2 := t_div2 (a := iN 100 * q' - w')
  rw [b1] at c1
  rw [b2] at c2
  rw [a1] at d1
  rw [a2] at d2
  have r1 : -1000 ≤ ((v - w) / iN 4).toInt ∧ ((v - w) / iN 4).toInt ≤ 1000 := by rw [c1]; split <;> omega
  have r2 : -1000 ≤ ((v' - w') / iN 4).toInt ∧ ((v' - w') / iN 4).toInt ≤ 1000 := by rw [c2]; split <;> omega
  have r3 : -1000 ≤ ((iN 100 * q - w) / iN 2).toInt ∧ ((iN 100 * q - w) / iN 2).toInt ≤ 1000 := by rw [d1]; split <;> omega
  have r4 : -1000 ≤ ((iN 100 * q' - w') / iN 2).toInt ∧ ((iN 100 * q' - w') / iN 2).toInt ≤ 1000 := by rw [d2]; split <;> omega
  have s1 : (w + (v - w) / iN 4).toInt = w.toInt + ((v - w) / iN 4).toInt := t_add (by omega) (by omega)
  have s2 : (w' + (v' - w') / iN 4).toInt = w'.toInt + ((v' - w') / iN 4).toInt := t_add (by omega) (by omega)
  rw [t_add (by omega) (by omega), s1, t_add (by omega) (by omega), s2, c1, c2, d1, d2]
  split <;> split <;> split <;> split <;> omega
theorem bath_mid {w u v w' u' v' : Int32} (h0 : 0 ≤ w.toInt) (h1 : w'.toInt ≤ 1000) (h2 : 0 ≤ v.toInt) (h3 : v'.toInt ≤ 1000) (h4 : 0 ≤ u.toInt) (h5 : u'.toInt ≤ 1000) (hw : w.toInt ≤ w'.toInt) (hv : v.toInt ≤ v'.toInt) (hu : u.toInt ≤ u'.toInt) : (w + ((u - w) + (v - w)) / iN 4).toInt ≤ (w' + ((u' - w') + (v' - w')) / iN 4).toInt := by
  have b1 : (v - w).toInt = v.toInt - w.toInt := t_sub (by omega) (by omega)
  have b2 : (v' - w').toInt = v'.toInt - w'.toInt := t_sub (by omega) (by omega)
  have b3 : (u - w).toInt = u.toInt - w.toInt := t_sub (by omega) (by omega)
  have b4 : (u' - w').toInt = u'.toInt - w'.toInt := t_sub (by omega) (by omega)
  have a1 : ((u - w) + (v - w)).toInt = u.toInt - w.toInt + (v.toInt - w.toInt) := by rw [t_add (by omega) (by omega), b3, b1]
  have a2 : ((u' - w') + (v' - w')).toInt = u'.toInt - w'.toInt + (v'.toInt - w'.toInt) := by rw [t_add (by omega) (by omega), b4, b2]
  have c1 := t_div4 (a := (u - w) + (v - w))
  have c2 := t_div4 (a := (u' - w') + (v' - w'))
  rw [a1] at c1
  rw [a2] at c2
  have r1 : -1000 ≤ (((u - w) + (v - w)) / iN 4).toInt ∧ (((u - w) + (v - w)) / iN 4).toInt ≤ 1000 := by rw [c1]; split <;> omega
  have r2 : -1000 ≤ (((u' - w') + (v' - w')) / iN 4).toInt ∧ (((u' - w') + (v' - w')) / iN 4).toInt ≤ 1000 := by rw [c2]; split <;> omega
  rw [t_add (by omega) (by omega), t_add (by omega) (by omega), c1, c2]
  split <;> split <;> omega
theorem bW_id {t w : Int32} (h0 : 0 ≤ w.toInt) (h1 : w.toInt ≤ 1000) : bW t w = w := by
  unfold bW
  split
  · rfl
  · rw [if_pos]
    have e : (w - iN 1000).toInt = w.toInt - 1000 := by rw [t_sub (by rw [li (by omega)]; omega) (by rw [li (by omega)]; omega), li (by omega)]; rfl
    rw [t_le, e, li (by omega)]
    omega
theorem bath_tick {n : Nat} {D E : Nat → Int32} {q q' : Int32} (hn : okN D n) (hE : okN E n) (hD : wRh 1000 D n) (hE2 : wRh 1000 E n) (h : leD D E n) (e0 : q'.toInt = q.toInt + 1) (q0 : 0 ≤ q.toInt) (q1 : q.toInt ≤ 9) : leD (tickS (iN 3) q D) (tickS (iN 3) q' E) n ∧ wRh 1000 (tickS (iN 3) q D) n ∧ wRh 1000 (tickS (iN 3) q' E) n := by
  have hb := hn.2
  have qa : qRh 1000 q := ⟨by omega, by omega, by omega⟩
  have qb : qRh 1000 q' := ⟨by omega, by omega, by omega⟩
  have wa := fun i (hi : i < n) => warm_Rh (k := iN 3) (by omega) hn hD qa hi
  have wb := fun i (hi : i < n) => warm_Rh (k := iN 3) (by omega) hE hE2 qb hi
  have na : ∀ i, i < n → nw (iN 3) q D n i = warmS (iN 3) q D i := fun i hi => by
    have a := wa i hi
    unfold nw
    split
    · next c => subst c; exact bW_id a.1 a.2
    · split
      · exact bW_id a.1 a.2
      · rfl
  have nb : ∀ i, i < n → nw (iN 3) q' E n i = warmS (iN 3) q' E i := fun i hi => by
    have a := wb i hi
    unfold nw
    split
    · next c => subst c; exact bW_id a.1 a.2
    · split
      · exact bW_id a.1 a.2
      · rfl
  refine ⟨fun i hi => ?_, fun i hi => ?_, fun i hi => ?_⟩
  · rw [tick_w hn hi, tick_w hE hi, na i hi, nb i hi]
    have o3 : ∀ (x w : Int32) (b : Prop) [Decidable b], outS (iN 3) x b w = (iN 100 * x - w) / iN 2 := fun x w b _ => by
      unfold outS
      rw [if_neg (by decide), if_neg (by decide), if_pos rfl]
    have d := fun j (hj : j < n) => hD j hj
    have e := fun j (hj : j < n) => hE2 j hj
    unfold warmS
    rw [okN_n hn, okN_n hE]
    by_cases c0 : i = 0
    · subst c0
      rw [if_pos rfl, if_pos rfl, o3, o3]
      have x0 := d 0 (by omega)
      have x1 := d 1 (by omega)
      have y0 := e 0 (by omega)
      have y1 := e 1 (by omega)
      exact bath_skin e0 q0 q1 x0.1 y0.2 x1.1 y1.2 (h 0 (by omega)) (h 1 (by omega))
    · rw [if_neg c0, if_neg c0]
      have x0 := d i (by omega)
      have x1 := d (i - 1) (by omega)
      have y0 := e i (by omega)
      have y1 := e (i - 1) (by omega)
      have z0 := h i (by omega)
      have z1 := h (i - 1) (by omega)
      rw [show 52 + (i - 1) = 52 + i - 1 by omega] at x1 y1 z1
      by_cases c1 : i + 1 = n
      · rw [if_pos c1, if_pos c1, o3, o3]
        exact bath_skin e0 q0 q1 x0.1 y0.2 x1.1 y1.2 z0 z1
      · rw [if_neg c1, if_neg c1]
        have x2 := d (i + 1) (by omega)
        have y2 := e (i + 1) (by omega)
        have z2 := h (i + 1) (by omega)
        rw [show 52 + (i + 1) = 52 + i + 1 by omega] at x2 y2 z2
        exact bath_mid x0.1 y0.2 x2.1 y2.2 x1.1 y1.2 z0 z2 z1
  · rw [tick_w hn hi]
    exact nw_Rh (by omega) hn hD qa hi
  · rw [tick_w hE hi]
    exact nw_Rh (by omega) hE hE2 qb hi
theorem bath_ov {n : Nat} {D : Nat → Int32} {q : Nat} (hw : wfD D n) (hD : wRh 1000 D n) (q1 : q ≤ 9) (k : Nat) : leD (ovS (iN 3) (iN q) D k) (ovS (iN 3) (iN (q + 1)) D k) n ∧ wRh 1000 (ovS (iN 3) (iN q) D k) n ∧ wRh 1000 (ovS (iN 3) (iN (q + 1)) D k) n := by
  induction k with
  | zero => exact ⟨fun i hi => Int.le_refl _, hD, hD⟩
  | succ k ih =>
    obtain ⟨h1, h2, h3⟩ := ih
    exact bath_tick (wf_ov (k := k) hw (qR_N (b := q) (by omega))).1 (wf_ov (k := k) hw (qR_N (b := q + 1) (by omega))).1 h2 h3 h1 (by rw [li (by omega), li (by omega)]; rfl) (by rw [li (by omega)]; omega) (by rw [li (by omega)]; omega)
theorem safG_t {w : Int32} (h : 0 ≤ w.toInt) (h2 : w.toInt ≤ 3000) : (safG w).toInt = if w.toInt ≤ 500 then 0 else (w.toInt - 500) / 10 := by
  have e : (w - iN 500).toInt = w.toInt - 500 := by rw [t_sub (by rw [li (by omega)]; omega) (by rw [li (by omega)]; omega), li (by omega)]; rfl
  unfold safG
  by_cases c : w ≤ iN 500
  · have c2 : w.toInt ≤ 500 := by
      have := t_le.mp c
      rw [li (by omega)] at this
      omega
    rw [if_pos c, if_pos c2]
    rfl
  · have c2 : ¬ w.toInt ≤ 500 := fun e => c (t_le.mpr (by rw [li (by omega)]; omega))
    rw [if_neg c, if_neg c2]
    have := t_div10 (a := w - iN 500)
    rw [e, if_pos (by omega)] at this
    exact this
theorem safT_le {f g : Nat → Int32} (hf : ∀ j, 0 ≤ (f j).toInt ∧ (f j).toInt ≤ 3000) (hg : ∀ j, 0 ≤ (g j).toInt ∧ (g j).toInt ≤ 3000) (h : ∀ j, (f j).toInt ≤ (g j).toInt) (k : Nat) (hk : k ≤ 1000) : 0 ≤ (safT (fun j => safG (f j)) k).toInt ∧ (safT (fun j => safG (f j)) k).toInt ≤ (safT (fun j => safG (g j)) k).toInt ∧ (safT (fun j => safG (g j)) k).toInt ≤ 300 * k := by
  induction k with
  | zero =>
    have z : (iN 0).toInt = 0 := li (by omega)
    exact ⟨by show 0 ≤ (iN 0).toInt; omega, by show (iN 0).toInt ≤ (iN 0).toInt; omega, by show (iN 0).toInt ≤ _; omega⟩
  | succ k ih =>
    have ih := ih (by omega)
    have a := safG_t (hf (k + 1)).1 (hf (k + 1)).2
    have b := safG_t (hg (k + 1)).1 (hg (k + 1)).2
    have f1 := hf (k + 1)
    have g1 := hg (k + 1)
    have h1 := h (k + 1)
    have a2 : 0 ≤ (safG (f (k + 1))).toInt ∧ (safG (f (k + 1))).toInt ≤ (safG (g (k + 1))).toInt ∧ (safG (g (k + 1))).toInt ≤ 300 := by
      rw [a, b]
      split <;> split <;> omega
    show 0 ≤ (safT (fun j => safG (f j)) k + safG (f (k + 1))).toInt ∧ (safT (fun j => safG (f j)) k + safG (f (k + 1))).toInt ≤ (safT (fun j => safG (g j)) k + safG (g (k + 1))).toInt ∧ (safT (fun j => safG (g j)) k + safG (g (k + 1))).toInt ≤ 300 * (k + 1 : Nat)
    rw [t_add (by omega) (by omega), t_add (by omega) (by omega)]
    omega
/-- what is safe is safe in a warmer bath, no later -/
theorem safe_mono {q n j : Nat} {X : Nat → Int32} (hX : slR X n) (hX4 : X 4 = iN 0) (h1 : 10 * (X 1).toInt ≤ 1000) (hq : 2 ≤ q ∧ q ≤ 9) (hj : j ≤ 200) (h : saZ q X = iN j) : ∃ i, 1 ≤ i ∧ i ≤ j ∧ saZ (q + 1) X = iN i := by
  have hn := hX.1
  have hb := hn.2
  have hnn := okN_n hn
  have wf0 := wf_bg hX (mD_0 hX4)
  have e : (iN 10 * X 1).toInt = 10 * (X 1).toInt := by
    have := hX.2
    rw [t_mul (by rw [li (by omega)]; omega) (by rw [li (by omega)]; omega), li (by omega)]
    rfl
  have hw0 : wRh 1000 (bgS X) n := fun i hi => by
    have := hX.2
    rw [bg_w (by rw [hnn]; exact hi) (by omega), e]
    omega
  have ov := fun k => bath_ov (q := q) wf0 hw0 hq.2 k
  have mid : ∀ (q' k : Nat), q' ≤ 30 → saW q' X k = ovS (iN 3) (iN q') (bgS X) k (52 + n / 2) := fun q' k hq' => by
    unfold saW midW
    rw [okN_n (wf_ov (k := k) (kd_ := iN 3) wf0 (qR_N hq')).1]
  have A : ∀ k, 0 ≤ (saW q X k).toInt ∧ (saW q X k).toInt ≤ 3000 := fun k => by
    rw [mid q k (by omega)]
    have := (ov k).2.1 (n / 2) (by omega)
    omega
  have B : ∀ k, 0 ≤ (saW (q + 1) X k).toInt ∧ (saW (q + 1) X k).toInt ≤ 3000 := fun k => by
    rw [mid (q + 1) k (by omega)]
    have := (ov k).2.2 (n / 2) (by omega)
    omega
  have C : ∀ k, (saW q X k).toInt ≤ (saW (q + 1) X k).toInt := fun k => by
    rw [mid q k (by omega), mid (q + 1) k (by omega)]
    exact (ov k).1 (n / 2) (by omega)
  have key : ∀ f k j : Nat, f + k ≤ 200 → tillF (fun j => !decide (safT (fun j => safG (saW q X j)) j < iN 300)) f k = iN j → j ≤ 200 → ∃ i, k < i ∧ i ≤ j ∧ tillF (fun j => !decide (safT (fun j => safG (saW (q + 1) X j)) j < iN 300)) f k = iN i := by
    have P : ∀ k, k ≤ 200 → (!decide (safT (fun j => safG (saW q X j)) k < iN 300)) = true → (!decide (safT (fun j => safG (saW (q + 1) X j)) k < iN 300)) = true := by
      intro k hk h
      have s := safT_le A B C k (by omega)
      rw [Bool.not_eq_true', decide_eq_false_iff_not] at h ⊢
      intro c
      apply h
      have c := t_lt.mp c
      exact t_lt.mpr (by omega)
    intro f
    induction f with
    | zero =>
      intro k j hk e hj
      exact absurd e.symm (of_eq_false (N_m9 (by omega)))
    | succ f ih =>
      intro k j hk e hj
      unfold tillF at e ⊢
      by_cases c : (!decide (safT (fun j => safG (saW q X j)) (k + 1) < iN 300)) = true
      · rw [if_pos c] at e
        rw [if_pos (P _ (by omega) c)]
        exact ⟨k + 1, by omega, by have := (iN_inj (by omega) (by omega)).mp e; omega, rfl⟩
      · rw [if_neg c] at e
        by_cases c2 : (!decide (safT (fun j => safG (saW (q + 1) X j)) (k + 1) < iN 300)) = true
        · rw [if_pos c2]
          refine ⟨k + 1, by omega, ?_, rfl⟩
          rcases tillF_r (fun j => !decide (safT (fun j => safG (saW q X j)) j < iN 300)) f (k + 1) with x | ⟨j', x1, x2, x3⟩
          · rw [x] at e
            exact absurd e.symm (of_eq_false (N_m9 (by omega)))
          · rw [x3] at e
            have := (iN_inj (by omega) (by omega)).mp e
            omega
        · rw [if_neg c2]
          obtain ⟨i, i1, i2, i3⟩ := ih (k + 1) j (by omega) e hj
          exact ⟨i, by omega, i2, i3⟩
  obtain ⟨i, i1, i2, i3⟩ := key 200 0 j (by omega) h hj
  exact ⟨i, i1, i2, i3⟩

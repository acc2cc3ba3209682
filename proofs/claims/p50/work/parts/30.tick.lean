/-! a tick, place by place -/
def bW (t w : Int32) : Int32 := if t ≤ iN 0 then w else if w - iN 1000 ≤ iN 0 then w else iN 1000
def bTs (t w : Int32) : Int32 := if t ≤ iN 0 then t else if w - iN 1000 ≤ iN 0 then t else if t - (w - iN 1000) / iN 50 - iN 1 < iN 0 then iN 0 else t - (w - iN 1000) / iN 50 - iN 1
def bB (t w b f : Int32) : Int32 := if t = iN 0 then (if w - iN 1400 < iN 0 then b else b + (w - iN 1400) / iN 100 + f / iN 4) else b
theorem dryS_w {s i : Nat} {D : Nat → Int32} (h : 52 + i ≠ 48 + s) : dryS s i D (52 + i) = bW (D (48 + s)) (D (52 + i)) := by
  unfold dryS bW
  split
  · rfl
  · split
    · rfl
    · exact up_eq
theorem dryS_t {s i : Nat} {D : Nat → Int32} (h : 48 + s ≠ 52 + i) : dryS s i D (48 + s) = bTs (D (48 + s)) (D (52 + i)) := by
  unfold dryS bTs
  split
  · rfl
  · split
    · rfl
    · rw [up_ne h, up_eq]
theorem bathS_t {k : Int32} {s : Nat} {D : Nat → Int32} : bathS k s D (48 + s) = if k = iN 3 then iN 30 else D (48 + s) := by
  unfold bathS
  split
  · exact up_eq
  · rfl
theorem brownS_b {s i : Nat} {D : Nat → Int32} : brownS s i D (50 + s) = bB (D (48 + s)) (D (52 + i)) (D (50 + s)) (D 3) := by
  unfold brownS bB
  split
  · split
    · rfl
    · exact up_eq
  · rfl
/-- the warmth that depth i has behind a tick -/
def nw (k q : Int32) (D : Nat → Int32) (n i : Nat) : Int32 := if i = 0 then bW (D 48) (warmS k q D 0) else if i + 1 = n then bW (D 49) (warmS k q D i) else warmS k q D i
/-- the wet that skin s has behind it -/
def nt (k q : Int32) (D : Nat → Int32) (n s : Nat) : Int32 := if k = iN 3 then iN 30 else bTs (D (48 + s)) (warmS k q D (if s = 0 then 0 else n - 1))
/-- the world behind warmth, boiling, bath -/
def wbS (k q : Int32) (D : Nat → Int32) : Nat → Int32 := bathS k 1 (dryS 1 (nD D - 1) (bathS k 0 (dryS 0 0 (warmsS k q D))))
theorem tick_wb {k q : Int32} {D : Nat → Int32} : tickS k q D = endS k (brownS 1 (nD D - 1) (brownS 0 0 (mostS (wbS k q D) (nD D)))) := rfl
theorem warms_w {k q : Int32} {D : Nat → Int32} {n i : Nat} (hn : okN D n) (hi : i < n) : warmsS k q D (52 + i) = warmS k q D i := by
  unfold warmsS
  rw [spD_in (by omega) (by rw [okN_n hn]; omega), show 52 + i - 52 = i by omega]
theorem wb_w {k q : Int32} {D : Nat → Int32} {n i : Nat} (hn : okN D n) (hi : i < n) : wbS k q D (52 + i) = nw k q D n i := by
  have h2 := hn.2
  unfold wbS nw
  rw [okN_n hn, bathS_0 (by omega)]
  by_cases c0 : i = 0
  · subst c0
    rw [if_pos rfl, dryS_0 (by omega) (by omega), bathS_0 (by omega), dryS_w (by omega), warmsS_lo (by omega), warms_w hn hi]
  · rw [if_neg c0]
    by_cases c1 : i + 1 = n
    · rw [if_pos c1, show n - 1 = i by omega, dryS_w (by omega), bathS_0 (p := 48 + 1) (by omega), dryS_0 (p := 48 + 1) (by omega) (by omega), warmsS_lo (by omega), bathS_0 (by omega), dryS_0 (by omega) (by omega), warms_w hn hi]
    · rw [if_neg c1, dryS_0 (by omega) (by omega), bathS_0 (by omega), dryS_0 (by omega) (by omega), warms_w hn hi]
theorem wb_t {k q : Int32} {D : Nat → Int32} {n s : Nat} (hn : okN D n) (hs : s < 2) : wbS k q D (48 + s) = nt k q D n s := by
  have h2 := hn.2
  unfold wbS nt
  rw [okN_n hn]
  have : s = 0 ∨ s = 1 := by omega
  rcases this with rfl | rfl
  · rw [bathS_0 (by omega), dryS_0 (by omega) (by omega), bathS_t, dryS_t (by omega), warmsS_lo (by omega), warms_w hn (by omega), if_pos rfl]
  · rw [bathS_t, dryS_t (by omega), bathS_0 (p := 48 + 1) (by omega), dryS_0 (p := 48 + 1) (by omega) (by omega), warmsS_lo (by omega), bathS_0 (by omega), dryS_0 (by omega) (by omega), warms_w hn (by omega), if_neg (show ¬ 1 = 0 by omega)]
theorem wb_o {k q : Int32} {D : Nat → Int32} {n p : Nat} (hn : okN D n) (h : p < 48 ∨ (50 ≤ p ∧ p < 52) ∨ 52 + n ≤ p) : wbS k q D p = D p := by
  have h2 := hn.2
  unfold wbS warmsS
  rw [okN_n hn, bathS_0 (by omega), dryS_0 (by omega) (by omega), bathS_0 (by omega), dryS_0 (by omega) (by omega), spD_out (by omega)]
theorem wb_n {k q : Int32} {D : Nat → Int32} {n : Nat} (hn : okN D n) : okN (wbS k q D) n := okN_keep hn (wb_o hn (by omega))
theorem tick_w {k q : Int32} {D : Nat → Int32} {n i : Nat} (hn : okN D n) (hi : i < n) : tickS k q D (52 + i) = nw k q D n i := by
  have h2 := hn.2
  rw [tick_wb, endS_0 (by omega) (by omega) (by omega) (by omega), brownS_0 (by omega), brownS_0 (by omega), mostS_lo (by omega), wb_w hn hi]
theorem tick_t {k q : Int32} {D : Nat → Int32} {n s : Nat} (hn : okN D n) (hs : s < 2) : tickS k q D (48 + s) = nt k q D n s := by
  have h2 := hn.2
  rw [tick_wb, endS_0 (by omega) (by omega) (by omega) (by omega), brownS_0 (by omega), brownS_0 (by omega), mostS_lo (by omega), wb_t hn hs]
theorem tick_m {k q : Int32} {D : Nat → Int32} {n i : Nat} (hn : okN D n) (hi : i < n) : tickS k q D (72 + i) = if nw k q D n i < D (72 + i) then D (72 + i) else nw k q D n i := by
  have h2 := hn.2
  rw [tick_wb, endS_0 (by omega) (by omega) (by omega) (by omega), brownS_0 (by omega), brownS_0 (by omega)]
  unfold mostS
  rw [okN_n hn, spD_out (by omega), spD_in (by omega) (by omega), show 72 + i - 20 = 52 + i by omega, wb_w hn hi, wb_o hn (by omega)]
theorem tick_j {k q : Int32} {D : Nat → Int32} {n i : Nat} (hn : okN D n) (hi : i < n) : tickS k q D (92 + i) = juiceS (D (92 + i)) (nw k q D n i) := by
  have h2 := hn.2
  rw [tick_wb, endS_0 (by omega) (by omega) (by omega) (by omega), brownS_0 (by omega), brownS_0 (by omega)]
  unfold mostS
  rw [okN_n hn, spD_in (by omega) (by omega), show 92 + i - 40 = 52 + i by omega, wb_w hn hi, wb_o hn (by omega)]
theorem tick_b {k q : Int32} {D : Nat → Int32} {n s : Nat} (hn : okN D n) (hs : s < 2) : tickS k q D (50 + s) = bB (nt k q D n s) (nw k q D n (if s = 0 then 0 else n - 1)) (D (50 + s)) (D 3) := by
  have h2 := hn.2
  have m : ∀ p, p < 72 → mostS (wbS k q D) (nD D) p = wbS k q D p := fun p hp => mostS_lo hp
  rw [tick_wb, endS_0 (by omega) (by omega) (by omega) (by omega)]
  have : s = 0 ∨ s = 1 := by omega
  rcases this with rfl | rfl
  · rw [brownS_0 (by omega), brownS_b, m _ (by omega), m _ (by omega), m _ (by omega), m 3 (by omega), wb_t hn (by omega), wb_w hn (by omega), wb_o hn (by omega), wb_o hn (by omega), if_pos rfl]
  · rw [brownS_b, okN_n hn, brownS_0 (p := 48 + 1) (by omega), brownS_0 (by omega), brownS_0 (p := 50 + 1) (by omega), brownS_0 (p := 3) (by omega)]
    have m : ∀ p, p < 72 → mostS (wbS k q D) n p = wbS k q D p := fun p hp => mostS_lo hp
    rw [m _ (by omega), m _ (by omega), m _ (by omega), m 3 (by omega), wb_t hn (by omega), wb_w hn (by omega), wb_o hn (by omega), wb_o hn (by omega), if_neg (show ¬ 1 = 0 by omega)]
theorem endS_45 {k : Int32} {D : Nat → Int32} : endS k D 45 = k := by
  unfold endS
  rw [up_ne (by omega), up_ne (by omega), up_ne (by omega), up_eq]
theorem tick_45 {k q : Int32} {D : Nat → Int32} : tickS k q D 45 = k := by
  rw [tick_wb]
  exact endS_45
theorem tick_n {k q : Int32} {D : Nat → Int32} {n : Nat} (hn : okN D n) : okN (tickS k q D) n := okN_keep hn (tickS_lo (by omega))
/-! the same the other way round -/
def MR (n : Nat) (D E : Nat → Int32) : Prop := E 0 = D 0 ∧ E 2 = D 2 ∧ E 3 = D 3 ∧ E 45 = D 45 ∧ ((D 44 = iN 0 ∧ E 44 = iN 1) ∨ (D 44 = iN 1 ∧ E 44 = iN 0)) ∧ (E 48 = D 49 ∧ E 49 = D 48) ∧ (E 50 = D 51 ∧ E 51 = D 50) ∧ ∀ i, i < n → E (52 + i) = D (52 + (n - 1 - i)) ∧ E (72 + i) = D (72 + (n - 1 - i)) ∧ E (92 + i) = D (92 + (n - 1 - i))
theorem outS_cg {k q w : Int32} {a b : Prop} [Decidable a] [Decidable b] (h : a ↔ b) : outS k q a w = outS k q b w := by
  unfold outS
  by_cases c : a
  · rw [if_pos c, if_pos (h.mp c)]
  · rw [if_neg c, if_neg (fun e => c (h.mpr e))]
theorem MR_warm {n : Nat} {D E : Nat → Int32} {k q : Int32} (hn : okN D n) (h : MR n D E) {i : Nat} (hi : i < n) : warmS k q E i = warmS k q D (n - 1 - i) := by
  obtain ⟨e0, e2, e3, e45, e44, ewt, ebr, ed⟩ := h
  have h2 := hn.2
  have nE : nD E = n := by
    unfold nD
    rw [e0]
    exact okN_n hn
  have w : ∀ j, j < n → E (52 + j) = D (52 + (n - 1 - j)) := fun j hj => (ed j hj).1
  have d01 : ((E 44 = iN 0) ↔ (D 44 = iN 1)) ∧ ((E 44 = iN 1) ↔ (D 44 = iN 0)) := by
    rcases e44 with ⟨a, b⟩ | ⟨a, b⟩
    · rw [a, b]
      exact ⟨⟨fun e => absurd e (by decide), fun e => absurd e (by decide)⟩, ⟨fun _ => rfl, fun _ => rfl⟩⟩
    · rw [a, b]
      exact ⟨⟨fun _ => rfl, fun _ => rfl⟩, ⟨fun e => absurd e (by decide), fun e => absurd e (by decide)⟩⟩
  unfold warmS
  rw [nE, okN_n hn]
  by_cases c0 : i = 0
  · subst c0
    rw [if_pos rfl, if_neg (show ¬ n - 1 - 0 = 0 by omega), if_pos (show n - 1 - 0 + 1 = n by omega)]
    have w0 := w 0 (by omega)
    have w1 := w 1 (by omega)
    rw [show 52 + 0 = 52 from rfl] at w0
    rw [show 52 + 1 = 53 from rfl] at w1
    rw [w0, w1, show 52 + (n - 1 - 0) - 1 = 52 + (n - 1 - 1) by omega, outS_cg d01.1]
  · rw [if_neg c0]
    by_cases c1 : i + 1 = n
    · rw [if_pos c1, show n - 1 - i = 0 by omega, if_pos rfl]
      have w0 := w i hi
      have w1 := w (i - 1) (by omega)
      rw [show n - 1 - i = 0 by omega] at w0
      rw [show n - 1 - (i - 1) = 1 by omega, show 52 + (i - 1) = 52 + i - 1 by omega] at w1
      rw [w0, w1, outS_cg d01.2]
    · rw [if_neg c1, if_neg (show ¬ n - 1 - i = 0 by omega), if_neg (show ¬ n - 1 - i + 1 = n by omega)]
      have w0 := w i hi
      have w1 := w (i - 1) (by omega)
      have w2 := w (i + 1) (by omega)
      rw [show 52 + (i - 1) = 52 + i - 1 by omega, show 52 + (n - 1 - (i - 1)) = 52 + (n - 1 - i) + 1 by omega] at w1
      rw [show 52 + (i + 1) = 52 + i + 1 by omega, show 52 + (n - 1 - (i + 1)) = 52 + (n - 1 - i) - 1 by omega] at w2
      rw [w0, w1, w2, Int32.add_comm (D (52 + (n - 1 - i) + 1) - D (52 + (n - 1 - i)))]
theorem MR_nw {n : Nat} {D E : Nat → Int32} {k q : Int32} (hn : okN D n) (h : MR n D E) {i : Nat} (hi : i < n) : nw k q E n i = nw k q D n (n - 1 - i) := by
  have hw := fun j (hj : j < n) => MR_warm (k := k) (q := q) hn h hj
  obtain ⟨e0, e2, e3, e45, e44, ewt, ebr, ed⟩ := h
  have h2 := hn.2
  unfold nw
  by_cases c0 : i = 0
  · subst c0
    rw [if_pos rfl, if_neg (show ¬ n - 1 - 0 = 0 by omega), if_pos (show n - 1 - 0 + 1 = n by omega), ewt.1, hw 0 hi]
  · rw [if_neg c0]
    by_cases c1 : i + 1 = n
    · rw [if_pos c1, show n - 1 - i = 0 by omega, if_pos rfl, ewt.2, hw i hi, show n - 1 - i = 0 by omega]
    · rw [if_neg c1, if_neg (show ¬ n - 1 - i = 0 by omega), if_neg (show ¬ n - 1 - i + 1 = n by omega), hw i hi]
theorem MR_nt {n : Nat} {D E : Nat → Int32} {k q : Int32} (hn : okN D n) (h : MR n D E) : nt k q E n 0 = nt k q D n 1 ∧ nt k q E n 1 = nt k q D n 0 := by
  have h2 := hn.2
  have h0 := MR_warm (k := k) (q := q) hn h (i := 0) (by omega)
  have h1 := MR_warm (k := k) (q := q) hn h (i := n - 1) (by omega)
  obtain ⟨e0, e2, e3, e45, e44, ewt, ebr, ed⟩ := h
  rw [show n - 1 - 0 = n - 1 by omega] at h0
  rw [show n - 1 - (n - 1) = 0 by omega] at h1
  unfold nt
  rw [if_pos (show (0 : Nat) = 0 from rfl), if_neg (show ¬ (1 : Nat) = 0 by omega), h0, h1]
  have x0 : E (48 + 0) = D (48 + 1) := ewt.1
  have x1 : E (48 + 1) = D (48 + 0) := ewt.2
  rw [x0, x1]
  exact ⟨rfl, rfl⟩
theorem MR_tick {n : Nat} {D E : Nat → Int32} {k q : Int32} (hn : okN D n) (h : MR n D E) : MR n (tickS k q D) (tickS k q E) := by
  have hnw := fun j (hj : j < n) => MR_nw (k := k) (q := q) hn h hj
  have hnt := MR_nt (k := k) (q := q) hn h
  obtain ⟨e0, e2, e3, e45, e44, ewt, ebr, ed⟩ := h
  have h2 := hn.2
  have hnE : okN E n := okN_keep hn e0
  refine ⟨?_, ?_, ?_, ?_, ?_, ⟨?_, ?_⟩, ⟨?_, ?_⟩, fun i hi => ⟨?_, ?_, ?_⟩⟩
  · rw [tickS_lo (by omega), tickS_lo (by omega), e0]
  · rw [tickS_lo (by omega), tickS_lo (by omega), e2]
  · rw [tickS_lo (by omega), tickS_lo (by omega), e3]
  · rw [tick_45, tick_45]
  · rw [tickS_lo (by omega), tickS_lo (by omega)]
    exact e44
  · have a := tick_t (k := k) (q := q) hnE (s := 0) (by omega)
    have b := tick_t (k := k) (q := q) hn (s := 1) (by omega)
    exact a.trans (hnt.1.trans b.symm)
  · have a := tick_t (k := k) (q := q) hnE (s := 1) (by omega)
    have b := tick_t (k := k) (q := q) hn (s := 0) (by omega)
    exact a.trans (hnt.2.trans b.symm)
  · have a := tick_b (k := k) (q := q) hnE (s := 0) (by omega)
    have b := tick_b (k := k) (q := q) hn (s := 1) (by omega)
    rw [if_pos rfl, hnt.1, hnw 0 (by omega), e3, show n - 1 - 0 = n - 1 by omega] at a
    rw [if_neg (show ¬ 1 = 0 by omega)] at b
    have x : E (50 + 0) = D (50 + 1) := ebr.1
    rw [x] at a
    exact a.trans b.symm
  · have a := tick_b (k := k) (q := q) hnE (s := 1) (by omega)
    have b := tick_b (k := k) (q := q) hn (s := 0) (by omega)
    rw [if_neg (show ¬ 1 = 0 by omega), hnt.2, hnw (n - 1) (by omega), e3, show n - 1 - (n - 1) = 0 by omega] at a
    rw [if_pos rfl] at b
    have x : E (50 + 1) = D (50 + 0) := ebr.2
    rw [x] at a
    exact a.trans b.symm
  · rw [tick_w hnE hi, tick_w hn (by omega), hnw i hi]
  · rw [tick_m hnE hi, tick_m hn (by omega), hnw i hi, (ed i hi).2.1]
  · rw [tick_j hnE hi, tick_j hn (by omega), hnw i hi, (ed i hi).2.2]

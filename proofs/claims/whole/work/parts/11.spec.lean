/-! a dish as a row of numbers (as the reference lays it), and its tick -/
def up (D : Nat → Int32) (p : Nat) (x : Int32) : Nat → Int32 := fun q => if q = p then x else D q
def spD (D : Nat → Int32) (a b : Nat) (f : Nat → Int32) : Nat → Int32 := fun q => if a ≤ q ∧ q < b then f q else D q
theorem up_eq {D : Nat → Int32} {p : Nat} {x : Int32} : up D p x p = x := if_pos rfl
theorem up_ne {D : Nat → Int32} {p q : Nat} {x : Int32} (h : q ≠ p) : up D p x q = D q := if_neg h
theorem spD_in {D : Nat → Int32} {a b q : Nat} {f : Nat → Int32} (h1 : a ≤ q) (h2 : q < b) : spD D a b f q = f q := if_pos ⟨h1, h2⟩
theorem spD_out {D : Nat → Int32} {a b q : Nat} {f : Nat → Int32} (h : q < a ∨ b ≤ q) : spD D a b f q = D q := if_neg (by omega)
theorem spD_nil {D : Nat → Int32} {a : Nat} {f : Nat → Int32} : spD D a a f = D := by
  funext q
  exact if_neg (by omega)
theorem spD_up {D : Nat → Int32} {a b : Nat} {f : Nat → Int32} {x : Int32} (h : a ≤ b) (hx : x = f b) : up (spD D a b f) b x = spD D a (b + 1) f := by
  funext q
  unfold up spD
  by_cases h1 : q = b
  · subst h1
    rw [if_pos rfl, if_pos (by omega), hx]
  · rw [if_neg h1]
    by_cases h2 : a ≤ q ∧ q < b
    · rw [if_pos h2, if_pos (by omega)]
    · rw [if_neg h2, if_neg (by omega)]
/-- region m of the reference's dishes is D, its scratch row W -/
def stM (m : Nat) (D W : Nat → Int32) (G : G_) : G_ := (fun q j => if q = 139 then (if 112 * m ≤ j then D (j - 112 * m) else G.1 139 j) else if q = 140 then W j else G.1 q j, G.2)
def DM (m : Nat) (G : G_) : Nat → Int32 := fun p => G.1 139 (112 * m + p)
def WM (G : G_) : Nat → Int32 := G.1 140
theorem stM_139 {m j : Nat} {D W : Nat → Int32} {G : G_} : (stM m D W G).1 139 j = if 112 * m ≤ j then D (j - 112 * m) else G.1 139 j := by
  show (if 139 = 139 then (if 112 * m ≤ j then D (j - 112 * m) else G.1 139 j) else if 139 = 140 then W j else G.1 139 j) = _
  rw [if_pos rfl]
theorem stM_140 {m j : Nat} {D W : Nat → Int32} {G : G_} : (stM m D W G).1 140 j = W j := by
  show (if 140 = 139 then (if 112 * m ≤ j then D (j - 112 * m) else G.1 139 j) else if 140 = 140 then W j else G.1 140 j) = _
  rw [if_neg (by decide), if_pos rfl]
theorem stM_o {m : Nat} {D W : Nat → Int32} {G : G_} {q j : Nat} (h1 : q ≠ 139) (h2 : q ≠ 140) : (stM m D W G).1 q j = G.1 q j := by
  show (if q = 139 then (if 112 * m ≤ j then D (j - 112 * m) else G.1 139 j) else if q = 140 then W j else G.1 q j) = _
  rw [if_neg h1, if_neg h2]
theorem stM_o1 {m : Nat} {D W : Nat → Int32} {G : G_} {q : Nat} (h1 : q ≠ 139) (h2 : q ≠ 140) : (stM m D W G).1 q = G.1 q := funext fun _ => stM_o h1 h2
theorem stM_j {m : Nat} {D W : Nat → Int32} {G : G_} : (stM m D W G).2 = G.2 := rfl
theorem G_ext {G G' : G_} (h1 : ∀ q j, G.1 q j = G'.1 q j) (h2 : G.2 = G'.2) : G = G' := Prod.ext (funext fun q => funext fun j => h1 q j) h2
theorem stM_eta (m : Nat) (G : G_) : stM m (DM m G) (WM G) G = G := by
  refine G_ext (fun q j => ?_) rfl
  by_cases h : q = 139
  · subst h
    rw [stM_139]
    split
    · unfold DM
      rw [show 112 * m + (j - 112 * m) = j by omega]
    · rfl
  · by_cases h2 : q = 140
    · subst h2
      rw [stM_140]
      rfl
    · rw [stM_o h h2]
theorem DM_st (m : Nat) (D W : Nat → Int32) (G : G_) : DM m (stM m D W G) = D := by
  funext p
  unfold DM
  rw [stM_139, if_pos (by omega), show 112 * m + p - 112 * m = p by omega]
theorem WM_st (m : Nat) (D W : Nat → Int32) (G : G_) : WM (stM m D W G) = W := rfl
theorem stM_st (m : Nat) (D W D' W' : Nat → Int32) (G : G_) : stM m D' W' (stM m D W G) = stM m D' W' G := by
  refine G_ext (fun q j => ?_) rfl
  by_cases h : q = 139
  · subst h
    simp only [stM_139]
    split
    · rfl
    · rfl
  · by_cases h2 : q = 140
    · subst h2
      rw [stM_140, stM_140]
    · rw [stM_o h h2, stM_o h h2, stM_o h h2]
/-- the reference looks at region m -/
def bM (m : Nat) (G : G_) : Prop := m ≤ 4 ∧ G.1 124 23 = iN (112 * m)
theorem bM_st {m : Nat} {D W : Nat → Int32} {G : G_} (h : bM m G) : bM m (stM m D W G) := ⟨h.1, by rw [stM_o (by decide) (by decide)]; exact h.2⟩
theorem u2_eq {α : Type} {f : Nat → Nat → α} {p j q i : Nat} {v : α} : u2 f p j v q i = if q = p then (if i = j then v else f q i) else f q i := rfl
theorem v_ok {m : Nat} {D W : Nat → Int32} {G : G_} {p : Nat} (h : bM m G) (hp : p < 112) : f_X8_v (iN p) (stM m D W G) = some (D p) := by
  have h1 := h.1
  unfold f_X8_v
  rw [stM_o (by decide) (by decide), h.2, iN_add, inb_iN (by omega) (by omega), ix_iN (by omega), chk_t, stM_139, if_pos (by omega), show 112 * m + p - 112 * m = p by omega]
theorem put_ok {m : Nat} {D W : Nat → Int32} {G : G_} {p : Nat} {x : Int32} (h : bM m G) (hp : p < 112) : f_X8_put_ (iN p) x (stM m D W G) = some (stM m (up D p x) W G) := by
  have h1 := h.1
  unfold f_X8_put_
  rw [stM_o (by decide) (by decide), h.2, iN_add, inb_iN (by omega) (by omega), ix_iN (by omega), chk_t, nm_s]
  congr 1
  refine G_ext (fun q j => ?_) rfl
  show u2 (stM m D W G).1 139 (112 * m + p) x q j = _
  rw [u2_eq]
  by_cases hq : q = 139
  · subst hq
    rw [if_pos rfl, stM_139, stM_139]
    unfold up
    by_cases hj : j = 112 * m + p
    · rw [if_pos hj, if_pos (by omega), if_pos (by omega)]
    · rw [if_neg hj]
      split
      · rw [if_neg (by omega)]
      · rfl
  · rw [if_neg hq]
    by_cases h2 : q = 140
    · subst h2
      rw [stM_140, stM_140]
    · rw [stM_o hq h2, stM_o hq h2]
theorem w_ok {m : Nat} {D W : Nat → Int32} {G : G_} {p : Nat} {x : Int32} : sI (stM m D W G) 140 p x = stM m D (up W p x) G := by
  refine G_ext (fun q j => ?_) rfl
  show u2 (stM m D W G).1 140 p x q j = _
  rw [u2_eq]
  by_cases hq : q = 140
  · subst hq
    rw [if_pos rfl, stM_140, stM_140]
    rfl
  · rw [if_neg hq]
    by_cases h2 : q = 139
    · subst h2
      rw [stM_139, stM_139]
    · rw [stM_o h2 hq, stM_o h2 hq]
theorem wr_ok {m : Nat} {D W : Nat → Int32} {G : G_} {p : Nat} : (stM m D W G).1 140 p = W p := stM_140
/-- what a skin gets from without -/
def outS (k q : Int32) (dn : Prop) [Decidable dn] (w : Int32) : Int32 := if k = iN 1 then (if dn then (iN 100 * q - w) / iN 4 else (iN 200 - w) / iN 16) else if k = iN 2 then (iN 100 * q - w) / iN 12 else if k = iN 3 then (iN 100 * q - w) / iN 2 else (iN 200 - w) / iN 20
/-- the number of depths -/
def nD (D : Nat → Int32) : Nat := ix (D 0)
def warmS (k q : Int32) (D : Nat → Int32) (i : Nat) : Int32 :=
  if i = 0 then D 52 + (D 53 - D 52) / iN 4 + outS k q (D 44 = iN 0) (D 52)
  else if i + 1 = nD D then D (52 + i) + (D (52 + i - 1) - D (52 + i)) / iN 4 + outS k q (D 44 = iN 1) (D (52 + i))
  else D (52 + i) + ((D (52 + i - 1) - D (52 + i)) + (D (52 + i + 1) - D (52 + i))) / iN 4
def warmsS (k q : Int32) (D : Nat → Int32) : Nat → Int32 := spD D 52 (52 + nD D) (fun p => warmS k q D (p - 52))
def dryS (s i : Nat) (D : Nat → Int32) : Nat → Int32 := if D (48 + s) ≤ iN 0 then D else if D (52 + i) - iN 1000 ≤ iN 0 then D else up (up D (48 + s) (if D (48 + s) - (D (52 + i) - iN 1000) / iN 50 - iN 1 < iN 0 then iN 0 else D (48 + s) - (D (52 + i) - iN 1000) / iN 50 - iN 1)) (52 + i) (iN 1000)
def bathS (k : Int32) (s : Nat) (D : Nat → Int32) : Nat → Int32 := if k = iN 3 then up D (48 + s) (iN 30) else D
def juiceS (j w : Int32) : Int32 := if w ≤ iN 550 then j else if j - (w - iN 550) / iN 100 < iN 0 then iN 0 else j - (w - iN 550) / iN 100
def mostS (D : Nat → Int32) (n : Nat) : Nat → Int32 := spD (spD D 72 (72 + n) (fun p => if D (p - 20) < D p then D p else D (p - 20))) 92 (92 + n) (fun p => juiceS (D p) (D (p - 40)))
def brownS (s i : Nat) (D : Nat → Int32) : Nat → Int32 := if D (48 + s) = iN 0 then (if D (52 + i) - iN 1400 < iN 0 then D else up D (50 + s) (D (50 + s) + (D (52 + i) - iN 1400) / iN 100 + D 3 / iN 4)) else D
def endS (k : Int32) (D : Nat → Int32) : Nat → Int32 := up (up (up (up D 45 k) 46 (if k = iN 1 then iN 1 - D 44 else -iN 9)) 47 (if k = iN 4 then D 47 + iN 1 else iN 0)) 43 (D 43 + iN 1)
def tickS (k q : Int32) (D : Nat → Int32) : Nat → Int32 := endS k (brownS 1 (nD D - 1) (brownS 0 0 (mostS (bathS k 1 (dryS 1 (nD D - 1) (bathS k 0 (dryS 0 0 (warmsS k q D))))) (nD D))))
/-- 3 to 20 depths -/
def okN (D : Nat → Int32) (n : Nat) : Prop := D 0 = iN n ∧ 3 ≤ n ∧ n ≤ 20
theorem okN_n {D : Nat → Int32} {n : Nat} (h : okN D n) : nD D = n := by
  unfold nD
  rw [h.1, ix_iN (by have := h.2; omega)]
-- what stays at place 0
theorem warmsS_lo {k q : Int32} {D : Nat → Int32} {p : Nat} (h : p < 52) : warmsS k q D p = D p := spD_out (Or.inl h)
theorem dryS_0 {s i : Nat} {D : Nat → Int32} {p : Nat} (h1 : p ≠ 48 + s) (h2 : p ≠ 52 + i) : dryS s i D p = D p := by
  unfold dryS
  split
  · rfl
  · split
    · rfl
    · rw [up_ne h2, up_ne h1]
theorem bathS_0 {k : Int32} {s : Nat} {D : Nat → Int32} {p : Nat} (h1 : p ≠ 48 + s) : bathS k s D p = D p := by
  unfold bathS
  split
  · rw [up_ne h1]
  · rfl
theorem mostS_lo {D : Nat → Int32} {n p : Nat} (h : p < 72) : mostS D n p = D p := by
  unfold mostS
  rw [spD_out (by omega), spD_out (by omega)]
theorem brownS_0 {s i : Nat} {D : Nat → Int32} {p : Nat} (h1 : p ≠ 50 + s) : brownS s i D p = D p := by
  unfold brownS
  split
  · split
    · rfl
    · rw [up_ne h1]
  · rfl
theorem endS_0 {k : Int32} {D : Nat → Int32} {p : Nat} (h1 : p ≠ 45) (h2 : p ≠ 46) (h3 : p ≠ 47) (h4 : p ≠ 43) : endS k D p = D p := by
  unfold endS
  rw [up_ne h4, up_ne h3, up_ne h2, up_ne h1]
/-- a tick leaves all but 43, 45 to 51, and the depths -/
theorem tickS_lo {k q : Int32} {D : Nat → Int32} {p : Nat} (h : p < 43 ∨ p = 44) : tickS k q D p = D p := by
  unfold tickS
  rw [endS_0 (by omega) (by omega) (by omega) (by omega), brownS_0 (by omega), brownS_0 (by omega), mostS_lo (by omega), bathS_0 (by omega), dryS_0 (by omega) (by omega), bathS_0 (by omega), dryS_0 (by omega) (by omega), warmsS_lo (by omega)]
theorem tickS_far {k q : Int32} {D : Nat → Int32} {n p : Nat} (hn : okN D n) (h : 112 ≤ p) : tickS k q D p = D p := by
  have h2 := hn.2
  unfold tickS mostS warmsS
  rw [okN_n hn, endS_0 (by omega) (by omega) (by omega) (by omega), brownS_0 (by omega), brownS_0 (by omega), spD_out (by omega), spD_out (by omega), bathS_0 (by omega), dryS_0 (by omega) (by omega), bathS_0 (by omega), dryS_0 (by omega) (by omega), spD_out (by omega)]

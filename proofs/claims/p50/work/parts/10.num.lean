/-! numbers: wrapped ints that don't wrap, counters, loops -/
def iN (k : Nat) : Int32 := Int32.ofNat k
theorem iN_t {k : Nat} (h : k < 2147483648) : (iN k).toInt = k := Int32.toInt_ofNat_of_lt h
theorem ix_iN {k : Nat} (h : k < 2147483648) : ix (iN k) = k := Int32.toNatClampNeg_ofNat_of_lt h
theorem iN_add (a b : Nat) : iN a + iN b = iN (a + b) := (Int32.ofNat_add a b).symm
theorem iN_mul (a b : Nat) : iN a * iN b = iN (a * b) := (Int32.ofNat_mul a b).symm
theorem iN_sub {a b : Nat} (h : b ≤ a) : iN a - iN b = iN (a - b) := (Int32.ofNat_sub a b h).symm
theorem l_0 : (0 : Int32) = iN 0 := of_eq_true (eq_self _)
theorem l_1 : (1 : Int32) = iN 1 := of_eq_true (eq_self _)
theorem l_2 : (2 : Int32) = iN 2 := of_eq_true (eq_self _)
theorem l_3 : (3 : Int32) = iN 3 := of_eq_true (eq_self _)
theorem l_4 : (4 : Int32) = iN 4 := of_eq_true (eq_self _)
theorem l_5 : (5 : Int32) = iN 5 := of_eq_true (eq_self _)
theorem l_6 : (6 : Int32) = iN 6 := of_eq_true (eq_self _)
theorem l_7 : (7 : Int32) = iN 7 := of_eq_true (eq_self _)
theorem l_8 : (8 : Int32) = iN 8 := of_eq_true (eq_self _)
theorem l_9 : (9 : Int32) = iN 9 := of_eq_true (eq_self _)
theorem l_10 : (10 : Int32) = iN 10 := of_eq_true (eq_self _)
theorem l_11 : (11 : Int32) = iN 11 := of_eq_true (eq_self _)
theorem l_12 : (12 : Int32) = iN 12 := of_eq_true (eq_self _)
theorem l_13 : (13 : Int32) = iN 13 := of_eq_true (eq_self _)
theorem l_14 : (14 : Int32) = iN 14 := of_eq_true (eq_self _)
theorem l_15 : (15 : Int32) = iN 15 := of_eq_true (eq_self _)
theorem l_16 : (16 : Int32) = iN 16 := of_eq_true (eq_self _)
theorem l_17 : (17 : Int32) = iN 17 := of_eq_true (eq_self _)
theorem l_18 : (18 : Int32) = iN 18 := of_eq_true (eq_self _)
theorem l_19 : (19 : Int32) = iN 19 := of_eq_true (eq_self _)
theorem l_20 : (20 : Int32) = iN 20 := of_eq_true (eq_self _)
theorem l_21 : (21 : Int32) = iN 21 := of_eq_true (eq_self _)
theorem l_24 : (24 : Int32) = iN 24 := of_eq_true (eq_self _)
theorem l_30 : (30 : Int32) = iN 30 := of_eq_true (eq_self _)
theorem l_31 : (31 : Int32) = iN 31 := of_eq_true (eq_self _)
theorem l_32 : (32 : Int32) = iN 32 := of_eq_true (eq_self _)
theorem l_36 : (36 : Int32) = iN 36 := of_eq_true (eq_self _)
theorem l_40 : (40 : Int32) = iN 40 := of_eq_true (eq_self _)
theorem l_41 : (41 : Int32) = iN 41 := of_eq_true (eq_self _)
theorem l_42 : (42 : Int32) = iN 42 := of_eq_true (eq_self _)
theorem l_43 : (43 : Int32) = iN 43 := of_eq_true (eq_self _)
theorem l_44 : (44 : Int32) = iN 44 := of_eq_true (eq_self _)
theorem l_45 : (45 : Int32) = iN 45 := of_eq_true (eq_self _)
theorem l_46 : (46 : Int32) = iN 46 := of_eq_true (eq_self _)
theorem l_47 : (47 : Int32) = iN 47 := of_eq_true (eq_self _)
theorem l_48 : (48 : Int32) = iN 48 := of_eq_true (eq_self _)
theorem l_49 : (49 : Int32) = iN 49 := of_eq_true (eq_self _)
theorem l_50 : (50 : Int32) = iN 50 := of_eq_true (eq_self _)
theorem l_51 : (51 : Int32) = iN 51 := of_eq_true (eq_self _)
theorem l_52 : (52 : Int32) = iN 52 := of_eq_true (eq_self _)
theorem l_57 : (57 : Int32) = iN 57 := of_eq_true (eq_self _)
theorem l_58 : (58 : Int32) = iN 58 := of_eq_true (eq_self _)
theorem l_60 : (60 : Int32) = iN 60 := of_eq_true (eq_self _)
theorem l_61 : (61 : Int32) = iN 61 := of_eq_true (eq_self _)
theorem l_64 : (64 : Int32) = iN 64 := of_eq_true (eq_self _)
theorem l_72 : (72 : Int32) = iN 72 := of_eq_true (eq_self _)
theorem l_80 : (80 : Int32) = iN 80 := of_eq_true (eq_self _)
theorem l_92 : (92 : Int32) = iN 92 := of_eq_true (eq_self _)
theorem l_98 : (98 : Int32) = iN 98 := of_eq_true (eq_self _)
theorem l_99 : (99 : Int32) = iN 99 := of_eq_true (eq_self _)
theorem l_100 : (100 : Int32) = iN 100 := of_eq_true (eq_self _)
theorem l_102 : (102 : Int32) = iN 102 := of_eq_true (eq_self _)
theorem l_105 : (105 : Int32) = iN 105 := of_eq_true (eq_self _)
theorem l_111 : (111 : Int32) = iN 111 := of_eq_true (eq_self _)
theorem l_112 : (112 : Int32) = iN 112 := of_eq_true (eq_self _)
theorem l_114 : (114 : Int32) = iN 114 := of_eq_true (eq_self _)
theorem l_115 : (115 : Int32) = iN 115 := of_eq_true (eq_self _)
theorem l_116 : (116 : Int32) = iN 116 := of_eq_true (eq_self _)
theorem l_117 : (117 : Int32) = iN 117 := of_eq_true (eq_self _)
theorem l_120 : (120 : Int32) = iN 120 := of_eq_true (eq_self _)
theorem l_144 : (144 : Int32) = iN 144 := of_eq_true (eq_self _)
theorem l_200 : (200 : Int32) = iN 200 := of_eq_true (eq_self _)
theorem l_201 : (201 : Int32) = iN 201 := of_eq_true (eq_self _)
theorem l_240 : (240 : Int32) = iN 240 := of_eq_true (eq_self _)
theorem l_300 : (300 : Int32) = iN 300 := of_eq_true (eq_self _)
theorem l_320 : (320 : Int32) = iN 320 := of_eq_true (eq_self _)
theorem l_400 : (400 : Int32) = iN 400 := of_eq_true (eq_self _)
theorem l_500 : (500 : Int32) = iN 500 := of_eq_true (eq_self _)
theorem l_512 : (512 : Int32) = iN 512 := of_eq_true (eq_self _)
theorem l_550 : (550 : Int32) = iN 550 := of_eq_true (eq_self _)
theorem l_560 : (560 : Int32) = iN 560 := of_eq_true (eq_self _)
theorem l_649 : (649 : Int32) = iN 649 := of_eq_true (eq_self _)
theorem l_650 : (650 : Int32) = iN 650 := of_eq_true (eq_self _)
theorem l_1000 : (1000 : Int32) = iN 1000 := of_eq_true (eq_self _)
theorem l_1032 : (1032 : Int32) = iN 1032 := of_eq_true (eq_self _)
theorem l_1400 : (1400 : Int32) = iN 1400 := of_eq_true (eq_self _)
theorem l_2000 : (2000 : Int32) = iN 2000 := of_eq_true (eq_self _)
theorem l_4000 : (4000 : Int32) = iN 4000 := of_eq_true (eq_self _)
theorem l_10000 : (10000 : Int32) = iN 10000 := of_eq_true (eq_self _)
theorem l_268435455 : (268435455 : Int32) = iN 268435455 := of_eq_true (eq_self _)

theorem t_rng (a : Int32) : -2147483648 ≤ a.toInt ∧ a.toInt < 2147483648 := ⟨Int32.le_toInt a, Int32.toInt_lt a⟩
theorem t_eq {a b : Int32} : a = b ↔ a.toInt = b.toInt := Int32.toInt_inj.symm
theorem t_lt {a b : Int32} : a < b ↔ a.toInt < b.toInt := Int32.lt_iff_toInt_lt
theorem t_le {a b : Int32} : a ≤ b ↔ a.toInt ≤ b.toInt := Int32.le_iff_toInt_le
theorem t_add {a b : Int32} (h1 : -2147483648 ≤ a.toInt + b.toInt) (h2 : a.toInt + b.toInt < 2147483648) : (a + b).toInt = a.toInt + b.toInt := by
  rw [Int32.toInt_add, Int.bmod_def]
  split <;> omega
theorem t_sub {a b : Int32} (h1 : -2147483648 ≤ a.toInt - b.toInt) (h2 : a.toInt - b.toInt < 2147483648) : (a - b).toInt = a.toInt - b.toInt := by
  rw [Int32.toInt_sub, Int.bmod_def]
  split <;> omega
theorem t_mul {a b : Int32} (h1 : -2147483648 ≤ a.toInt * b.toInt) (h2 : a.toInt * b.toInt < 2147483648) : (a * b).toInt = a.toInt * b.toInt := by
  rw [Int32.toInt_mul, Int.bmod_def]
  generalize a.toInt * b.toInt = z at *
  split <;> omega
theorem t_div {a b : Int32} (hb : 0 < b.toInt) : (a / b).toInt = if 0 ≤ a.toInt then a.toInt / b.toInt else -((-a.toInt) / b.toInt) := by
  rw [Int32.toInt_div_of_ne_right a b (by intro e; rw [e] at hb; revert hb; decide)]
  split
  · next h => rw [Int.tdiv_eq_ediv_of_nonneg h]
  · next h =>
    have e : a.toInt.tdiv b.toInt = -((-a.toInt).tdiv b.toInt) := by rw [Int.neg_tdiv, Int.neg_neg]
    rw [e, Int.tdiv_eq_ediv_of_nonneg (by omega)]
theorem t_div2 {a : Int32} : (a / iN 2).toInt = if 0 ≤ a.toInt then a.toInt / 2 else -((-a.toInt) / 2) := t_div (a := a) (b := iN 2) (by decide)
theorem t_div4 {a : Int32} : (a / iN 4).toInt = if 0 ≤ a.toInt then a.toInt / 4 else -((-a.toInt) / 4) := t_div (a := a) (b := iN 4) (by decide)
theorem t_div12 {a : Int32} : (a / iN 12).toInt = if 0 ≤ a.toInt then a.toInt / 12 else -((-a.toInt) / 12) := t_div (a := a) (b := iN 12) (by decide)
theorem t_div16 {a : Int32} : (a / iN 16).toInt = if 0 ≤ a.toInt then a.toInt / 16 else -((-a.toInt) / 16) := t_div (a := a) (b := iN 16) (by decide)
theorem t_div20 {a : Int32} : (a / iN 20).toInt = if 0 ≤ a.toInt then a.toInt / 20 else -((-a.toInt) / 20) := t_div (a := a) (b := iN 20) (by decide)
theorem t_div10 {a : Int32} : (a / iN 10).toInt = if 0 ≤ a.toInt then a.toInt / 10 else -((-a.toInt) / 10) := t_div (a := a) (b := iN 10) (by decide)
theorem t_div50 {a : Int32} : (a / iN 50).toInt = if 0 ≤ a.toInt then a.toInt / 50 else -((-a.toInt) / 50) := t_div (a := a) (b := iN 50) (by decide)
theorem t_div100 {a : Int32} : (a / iN 100).toInt = if 0 ≤ a.toInt then a.toInt / 100 else -((-a.toInt) / 100) := t_div (a := a) (b := iN 100) (by decide)
theorem iN_le {a b : Nat} (ha : a < 2147483648) (hb : b < 2147483648) : iN a ≤ iN b ↔ a ≤ b := by
  rw [t_le, iN_t ha, iN_t hb]; omega
theorem iN_lt {a b : Nat} (ha : a < 2147483648) (hb : b < 2147483648) : iN a < iN b ↔ a < b := by
  rw [t_lt, iN_t ha, iN_t hb]; omega
theorem iN_le_t {a b : Nat} (h : a ≤ b) (hb : b < 2147483648) : (iN a ≤ iN b) = True := eq_true ((iN_le (by omega) hb).mpr h)
theorem iN_le_f {a b : Nat} (h : b < a) (hb : a < 2147483648) : (iN a ≤ iN b) = False := eq_false (fun e => by have := (iN_le hb (by omega)).mp e; omega)
theorem iN_lt_t {a b : Nat} (h : a < b) (hb : b < 2147483648) : (iN a < iN b) = True := eq_true ((iN_lt (by omega) hb).mpr h)
theorem iN_lt_f {a b : Nat} (h : b ≤ a) (hb : a < 2147483648) : (iN a < iN b) = False := eq_false (fun e => by have := (iN_lt hb (by omega)).mp e; omega)
theorem iN_inj {a b : Nat} (ha : a < 2147483648) (hb : b < 2147483648) : iN a = iN b ↔ a = b := by
  rw [t_eq, iN_t ha, iN_t hb]; omega
theorem iN_eq_f {a b : Nat} (h : a ≠ b) (ha : a < 2147483648) (hb : b < 2147483648) : (iN a = iN b) = False := eq_false (fun e => h ((iN_inj ha hb).mp e))
theorem iN_div {a b : Nat} (ha : a < 2147483648) (hb0 : 0 < b) (hb : b < 2147483648) : iN a / iN b = iN (a / b) := by
  have h2 : a / b ≤ a := Nat.div_le_self a b
  rw [t_eq, t_div (by rw [iN_t hb]; omega), iN_t ha, iN_t hb, iN_t (by omega), if_pos (by omega)]
  exact (Int.natCast_ediv a b).symm
/-- an int that isn't below 0 is a counter -/
theorem iN_ex {a : Int32} (h : 0 ≤ a.toInt) : a = iN (ix a) := by
  have h2 : (ix a : Int) = a.toInt := Int.toNat_of_nonneg h
  have h3 := t_rng a
  rw [t_eq, iN_t (by omega), h2]
theorem ix_t {a : Int32} (h : 0 ≤ a.toInt) : (ix a : Int) = a.toInt := Int.toNat_of_nonneg h
theorem inb_iN {k n : Nat} (h : k < n) (hk : k < 2147483648) : inb (iN k) n = true := by
  unfold inb
  rw [iN_t hk, Bool.and_eq_true, decide_eq_true_eq, decide_eq_true_eq]
  omega
theorem chk_t {α : Type} {k : Option α} : chk true k = k := of_eq_true (eq_self _)
theorem nm_s {α β : Type} (x : α) (k : α → β) : nm x k = k x := of_eq_true (eq_self _)
theorem bj1_s {α β : Type} (a : α) (k : α → Option β) : bj1 (some a) k = k a := of_eq_true (eq_self _)
theorem bj2_s {α1 α2 β : Type} (a : α1) (b : α2) (k : α1 → α2 → Option β) : bj2 (some (a, b)) k = k a b := of_eq_true (eq_self _)
theorem bj3_s {α1 α2 α3 β : Type} (a : α1) (b : α2) (c : α3) (k : α1 → α2 → α3 → Option β) : bj3 (some (a, b, c)) k = k a b c := of_eq_true (eq_self _)
theorem mo_1 {α β : Type} (a : α) (n : β) (k : α → β) : mo (some a) n k = k a := of_eq_true (eq_self _)
theorem mo_0 {α β : Type} (n : β) (k : α → β) : mo none n k = n := of_eq_true (eq_self _)
theorem isZ_0 : isZ (iN 0) = true := of_eq_true (eq_self _)
theorem isZ_1 : isZ (iN 1) = true := of_eq_true (eq_self _)
theorem loop_cl {σ ρ : Type} (L : Nat → Int32 → σ → Option ρ) (st : Nat → σ) (a b : Nat) (r : Option ρ)
    (step : ∀ n k, a ≤ k → k < b → L (n + 1) (iN k) (st k) = L n (iN (k + 1)) (st (k + 1)))
    (done : ∀ n, L (n + 1) (iN b) (st b) = r) (hab : a ≤ b) {n : Nat} (hn : b - a < n) : L n (iN a) (st a) = r := by
  have key : ∀ (d k n : Nat), a ≤ k → k + d = b → d < n → L n (iN k) (st k) = r := by
    intro d
    induction d with
    | zero =>
      intro k n h1 h2 h3
      obtain ⟨n, rfl⟩ : ∃ m, n = m + 1 := ⟨n - 1, by omega⟩
      have e : k = b := by omega
      subst e
      exact done n
    | succ d ih =>
      intro k n h1 h2 h3
      obtain ⟨n, rfl⟩ : ∃ m, n = m + 1 := ⟨n - 1, by omega⟩
      rw [step n k h1 (by omega)]
      exact ih (k + 1) n (by omega) (by omega) (by omega)
  exact key (b - a) a n (Nat.le_refl a) (by omega) hn
theorem loop_iv {σ ρ : Type} (L : Nat → Int32 → σ → Option ρ) (Inv : Nat → σ → Prop) (P : Option ρ → Prop) (a b : Nat)
    (step : ∀ n k s, a ≤ k → k < b → Inv k s → (∃ s', Inv (k + 1) s' ∧ L (n + 1) (iN k) s = L n (iN (k + 1)) s') ∨ P (L (n + 1) (iN k) s))
    (done : ∀ n s, Inv b s → P (L (n + 1) (iN b) s)) (hab : a ≤ b) {n : Nat} (hn : b - a < n) {s : σ} (hs : Inv a s) : P (L n (iN a) s) := by
  have key : ∀ (d k n : Nat) (s : σ), a ≤ k → k + d = b → d < n → Inv k s → P (L n (iN k) s) := by
    intro d
    induction d with
    | zero =>
      intro k n s h1 h2 h3 hs
      obtain ⟨n, rfl⟩ : ∃ m, n = m + 1 := ⟨n - 1, by omega⟩
      have e : k = b := by omega
      subst e
      exact done n s hs
    | succ d ih =>
      intro k n s h1 h2 h3 hs
      obtain ⟨n, rfl⟩ : ∃ m, n = m + 1 := ⟨n - 1, by omega⟩
      rcases step n k s h1 (by omega) hs with ⟨s', h5, h6⟩ | h5
      · rw [h6]
        exact ih (k + 1) n s' (by omega) (by omega) (by omega) h5
      · exact h5
  exact key (b - a) a n s (Nat.le_refl a) (by omega) hn hs
theorem fu_lt {a : Nat} (h : a < 1000) : a < FU := h
theorem mx_t (a b : Int32) : (mx a b).toInt = if a.toInt < b.toInt then b.toInt else a.toInt := by
  unfold mx
  simp only [t_lt]
  split <;> rfl
theorem mn_t (a b : Int32) : (mn a b).toInt = if b.toInt < a.toInt then b.toInt else a.toInt := by
  unfold mn
  simp only [t_lt]
  split <;> rfl
/-! a dish as a row of numbers (as the reference lays it), and its tick -/
def up (D : Nat → Int32) (p : Nat) (x : Int32) : Nat → Int32 := fun q => if q = p then x else D q
def spD (D : Nat → Int32) (a b : Nat) (f : Nat → Int32) : Nat → Int32 := fun q => if a ≤ q ∧ q < b then f q else D q
theorem up_eq {D : Nat → Int32} {p : Nat} {x : Int32} : up D p x p = x := if_pos rfl
theorem up_ne {D : Nat → Int32} {p q : Nat} {x : Int32} (h : q ≠ p) : up D p x q = D q := if_neg h
theorem spD_in {D : Nat → Int32} {a b q : Nat} {f : Nat → Int32} (h1 : a ≤ q) (h2 : q < b) : spD D a b f q = f q := if_pos ⟨h1, h2⟩
theorem spD_out {D : Nat → Int32} {a b q : Nat} {f : Nat → Int32} (h : q < a ∨ b ≤ q) : spD D a b f q = D q := if_neg (by omega)
theorem spD_nil {D : Nat → Int32} {a : Nat} {f : Nat → Int32} : spD D a a f = D := by
  funext q
  exact if_neg (by omega)
theorem spD_up {D : Nat → Int32} {a b : Nat} {f : Nat → Int32} {x : Int32} (h : a ≤ b) (hx : x = f b) : up (spD D a b f) b x = spD D a (b + 1) f := by
  funext q
  unfold up spD
  by_cases h1 : q = b
  · subst h1
    rw [if_pos rfl, if_pos (by omega), hx]
  · rw [if_neg h1]
    by_cases h2 : a ≤ q ∧ q < b
    · rw [if_pos h2, if_pos (by omega)]
    · rw [if_neg h2, if_neg (by omega)]
theorem G_ext {G G' : G_} (h1 : ∀ q j, G.1 q j = G'.1 q j) (h2 : G.2 = G'.2) : G = G' := Prod.ext (funext fun q => funext fun j => h1 q j) h2
theorem u2_eq {α : Type} {f : Nat → Nat → α} {p j q i : Nat} {v : α} : u2 f p j v q i = if q = p then (if i = j then v else f q i) else f q i := rfl
/-- what a skin gets from without -/
def outS (k q : Int32) (dn : Prop) [Decidable dn] (w : Int32) : Int32 := if k = iN 1 then (if dn then (iN 100 * q - w) / iN 4 else (iN 200 - w) / iN 16) else if k = iN 2 then (iN 100 * q - w) / iN 12 else if k = iN 3 then (iN 100 * q - w) / iN 2 else (iN 200 - w) / iN 20
/-- the number of depths -/
def nD (D : Nat → Int32) : Nat := ix (D 0)
def warmS (k q : Int32) (D : Nat → Int32) (i : Nat) : Int32 :=
  if i = 0 then D 52 + (D 53 - D 52) / iN 4 + outS k q (D 44 = iN 0) (D 52)
  else if i + 1 = nD D then D (52 + i) + (D (52 + i - 1) - D (52 + i)) / iN 4 + outS k q (D 44 = iN 1) (D (52 + i))
  else D (52 + i) + ((D (52 + i - 1) - D (52 + i)) + (D (52 + i + 1) - D (52 + i))) / iN 4
def warmsS (k q : Int32) (D : Nat → Int32) : Nat → Int32 := spD D 52 (52 + nD D) (fun p => warmS k q D (p - 52))
def dryS (s i : Nat) (D : Nat → Int32) : Nat → Int32 := if D (48 + s) ≤ iN 0 then D else if D (52 + i) - iN 1000 ≤ iN 0 then D else up (up D (48 + s) (if D (48 + s) - (D (52 + i) - iN 1000) / iN 50 - iN 1 < iN 0 then iN 0 else D (48 + s) - (D (52 + i) - iN 1000) / iN 50 - iN 1)) (52 + i) (iN 1000)
def bathS (k : Int32) (s : Nat) (D : Nat → Int32) : Nat → Int32 := if k = iN 3 then up D (48 + s) (iN 30) else D
def juiceS (j w : Int32) : Int32 := if w ≤ iN 550 then j else if j - (w - iN 550) / iN 100 < iN 0 then iN 0 else j - (w - iN 550) / iN 100
def mostS (D : Nat → Int32) (n : Nat) : Nat → Int32 := spD (spD D 72 (72 + n) (fun p => if D (p - 20) < D p then D p else D (p - 20))) 92 (92 + n) (fun p => juiceS (D p) (D (p - 40)))
def brownS (s i : Nat) (D : Nat → Int32) : Nat → Int32 := if D (48 + s) = iN 0 then (if D (52 + i) - iN 1400 < iN 0 then D else up D (50 + s) (D (50 + s) + (D (52 + i) - iN 1400) / iN 100 + D 3 / iN 4)) else D
def endS (k : Int32) (D : Nat → Int32) : Nat → Int32 := up (up (up (up D 45 k) 46 (if k = iN 1 then iN 1 - D 44 else -iN 9)) 47 (if k = iN 4 then D 47 + iN 1 else iN 0)) 43 (D 43 + iN 1)
def tickS (k q : Int32) (D : Nat → Int32) : Nat → Int32 := endS k (brownS 1 (nD D - 1) (brownS 0 0 (mostS (bathS k 1 (dryS 1 (nD D - 1) (bathS k 0 (dryS 0 0 (warmsS k q D))))) (nD D))))
/-- 3 to 20 depths -/
def okN (D : Nat → Int32) (n : Nat) : Prop := D 0 = iN n ∧ 3 ≤ n ∧ n ≤ 20
theorem okN_n {D : Nat → Int32} {n : Nat} (h : okN D n) : nD D = n := by
  unfold nD
  rw [h.1, ix_iN (by have := h.2; omega)]
-- what stays at place 0
theorem warmsS_lo {k q : Int32} {D : Nat → Int32} {p : Nat} (h : p < 52) : warmsS k q D p = D p := spD_out (Or.inl h)
theorem dryS_0 {s i : Nat} {D : Nat → Int32} {p : Nat} (h1 : p ≠ 48 + s) (h2 : p ≠ 52 + i) : dryS s i D p = D p := by
  unfold dryS
  split
  · rfl
  · split
    · rfl
    · rw [up_ne h2, up_ne h1]
theorem bathS_0 {k : Int32} {s : Nat} {D : Nat → Int32} {p : Nat} (h1 : p ≠ 48 + s) : bathS k s D p = D p := by
  unfold bathS
  split
  · rw [up_ne h1]
  · rfl
theorem mostS_lo {D : Nat → Int32} {n p : Nat} (h : p < 72) : mostS D n p = D p := by
  unfold mostS
  rw [spD_out (by omega), spD_out (by omega)]
theorem brownS_0 {s i : Nat} {D : Nat → Int32} {p : Nat} (h1 : p ≠ 50 + s) : brownS s i D p = D p := by
  unfold brownS
  split
  · split
    · rfl
    · rw [up_ne h1]
  · rfl
theorem endS_0 {k : Int32} {D : Nat → Int32} {p : Nat} (h1 : p ≠ 45) (h2 : p ≠ 46) (h3 : p ≠ 47) (h4 : p ≠ 43) : endS k D p = D p := by
  unfold endS
  rw [up_ne h4, up_ne h3, up_ne h2, up_ne h1]
/-- a tick leaves all but 43, 45 to 51, and the depths -/
theorem tickS_lo {k q : Int32} {D : Nat → Int32} {p : Nat} (h : p < 43 ∨ p = 44) : tickS k q D p = D p := by
  unfold tickS
  rw [endS_0 (by omega) (by omega) (by omega) (by omega), brownS_0 (by omega), brownS_0 (by omega), mostS_lo (by omega), bathS_0 (by omega), dryS_0 (by omega) (by omega), bathS_0 (by omega), dryS_0 (by omega) (by omega), warmsS_lo (by omega)]
theorem tickS_far {k q : Int32} {D : Nat → Int32} {n p : Nat} (hn : okN D n) (h : 112 ≤ p) : tickS k q D p = D p := by
  have h2 := hn.2
  unfold tickS mostS warmsS
  rw [okN_n hn, endS_0 (by omega) (by omega) (by omega) (by omega), brownS_0 (by omega), brownS_0 (by omega), spD_out (by omega), spD_out (by omega), bathS_0 (by omega), dryS_0 (by omega) (by omega), bathS_0 (by omega), dryS_0 (by omega) (by omega), spD_out (by omega)]
theorem ite_so {α : Type} {b : Prop} [Decidable b] {x y : α} : (if b then some x else some y) = some (if b then x else y) := by split <;> rfl
/-! the reference's tick -/
theorem okN_keep {D D' : Nat → Int32} {n : Nat} (h : okN D n) (e : D' 0 = D 0) : okN D' n := ⟨e.trans h.1, h.2⟩
theorem mostS_up {D : Nat → Int32} {j : Nat} {a b : Int32} (hj : j < 20) (ha : a = if D (52 + j) < D (72 + j) then D (72 + j) else D (52 + j)) (hb : b = juiceS (D (92 + j)) (D (52 + j))) : up (up (mostS D j) (72 + j) a) (92 + j) b = mostS D (j + 1) := by
  funext q
  unfold up mostS spD
  by_cases h1 : q = 92 + j
  · subst h1
    rw [if_pos rfl, if_pos (by omega), hb]
    show _ = juiceS (D (92 + j)) (D (92 + j - 40))
    rw [show 92 + j - 40 = 52 + j by omega]
  · rw [if_neg h1]
    by_cases h2 : q = 72 + j
    · subst h2
      rw [if_pos rfl, if_neg (by omega), if_pos (by omega), ha]
      show _ = if D (72 + j - 20) < D (72 + j) then D (72 + j) else D (72 + j - 20)
      rw [show 72 + j - 20 = 52 + j by omega]
    · rw [if_neg h2]
      by_cases h3 : 92 ≤ q ∧ q < 92 + j
      · simp only [if_pos h3, if_pos (show 92 ≤ q ∧ q < 92 + (j + 1) by omega)]
      · simp only [if_neg h3, if_neg (show ¬ (92 ≤ q ∧ q < 92 + (j + 1)) by omega)]
        by_cases h4 : 72 ≤ q ∧ q < 72 + j
        · simp only [if_pos h4, if_pos (show 72 ≤ q ∧ q < 72 + (j + 1) by omega)]
        · simp only [if_neg h4, if_neg (show ¬ (72 ≤ q ∧ q < 72 + (j + 1)) by omega)]
theorem up_same {D : Nat → Int32} {p : Nat} {x : Int32} (h : D p = x) : up D p x = D := by
  funext q
  unfold up
  split
  · next e => rw [e, h]
  · rfl
/-! the class's dish at place o holds a row of numbers D; what a call leaves -/
def fr0 (o : Nat) (G G' : G_) : Prop := (∀ q, (q < o ∨ o + 11 ≤ q) → G'.1 q = G.1 q) ∧ G'.2 = G.2
def fr (o : Nat) (G G' : G_) : Prop := fr0 o G G' ∧ G'.1 o 7 = G.1 o 7
theorem fr0_refl {o : Nat} {G : G_} : fr0 o G G := ⟨fun _ _ => rfl, rfl⟩
theorem fr_refl {o : Nat} {G : G_} : fr o G G := ⟨fr0_refl, rfl⟩
theorem fr0_tr {o : Nat} {G G' G'' : G_} (h : fr0 o G G') (h2 : fr0 o G' G'') : fr0 o G G'' := ⟨fun q hq => (h2.1 q hq).trans (h.1 q hq), h2.2.trans h.2⟩
theorem fr_tr {o : Nat} {G G' G'' : G_} (h : fr o G G') (h2 : fr o G' G'') : fr o G G'' := ⟨fr0_tr h.1 h2.1, h2.2.trans h.2⟩
theorem sI_eq {G : G_} {p j : Nat} {v : Int32} : (sI G p j v).1 p j = v := by
  show (if p = p then (if j = j then v else _) else _) = v
  rw [if_pos rfl, if_pos rfl]
theorem sI_j {G : G_} {p i j : Nat} {v : Int32} (h : i ≠ j) : (sI G p j v).1 p i = G.1 p i := by
  show (if p = p then (if i = j then v else _) else _) = _
  rw [if_pos rfl, if_neg h]
theorem sI_p {G : G_} {p j q : Nat} {v : Int32} (h : q ≠ p) : (sI G p j v).1 q = G.1 q := by
  funext i
  show (if q = p then (if i = j then v else _) else _) = _
  rw [if_neg h]
theorem sI_2 {G : G_} {p j : Nat} {v : Int32} : (sI G p j v).2 = G.2 := rfl
theorem fr0_sI {o p j : Nat} {v : Int32} {G G' : G_} (h : fr0 o G G') (h1 : o ≤ p) (h2 : p < o + 11) : fr0 o G (sI G' p j v) := ⟨fun q hq => by rw [sI_p (by omega)]; exact h.1 q hq, h.2⟩
theorem fr_sI {o p j : Nat} {v : Int32} {G G' : G_} (h : fr o G G') (h1 : o ≤ p) (h2 : p < o + 11) (h3 : p ≠ o ∨ j ≠ 7) : fr o G (sI G' p j v) := by
  refine ⟨fr0_sI h.1 h1 h2, ?_⟩
  by_cases c : p = o
  · subst c
    rw [sI_j (by omega)]; exact h.2
  · rw [sI_p (by omega)]; exact h.2
/-- where a number of the row stands in the class's dish: array d, place j -/
def ci (d j : Nat) : Nat := if d = 0 then (if j = 8 then 0 else if j = 9 then 2 else if j = 10 then 3 else if j = 11 then 44 else if j = 12 then 43 else if j = 13 then 41 else if j = 14 then 42 else if j = 15 then 45 else 47) else if d = 7 then 4 else if d = 5 then 48 + j else if d = 6 then 50 + j else if d = 1 then 52 + j else if d = 3 then 72 + j else if d = 4 then 92 + j else 5 + 3 * j + (d - 8)
def cok (n mm d j : Nat) : Prop := (d = 0 ∧ 8 ≤ j ∧ j ≤ 16) ∨ (d = 7 ∧ j = 4) ∨ (d = 5 ∧ j < 2) ∨ (d = 6 ∧ j < 2) ∨ (d = 1 ∧ j < n) ∨ (d = 3 ∧ j < n) ∨ (d = 4 ∧ j < n) ∨ (8 ≤ d ∧ d ≤ 10 ∧ j < mm)
def icd (p : Nat) : Nat := if p < 4 then 0 else if p = 4 then 7 else if p < 41 then 8 + (p - 5) % 3 else if p < 48 then 0 else if p < 50 then 5 else if p < 52 then 6 else if p < 72 then 1 else if p < 92 then 3 else 4
def icj (p : Nat) : Nat := if p = 0 then 8 else if p = 2 then 9 else if p = 3 then 10 else if p = 4 then 4 else if p < 41 then (p - 5) / 3 else if p = 41 then 13 else if p = 42 then 14 else if p = 43 then 12 else if p = 44 then 11 else if p = 45 then 15 else if p = 47 then 16 else if p < 50 then p - 48 else if p < 52 then p - 50 else if p < 72 then p - 52 else if p < 92 then p - 72 else p - 92
theorem ci_inv {n mm d j : Nat} (hn : n ≤ 20) (hm : mm ≤ 12) (h : cok n mm d j) : icd (ci d j) = d ∧ icj (ci d j) = j ∧ ci d j < 112 ∧ (d ≠ 1 → ci d j < 52 ∨ 72 ≤ ci d j) := by
  rcases h with ⟨rfl, h1, h2⟩ | ⟨rfl, rfl⟩ | ⟨rfl, h1⟩ | ⟨rfl, h1⟩ | ⟨rfl, h1⟩ | ⟨rfl, h1⟩ | ⟨rfl, h1⟩ | ⟨h1, h2, h3⟩
  · have : j = 8 ∨ j = 9 ∨ j = 10 ∨ j = 11 ∨ j = 12 ∨ j = 13 ∨ j = 14 ∨ j = 15 ∨ j = 16 := by omega
    rcases this with rfl | rfl | rfl | rfl | rfl | rfl | rfl | rfl | rfl <;> decide
  · decide
  · show icd (48 + j) = 5 ∧ icj (48 + j) = j ∧ 48 + j < 112 ∧ (5 ≠ 1 → 48 + j < 52 ∨ 72 ≤ 48 + j)
    refine ⟨?_, ?_, by omega, fun _ => by omega⟩
    · unfold icd; repeat' split
      all_goals omega
    · unfold icj
      repeat (first | rw [if_neg (by omega)] | rw [if_pos (by omega)])
      all_goals omega
  · show icd (50 + j) = 6 ∧ icj (50 + j) = j ∧ 50 + j < 112 ∧ (6 ≠ 1 → 50 + j < 52 ∨ 72 ≤ 50 + j)
    refine ⟨?_, ?_, by omega, fun _ => by omega⟩
    · unfold icd; repeat' split
      all_goals omega
    · unfold icj
      repeat (first | rw [if_neg (by omega)] | rw [if_pos (by omega)])
      all_goals omega
  · show icd (52 + j) = 1 ∧ icj (52 + j) = j ∧ 52 + j < 112 ∧ (1 ≠ 1 → 52 + j < 52 ∨ 72 ≤ 52 + j)
    refine ⟨?_, ?_, by omega, fun h => absurd rfl h⟩
    · unfold icd; repeat' split
      all_goals omega
    · unfold icj
      repeat (first | rw [if_neg (by omega)] | rw [if_pos (by omega)])
      all_goals omega
  · show icd (72 + j) = 3 ∧ icj (72 + j) = j ∧ 72 + j < 112 ∧ (3 ≠ 1 → 72 + j < 52 ∨ 72 ≤ 72 + j)
    refine ⟨?_, ?_, by omega, fun _ => by omega⟩
    · unfold icd; repeat' split
      all_goals omega
    · unfold icj
      repeat (first | rw [if_neg (by omega)] | rw [if_pos (by omega)])
      all_goals omega
  · show icd (92 + j) = 4 ∧ icj (92 + j) = j ∧ 92 + j < 112 ∧ (4 ≠ 1 → 92 + j < 52 ∨ 72 ≤ 92 + j)
    refine ⟨?_, ?_, by omega, fun _ => by omega⟩
    · unfold icd; repeat' split
      all_goals omega
    · unfold icj
      repeat (first | rw [if_neg (by omega)] | rw [if_pos (by omega)])
      all_goals omega
  · have e : ci d j = 5 + 3 * j + (d - 8) := by
      unfold ci
      rw [if_neg (by omega), if_neg (by omega), if_neg (by omega), if_neg (by omega), if_neg (by omega), if_neg (by omega), if_neg (by omega)]
    rw [e]
    refine ⟨?_, ?_, by omega, fun _ => by omega⟩
    · unfold icd; repeat' split
      all_goals omega
    · unfold icj
      repeat (first | rw [if_neg (by omega)] | rw [if_pos (by omega)])
      all_goals omega
theorem ci_inj {n mm d j d' j' : Nat} (hn : n ≤ 20) (hm : mm ≤ 12) (h : cok n mm d j) (h' : cok 20 12 d' j') (e : ci d j = ci d' j') : d = d' ∧ j = j' := by
  have a := ci_inv hn hm h
  have b := ci_inv (Nat.le_refl 20) (Nat.le_refl 12) h'
  rw [e] at a
  exact ⟨a.1.symm.trans b.1, a.2.1.symm.trans b.2.1⟩
def mD (D : Nat → Int32) : Nat := ix (D 4)
/-- at most 20 depths, 12 steps -/
def dz (D : Nat → Int32) : Prop := nD D ≤ 20 ∧ mD D ≤ 12
def cD (o : Nat) (D : Nat → Int32) (G : G_) : Prop := ∀ d j, cok (nD D) (mD D) d j → G.1 (o + d) j = D (ci d j)
theorem cD_up {o : Nat} {D : Nat → Int32} {G : G_} (hz : dz D) (h : cD o D G) (d j : Nat) (x : Int32) (hc : cok 20 12 d j) (h0 : ci d j ≠ 0) (h4 : ci d j ≠ 4) : cD o (up D (ci d j) x) (sI G (o + d) j x) := by
  intro d' j' hc'
  have e0 : nD (up D (ci d j) x) = nD D := by unfold nD; rw [up_ne (Ne.symm h0)]
  have e4 : mD (up D (ci d j) x) = mD D := by unfold mD; rw [up_ne (Ne.symm h4)]
  rw [e0, e4] at hc'
  by_cases c : d' = d ∧ j' = j
  · obtain ⟨rfl, rfl⟩ := c
    rw [sI_eq, up_eq]
  · rw [up_ne (fun e => c (ci_inj hz.1 hz.2 hc' hc e))]
    by_cases c2 : d' = d
    · subst c2
      rw [sI_j (fun e => c ⟨rfl, e⟩)]; exact h _ _ hc'
    · rw [sI_p (by omega)]; exact h _ _ hc'
theorem cD_id {o : Nat} {D : Nat → Int32} {G : G_} (h : cD o D G) (p : Nat) (x : Int32) (hp : p = 1 ∨ p = 46) (hz : dz D) : cD o (up D p x) G := by
  intro d j hc
  have e0 : nD (up D p x) = nD D := by unfold nD; rw [up_ne (by omega)]
  have e4 : mD (up D p x) = mD D := by unfold mD; rw [up_ne (by omega)]
  rw [e0, e4] at hc
  rw [up_ne]
  · exact h _ _ hc
  · have a := ci_inv hz.1 hz.2 hc
    intro e
    rw [e] at a
    rcases hp with rfl | rfl
    · have b1 : icd 1 = 0 := rfl
      have b2 : icj 1 = 0 := rfl
      rw [b1, b2] at a
      obtain ⟨a1, a2, -⟩ := a
      subst a1 a2
      unfold cok at hc
      omega
    · have b1 : icd 46 = 0 := rfl
      have b2 : icj 46 = 0 := rfl
      rw [b1, b2] at a
      obtain ⟨a1, a2, -⟩ := a
      subst a1 a2
      unfold cok at hc
      omega
/-- what isn't told of a dish -/
theorem cD_sc {o : Nat} {D : Nat → Int32} {G G' : G_} (h : cD o D G) (e : ∀ d, d ≤ 10 → d ≠ 2 → G'.1 (o + d) = G.1 (o + d)) : cD o D G' := by
  intro d j hc
  rw [e d (by unfold cok at hc; omega) (by unfold cok at hc; omega)]
  exact h d j hc
theorem cD_fr {o : Nat} {D : Nat → Int32} {G G' : G_} (h : cD o D G) (e : ∀ q, o ≤ q → q < o + 11 → G'.1 q = G.1 q) : cD o D G' := cD_sc h (fun d hd _ => e (o + d) (by omega) (by omega))
-- cells by their names
theorem c_8 {o : Nat} {D : Nat → Int32} {G : G_} (h : cD o D G) : G.1 o 8 = D 0 := h 0 8 (by unfold cok; omega)
theorem c_9 {o : Nat} {D : Nat → Int32} {G : G_} (h : cD o D G) : G.1 o 9 = D 2 := h 0 9 (by unfold cok; omega)
theorem c_10 {o : Nat} {D : Nat → Int32} {G : G_} (h : cD o D G) : G.1 o 10 = D 3 := h 0 10 (by unfold cok; omega)
theorem c_11 {o : Nat} {D : Nat → Int32} {G : G_} (h : cD o D G) : G.1 o 11 = D 44 := h 0 11 (by unfold cok; omega)
theorem c_12 {o : Nat} {D : Nat → Int32} {G : G_} (h : cD o D G) : G.1 o 12 = D 43 := h 0 12 (by unfold cok; omega)
theorem c_13 {o : Nat} {D : Nat → Int32} {G : G_} (h : cD o D G) : G.1 o 13 = D 41 := h 0 13 (by unfold cok; omega)
theorem c_14 {o : Nat} {D : Nat → Int32} {G : G_} (h : cD o D G) : G.1 o 14 = D 42 := h 0 14 (by unfold cok; omega)
theorem c_15 {o : Nat} {D : Nat → Int32} {G : G_} (h : cD o D G) : G.1 o 15 = D 45 := h 0 15 (by unfold cok; omega)
theorem c_16 {o : Nat} {D : Nat → Int32} {G : G_} (h : cD o D G) : G.1 o 16 = D 47 := h 0 16 (by unfold cok; omega)
theorem c_wet {o s : Nat} {D : Nat → Int32} {G : G_} (h : cD o D G) (hs : s < 2) : G.1 (o + 5) s = D (48 + s) := h 5 s (by unfold cok; omega)
theorem c_brn {o s : Nat} {D : Nat → Int32} {G : G_} (h : cD o D G) (hs : s < 2) : G.1 (o + 6) s = D (50 + s) := h 6 s (by unfold cok; omega)
theorem c_w {o i : Nat} {D : Nat → Int32} {G : G_} (h : cD o D G) (hs : i < nD D) : G.1 (o + 1) i = D (52 + i) := h 1 i (by unfold cok; omega)
theorem c_m {o i : Nat} {D : Nat → Int32} {G : G_} (h : cD o D G) (hs : i < nD D) : G.1 (o + 3) i = D (72 + i) := h 3 i (by unfold cok; omega)
theorem c_j {o i : Nat} {D : Nat → Int32} {G : G_} (h : cD o D G) (hs : i < nD D) : G.1 (o + 4) i = D (92 + i) := h 4 i (by unfold cok; omega)
theorem c_cnt {o : Nat} {D : Nat → Int32} {G : G_} (h : cD o D G) : G.1 (o + 7) 4 = D 4 := h 7 4 (by unfold cok; omega)
theorem c_k {o i : Nat} {D : Nat → Int32} {G : G_} (h : cD o D G) (hs : i < mD D) : G.1 (o + 8) i = D (5 + 3 * i) := h 8 i (by unfold cok; omega)
theorem c_q {o i : Nat} {D : Nat → Int32} {G : G_} (h : cD o D G) (hs : i < mD D) : G.1 (o + 9) i = D (5 + 3 * i + 1) := h 9 i (by unfold cok; omega)
theorem c_l {o i : Nat} {D : Nat → Int32} {G : G_} (h : cD o D G) (hs : i < mD D) : G.1 (o + 10) i = D (5 + 3 * i + 2) := h 10 i (by unfold cok; omega)
theorem kd_b {o k : Nat} (h : kd o = k) : (kd o == k) = true := by rw [h]; exact beq_self_eq_true k
theorem loop_h {σ ρ : Type} (L : Nat → Int32 → σ → Option ρ) (I : Nat → σ → Prop) (Q : ρ → Prop) (a b : Nat)
    (step : ∀ n k s, a ≤ k → k < b → I k s → ∃ s', I (k + 1) s' ∧ L (n + 1) (iN k) s = L n (iN (k + 1)) s')
    (done : ∀ n s, I b s → ∃ r, L (n + 1) (iN b) s = some r ∧ Q r) (hab : a ≤ b) {n : Nat} (hn : b - a < n) {s : σ} (hs : I a s) : ∃ r, L n (iN a) s = some r ∧ Q r :=
  loop_iv L I (fun o => ∃ r, o = some r ∧ Q r) a b (fun n k s h1 h2 h3 => Or.inl (step n k s h1 h2 h3)) done hab hn hs
theorem fO_ok {k q w : Int32} {b : Prop} [Decidable b] : f_X0_fromOutside k q (if b then iN 1 else iN 0) w = some (outS k q b w) := by
  unfold f_X0_fromOutside outS
  simp (disch := omega) only [chk_t, beq_self_eq_true, nm_s, bj1_s, bj2_s, bj3_s, mo_1, mo_0, l_0, l_1, l_2, l_3, l_4, l_5, l_6, l_7, l_8, l_9, l_10, l_11, l_12, l_13, l_14, l_15, l_16, l_17, l_18, l_19, l_20, l_21, l_24, l_30, l_31, l_32, l_36, l_40, l_41, l_42, l_43, l_44, l_45, l_46, l_47, l_48, l_49, l_50, l_51, l_52, l_57, l_58, l_60, l_61, l_64, l_72, l_80, l_92, l_98, l_99, l_100, l_102, l_105, l_111, l_112, l_114, l_115, l_116, l_117, l_120, l_144, l_200, l_201, l_240, l_300, l_320, l_400, l_500, l_512, l_550, l_560, l_649, l_650, l_1000, l_1032, l_1400, l_2000, l_4000, l_10000, l_268435455, iN_add, iN_sub, iN_mul, iN_le_t, iN_le_f, iN_lt_t, iN_lt_f, iN_eq_f, inb_iN, ix_iN, isZ_0, isZ_1, ↓reduceIte, eq_self]
  by_cases h1 : k = iN 1
  · simp only [if_pos h1]
    by_cases h : b
    · simp only [if_pos h]
      rw [if_neg (by decide)]
    · simp only [if_neg h, if_true]
  · simp only [if_neg h1]
    split
    · rfl
    · split <;> rfl
theorem ring_w (a b c : Int32) : a + (b + c - iN 2 * a) / iN 4 = a + ((b - a) + (c - a)) / iN 4 := by
  have h : b + c - iN 2 * a = (b - a) + (c - a) := by
    show b + c - 2 * a = (b - a) + (c - a)
    grind
  rw [h]
theorem spread_ok {o n : Nat} {D : Nat → Int32} {G : G_} {k q : Int32} (ho : kd o = 0) (hn : okN D n) (hm : mD D ≤ 12) (h : cD o D G) : ∃ G', f_X0_spread o k q G = some G' ∧ cD o (warmsS k q D) G' ∧ fr o G G' := by
  have h2 := hn.2
  have hnn := okN_n hn
  have e8 : G.1 o 8 = iN n := (c_8 h).trans hn.1
  have hW : ∀ i, i < n → G.1 (o + 1) i = D (52 + i) := fun i hi => c_w h (by omega)
  have hL : ∃ A, f_X0_spread_l22_3 o k q G FU (iN 1) G = some A ∧ (∀ i, 1 ≤ i → i < n - 1 → A.1 (o + 2) i = warmS k q D i) ∧ (∀ p, p ≠ o + 2 → A.1 p = G.1 p) ∧ A.2 = G.2 := by
    refine loop_h (fun n v s => f_X0_spread_l22_3 o k q G n v s) (fun j G2 => (∀ i, 1 ≤ i → i < j → G2.1 (o + 2) i = warmS k q D i) ∧ (∀ p, p ≠ o + 2 → G2.1 p = G.1 p) ∧ G2.2 = G.2) _ 1 (n - 1) ?_ ?_ (by omega) (n := FU) (fu_lt (by omega)) (s := G) ⟨fun i h3 h4 => by omega, fun _ _ => rfl, rfl⟩
    · intro f j G2 h3 h4 ⟨i1, i2, i3⟩
      have w : ∀ i, i < n → G2.1 (o + 1) i = D (52 + i) := fun i hi => by rw [i2 _ (by omega)]; exact hW i hi
      have e : D (52 + j) + (D (52 + (j - 1)) + D (52 + (j + 1)) - iN 2 * D (52 + j)) / iN 4 = warmS k q D j := by
        unfold warmS
        rw [if_neg (by omega), hnn, if_neg (by omega), show 52 + j - 1 = 52 + (j - 1) by omega, show 52 + j + 1 = 52 + (j + 1) by omega]
        exact ring_w _ _ _
      refine ⟨sI G2 (o + 2) j (warmS k q D j), ⟨fun i h5 h6 => ?_, fun p hp => ?_, i3⟩, ?_⟩
      · by_cases c : i = j
        · subst c; exact sI_eq
        · rw [sI_j c]; exact i1 i h5 (by omega)
      · rw [sI_p hp]; exact i2 p hp
      · show f_X0_spread_l22_3 o k q G (f + 1) (iN j) G2 = _
        conv => lhs; unfold f_X0_spread_l22_3
        simp (disch := omega) only [chk_t, beq_self_eq_true, nm_s, bj1_s, bj2_s, bj3_s, mo_1, mo_0, l_0, l_1, l_2, l_3, l_4, l_5, l_6, l_7, l_8, l_9, l_10, l_11, l_12, l_13, l_14, l_15, l_16, l_17, l_18, l_19, l_20, l_21, l_24, l_30, l_31, l_32, l_36, l_40, l_41, l_42, l_43, l_44, l_45, l_46, l_47, l_48, l_49, l_50, l_51, l_52, l_57, l_58, l_60, l_61, l_64, l_72, l_80, l_92, l_98, l_99, l_100, l_102, l_105, l_111, l_112, l_114, l_115, l_116, l_117, l_120, l_144, l_200, l_201, l_240, l_300, l_320, l_400, l_500, l_512, l_550, l_560, l_649, l_650, l_1000, l_1032, l_1400, l_2000, l_4000, l_10000, l_268435455, iN_add, iN_sub, iN_mul, iN_le_t, iN_le_f, iN_lt_t, iN_lt_f, iN_eq_f, inb_iN, ix_iN, isZ_0, isZ_1, ↓reduceIte, eq_self, e8, w, e]
    · intro f G2 hI
      refine ⟨G2, ?_, hI⟩
      show f_X0_spread_l22_3 o k q G (f + 1) (iN (n - 1)) G2 = _
      unfold f_X0_spread_l22_3
      simp (disch := omega) only [chk_t, beq_self_eq_true, nm_s, bj1_s, bj2_s, bj3_s, mo_1, mo_0, l_0, l_1, l_2, l_3, l_4, l_5, l_6, l_7, l_8, l_9, l_10, l_11, l_12, l_13, l_14, l_15, l_16, l_17, l_18, l_19, l_20, l_21, l_24, l_30, l_31, l_32, l_36, l_40, l_41, l_42, l_43, l_44, l_45, l_46, l_47, l_48, l_49, l_50, l_51, l_52, l_57, l_58, l_60, l_61, l_64, l_72, l_80, l_92, l_98, l_99, l_100, l_102, l_105, l_111, l_112, l_114, l_115, l_116, l_117, l_120, l_144, l_200, l_201, l_240, l_300, l_320, l_400, l_500, l_512, l_550, l_560, l_649, l_650, l_1000, l_1032, l_1400, l_2000, l_4000, l_10000, l_268435455, iN_add, iN_sub, iN_mul, iN_le_t, iN_le_f, iN_lt_t, iN_lt_f, iN_eq_f, inb_iN, ix_iN, isZ_0, isZ_1, ↓reduceIte, eq_self, e8]
  obtain ⟨A, hA, a1, a2, a3⟩ := hL
  have hA' : f_X0_spread_l22_3 o k q G FU (iN 1) G = some A := hA
  have w : ∀ i, i < n → A.1 (o + 1) i = D (52 + i) := fun i hi => by rw [a2 _ (by omega)]; exact hW i hi
  have x11 : A.1 o 11 = D 44 := by rw [a2 _ (by omega)]; exact c_11 h
  have w0 : D 52 + (D 53 - D 52) / iN 4 + outS k q (D 44 = iN 0) (D 52) = warmS k q D 0 := by
    unfold warmS
    rw [if_pos rfl]
  have w1 : D (52 + (n - 1)) + (D (52 + (n - 1 - 1)) - D (52 + (n - 1))) / iN 4 + outS k q (D 44 = iN 1) (D (52 + (n - 1))) = warmS k q D (n - 1) := by
    unfold warmS
    rw [if_neg (by omega), hnn, if_pos (by omega), show 52 + (n - 1) - 1 = 52 + (n - 1 - 1) by omega]
  have hL2 : ∃ B, f_X0_spread_l190_33 o G FU (iN 0) (sI (sI A (o + 2) 0 (warmS k q D 0)) (o + 2) (n - 1) (warmS k q D (n - 1))) = some B ∧ (∀ i, i < n → B.1 (o + 1) i = warmS k q D i) ∧ (∀ p, p ≠ o + 1 → p ≠ o + 2 → B.1 p = G.1 p) ∧ B.2 = G.2 := by
    refine loop_h (fun n v s => f_X0_spread_l190_33 o G n v s) (fun j G2 => (∀ i, i < j → G2.1 (o + 1) i = warmS k q D i) ∧ (∀ i, i < n → G2.1 (o + 2) i = warmS k q D i) ∧ (∀ p, p ≠ o + 1 → p ≠ o + 2 → G2.1 p = G.1 p) ∧ G2.2 = G.2) _ 0 n ?_ ?_ (by omega) (n := FU) (fu_lt (by omega)) ?_
    · intro f j G2 h3 h4 ⟨i1, i4, i2, i3⟩
      refine ⟨sI G2 (o + 1) j (warmS k q D j), ⟨fun i h6 => ?_, fun i h6 => ?_, fun p hp hp2 => ?_, i3⟩, ?_⟩
      · by_cases c : i = j
        · subst c; exact sI_eq
        · rw [sI_j c]; exact i1 i (by omega)
      · rw [sI_p (by omega)]; exact i4 i h6
      · rw [sI_p hp]; exact i2 p hp hp2
      · show f_X0_spread_l190_33 o G (f + 1) (iN j) G2 = _
        conv => lhs; unfold f_X0_spread_l190_33
        simp (disch := omega) only [chk_t, beq_self_eq_true, nm_s, bj1_s, bj2_s, bj3_s, mo_1, mo_0, l_0, l_1, l_2, l_3, l_4, l_5, l_6, l_7, l_8, l_9, l_10, l_11, l_12, l_13, l_14, l_15, l_16, l_17, l_18, l_19, l_20, l_21, l_24, l_30, l_31, l_32, l_36, l_40, l_41, l_42, l_43, l_44, l_45, l_46, l_47, l_48, l_49, l_50, l_51, l_52, l_57, l_58, l_60, l_61, l_64, l_72, l_80, l_92, l_98, l_99, l_100, l_102, l_105, l_111, l_112, l_114, l_115, l_116, l_117, l_120, l_144, l_200, l_201, l_240, l_300, l_320, l_400, l_500, l_512, l_550, l_560, l_649, l_650, l_1000, l_1032, l_1400, l_2000, l_4000, l_10000, l_268435455, iN_add, iN_sub, iN_mul, iN_le_t, iN_le_f, iN_lt_t, iN_lt_f, iN_eq_f, inb_iN, ix_iN, isZ_0, isZ_1, ↓reduceIte, eq_self, e8, i4]
    · intro f G2 ⟨i1, i4, i2, i3⟩
      refine ⟨G2, ?_, i1, i2, i3⟩
      show f_X0_spread_l190_33 o G (f + 1) (iN n) G2 = _
      unfold f_X0_spread_l190_33
      simp (disch := omega) only [chk_t, beq_self_eq_true, nm_s, bj1_s, bj2_s, bj3_s, mo_1, mo_0, l_0, l_1, l_2, l_3, l_4, l_5, l_6, l_7, l_8, l_9, l_10, l_11, l_12, l_13, l_14, l_15, l_16, l_17, l_18, l_19, l_20, l_21, l_24, l_30, l_31, l_32, l_36, l_40, l_41, l_42, l_43, l_44, l_45, l_46, l_47, l_48, l_49, l_50, l_51, l_52, l_57, l_58, l_60, l_61, l_64, l_72, l_80, l_92, l_98, l_99, l_100, l_102, l_105, l_111, l_112, l_114, l_115, l_116, l_117, l_120, l_144, l_200, l_201, l_240, l_300, l_320, l_400, l_500, l_512, l_550, l_560, l_649, l_650, l_1000, l_1032, l_1400, l_2000, l_4000, l_10000, l_268435455, iN_add, iN_sub, iN_mul, iN_le_t, iN_le_f, iN_lt_t, iN_lt_f, iN_eq_f, inb_iN, ix_iN, isZ_0, isZ_1, ↓reduceIte, eq_self, e8]
    · refine ⟨fun i h6 => by omega, fun i h6 => ?_, fun p hp hp2 => ?_, a3⟩
      · by_cases c : i = n - 1
        · subst c; exact sI_eq
        · rw [sI_j c]
          by_cases c0 : i = 0
          · subst c0; exact sI_eq
          · rw [sI_j c0]; exact a1 i (by omega) (by omega)
      · rw [sI_p hp2, sI_p hp2]; exact a2 p hp2
  obtain ⟨B, hB, b1, b2, b3⟩ := hL2
  have hB' : f_X0_spread_l190_33 o G FU (iN 0) (sI (sI A (o + 2) 0 (warmS k q D 0)) (o + 2) (n - 1) (warmS k q D (n - 1))) = some B := hB
  refine ⟨B, ?_, ?_, ⟨⟨fun p hp => b2 p (by omega) (by omega), b3⟩, by rw [b2 o (by omega) (by omega)]⟩⟩
  · unfold f_X0_spread
    simp (disch := omega) only [chk_t, beq_self_eq_true, nm_s, bj1_s, bj2_s, bj3_s, mo_1, mo_0, l_0, l_1, l_2, l_3, l_4, l_5, l_6, l_7, l_8, l_9, l_10, l_11, l_12, l_13, l_14, l_15, l_16, l_17, l_18, l_19, l_20, l_21, l_24, l_30, l_31, l_32, l_36, l_40, l_41, l_42, l_43, l_44, l_45, l_46, l_47, l_48, l_49, l_50, l_51, l_52, l_57, l_58, l_60, l_61, l_64, l_72, l_80, l_92, l_98, l_99, l_100, l_102, l_105, l_111, l_112, l_114, l_115, l_116, l_117, l_120, l_144, l_200, l_201, l_240, l_300, l_320, l_400, l_500, l_512, l_550, l_560, l_649, l_650, l_1000, l_1032, l_1400, l_2000, l_4000, l_10000, l_268435455, iN_add, iN_sub, iN_mul, iN_le_t, iN_le_f, iN_lt_t, iN_lt_f, iN_eq_f, inb_iN, ix_iN, isZ_0, isZ_1, ↓reduceIte, eq_self, kd_b ho, e8, hA', x11, w, ite_so, fO_ok, w0, sI_p, w1, hB']
  · have en : nD (warmsS k q D) = n := by unfold nD; rw [warmsS_lo (by omega)]; exact hnn
    have em : mD (warmsS k q D) = mD D := by unfold mD; rw [warmsS_lo (by omega)]
    intro d j hc
    rw [en, em] at hc
    by_cases c : d = 1
    · subst c
      have hj : j < n := by unfold cok at hc; omega
      rw [b1 j hj]
      show _ = warmsS k q D (52 + j)
      unfold warmsS
      rw [spD_in (by omega) (by rw [hnn]; omega), show 52 + j - 52 = j by omega]
    · have a := (ci_inv h2.2 hm hc).2.2.2 c
      rw [b2 _ (by omega) (by unfold cok at hc; omega), h d j (by rw [hnn]; exact hc)]
      unfold warmsS
      rw [spD_out (by rw [hnn]; omega)]
/-- a depth's warmth -/
def wR (D : Nat → Int32) : Prop := ∀ i, i < nD D → 0 ≤ (D (52 + i)).toInt ∧ (D (52 + i)).toInt ≤ 3000
theorem cD_0 {o : Nat} {D : Nat → Int32} {G : G_} (hz : dz D) (h : cD o D G) (j p : Nat) (x : Int32) (hj : 11 ≤ j ∧ j ≤ 16) (hp : p = ci 0 j) : cD o (up D p x) (sI G o j x) := by
  subst hp
  have h5 : j = 11 ∨ j = 12 ∨ j = 13 ∨ j = 14 ∨ j = 15 ∨ j = 16 := by omega
  exact cD_up hz h 0 j x (by unfold cok; omega) (by rcases h5 with rfl | rfl | rfl | rfl | rfl | rfl <;> decide) (by rcases h5 with rfl | rfl | rfl | rfl | rfl | rfl <;> decide)
theorem cD_w {o i : Nat} {D : Nat → Int32} {G : G_} (hz : dz D) (h : cD o D G) (x : Int32) (hi : i < 20) : cD o (up D (52 + i) x) (sI G (o + 1) i x) := cD_up hz h 1 i x (by unfold cok; omega) (by show 52 + i ≠ 0; omega) (by show 52 + i ≠ 4; omega)
theorem cD_m {o i : Nat} {D : Nat → Int32} {G : G_} (hz : dz D) (h : cD o D G) (x : Int32) (hi : i < 20) : cD o (up D (72 + i) x) (sI G (o + 3) i x) := cD_up hz h 3 i x (by unfold cok; omega) (by show 72 + i ≠ 0; omega) (by show 72 + i ≠ 4; omega)
theorem cD_j {o i : Nat} {D : Nat → Int32} {G : G_} (hz : dz D) (h : cD o D G) (x : Int32) (hi : i < 20) : cD o (up D (92 + i) x) (sI G (o + 4) i x) := cD_up hz h 4 i x (by unfold cok; omega) (by show 92 + i ≠ 0; omega) (by show 92 + i ≠ 4; omega)
theorem cD_wet {o s : Nat} {D : Nat → Int32} {G : G_} (hz : dz D) (h : cD o D G) (x : Int32) (hi : s < 2) : cD o (up D (48 + s) x) (sI G (o + 5) s x) := cD_up hz h 5 s x (by unfold cok; omega) (by show 48 + s ≠ 0; omega) (by show 48 + s ≠ 4; omega)
theorem cD_brn {o s : Nat} {D : Nat → Int32} {G : G_} (hz : dz D) (h : cD o D G) (x : Int32) (hi : s < 2) : cD o (up D (50 + s) x) (sI G (o + 6) s x) := cD_up hz h 6 s x (by unfold cok; omega) (by show 50 + s ≠ 0; omega) (by show 50 + s ≠ 4; omega)
theorem dz_up {D : Nat → Int32} {p : Nat} {x : Int32} (hz : dz D) (h0 : p ≠ 0) (h4 : p ≠ 4) : dz (up D p x) := by
  unfold dz nD mD
  rw [up_ne (Ne.symm h0), up_ne (Ne.symm h4)]
  exact hz
theorem dz_of {D : Nat → Int32} {n : Nat} (hn : okN D n) (hm : mD D ≤ 12) : dz D := ⟨by rw [okN_n hn]; exact hn.2.2, hm⟩
theorem le_sub {a : Int32} {c : Nat} (h1 : 0 ≤ a.toInt) (hc : c < 100000) : (a - iN c ≤ iN 0) = (a ≤ iN c) := by
  have := t_rng a
  rw [t_le, t_le, t_sub (by rw [iN_t (by omega)]; omega) (by rw [iN_t (by omega)]; omega), iN_t (by omega), iN_t (by omega)]
  exact propext ⟨fun h => by omega, fun h => by omega⟩
theorem lt_sub {a : Int32} {c : Nat} (h1 : 0 ≤ a.toInt) (hc : c < 100000) : (a - iN c < iN 0) = (a < iN c) := by
  have := t_rng a
  rw [t_lt, t_lt, t_sub (by rw [iN_t (by omega)]; omega) (by rw [iN_t (by omega)]; omega), iN_t (by omega), iN_t (by omega)]
  exact propext ⟨fun h => by omega, fun h => by omega⟩
theorem boil_ok {o s i : Nat} {D : Nat → Int32} {G : G_} (ho : kd o = 0) (hz : dz D) (hw : 0 ≤ (D (52 + i)).toInt) (hs : s < 2) (hi : i < nD D) (h : cD o D G) : ∃ G', f_X0_boil o (iN s) (iN i) G = some G' ∧ cD o (dryS s i D) G' ∧ fr o G G' := by
  have hi2 : i < 20 := Nat.lt_of_lt_of_le hi hz.1
  unfold f_X0_boil dryS
  simp (disch := omega) only [chk_t, beq_self_eq_true, nm_s, bj1_s, bj2_s, bj3_s, mo_1, mo_0, l_0, l_1, l_2, l_3, l_4, l_5, l_6, l_7, l_8, l_9, l_10, l_11, l_12, l_13, l_14, l_15, l_16, l_17, l_18, l_19, l_20, l_21, l_24, l_30, l_31, l_32, l_36, l_40, l_41, l_42, l_43, l_44, l_45, l_46, l_47, l_48, l_49, l_50, l_51, l_52, l_57, l_58, l_60, l_61, l_64, l_72, l_80, l_92, l_98, l_99, l_100, l_102, l_105, l_111, l_112, l_114, l_115, l_116, l_117, l_120, l_144, l_200, l_201, l_240, l_300, l_320, l_400, l_500, l_512, l_550, l_560, l_649, l_650, l_1000, l_1032, l_1400, l_2000, l_4000, l_10000, l_268435455, iN_add, iN_sub, iN_mul, iN_le_t, iN_le_f, iN_lt_t, iN_lt_f, iN_eq_f, inb_iN, ix_iN, isZ_0, isZ_1, ↓reduceIte, eq_self, kd_b ho, c_wet h hs, c_w h hi, le_sub hw]
  by_cases c : D (48 + s) ≤ iN 0
  · simp only [if_pos c]
    exact ⟨G, rfl, h, fr_refl⟩
  · by_cases c2 : D (52 + i) ≤ iN 1000
    · simp only [if_neg c, if_pos c2]
      exact ⟨G, rfl, h, fr_refl⟩
    · simp only [if_neg c, if_neg c2]
      exact ⟨_, rfl, cD_w (dz_up hz (by omega) (by omega)) (cD_wet hz h _ hs) _ hi2, fr_sI (fr_sI fr_refl (by omega) (by omega) (Or.inl (by omega))) (by omega) (by omega) (Or.inl (by omega))⟩
theorem cbrowns_ok {o s i : Nat} {D : Nat → Int32} {G : G_} (ho : kd o = 0) (hz : dz D) (hw : 0 ≤ (D (52 + i)).toInt) (hs : s < 2) (hi : i < nD D) (h : cD o D G) : ∃ G', f_X0_browns o (iN s) (iN i) G = some G' ∧ cD o (brownS s i D) G' ∧ fr o G G' := by
  have hi2 : i < 20 := Nat.lt_of_lt_of_le hi hz.1
  unfold f_X0_browns brownS
  simp (disch := omega) only [chk_t, beq_self_eq_true, nm_s, bj1_s, bj2_s, bj3_s, mo_1, mo_0, l_0, l_1, l_2, l_3, l_4, l_5, l_6, l_7, l_8, l_9, l_10, l_11, l_12, l_13, l_14, l_15, l_16, l_17, l_18, l_19, l_20, l_21, l_24, l_30, l_31, l_32, l_36, l_40, l_41, l_42, l_43, l_44, l_45, l_46, l_47, l_48, l_49, l_50, l_51, l_52, l_57, l_58, l_60, l_61, l_64, l_72, l_80, l_92, l_98, l_99, l_100, l_102, l_105, l_111, l_112, l_114, l_115, l_116, l_117, l_120, l_144, l_200, l_201, l_240, l_300, l_320, l_400, l_500, l_512, l_550, l_560, l_649, l_650, l_1000, l_1032, l_1400, l_2000, l_4000, l_10000, l_268435455, iN_add, iN_sub, iN_mul, iN_le_t, iN_le_f, iN_lt_t, iN_lt_f, iN_eq_f, inb_iN, ix_iN, isZ_0, isZ_1, ↓reduceIte, eq_self, kd_b ho, c_wet h hs, c_brn h hs, c_w h hi, lt_sub hw, c_10 h]
  by_cases c : D (48 + s) = iN 0
  · by_cases c2 : D (52 + i) < iN 1400
    · simp only [if_pos c, if_pos c2]
      exact ⟨G, rfl, h, fr_refl⟩
    · simp only [if_pos c, if_neg c2]
      refine ⟨_, rfl, ?_, fr_sI fr_refl (by omega) (by omega) (Or.inl (by omega))⟩
      have e : D (50 + s) + (D (52 + i) - iN 1400) / iN 100 + D 3 / iN 4 = D (50 + s) + ((D (52 + i) - iN 1400) / iN 100 + D 3 / iN 4) := Int32.add_assoc _ _ _
      rw [e]
      exact cD_brn hz h _ hs
  · simp only [if_neg c]
    exact ⟨G, rfl, h, fr_refl⟩
/-- juice isn't below 0 -/
def jR (D : Nat → Int32) : Prop := ∀ i, i < nD D → 0 ≤ (D (92 + i)).toInt
theorem mx_0 {a : Int32} : mx a (iN 0) = if a < iN 0 then iN 0 else a := rfl
theorem juice_eq {j w : Int32} (hj : 0 ≤ j.toInt) (hw : 0 ≤ w.toInt) (hw2 : w.toInt ≤ 3000) : mx (j - (mx (w - iN 550) (iN 0)) / iN 100) (iN 0) = juiceS j w := by
  have e1 : (w - iN 550).toInt = w.toInt - 550 := t_sub (by rw [show (iN 550).toInt = 550 from rfl]; omega) (by rw [show (iN 550).toInt = 550 from rfl]; omega)
  have hr := t_rng j
  unfold juiceS
  by_cases c : w ≤ iN 550
  · rw [if_pos c]
    have c2 : w.toInt ≤ 550 := by have := t_le.mp c; rw [iN_t (by omega)] at this; omega
    have e2 : mx (w - iN 550) (iN 0) = iN 0 := by
      rw [t_eq, mx_t, e1, show (iN 0).toInt = 0 from rfl]
      split <;> omega
    rw [e2, show iN 0 / iN 100 = iN 0 from rfl, show j - iN 0 = j from Int32.sub_zero j, t_eq, mx_t, show (iN 0).toInt = 0 from rfl, if_neg (by omega)]
  · rw [if_neg c]
    have c2 : ¬ w.toInt ≤ 550 := fun e => c (t_le.mpr (by rw [iN_t (by omega)]; omega))
    have e2 : mx (w - iN 550) (iN 0) = w - iN 550 := by
      rw [t_eq, mx_t, e1, show (iN 0).toInt = 0 from rfl]
      split <;> omega
    rw [e2, mx_0]
theorem mx_com (a b : Int32) : mx a b = if b < a then a else b := by
  rw [t_eq, mx_t]
  by_cases c : b < a
  · rw [if_pos c]
    have := t_lt.mp c
    rw [if_neg (by omega)]
  · rw [if_neg c]
    have : ¬ b.toInt < a.toInt := fun e => c (t_lt.mpr e)
    split
    · rfl
    · omega
theorem mostS_up2 {D : Nat → Int32} {j : Nat} {a b : Int32} (hj : j < 20) (ha : a = if D (52 + j) < D (72 + j) then D (72 + j) else D (52 + j)) (hb : b = juiceS (D (92 + j)) (D (52 + j))) : up (up (mostS D j) (72 + j) a) (92 + j) b = mostS D (j + 1) := mostS_up hj ha hb
theorem depths_ok {o n : Nat} {D : Nat → Int32} {G : G_} {k : Int32} (hn : okN D n) (hm : mD D ≤ 12) (hw : wR D) (hj : jR D) (h : cD o D G) : ∃ G', f_X0_heat_l46_15 o k FU (iN 0) G = some G' ∧ cD o (mostS D n) G' ∧ fr o G G' := by
  have h2 := hn.2
  have hnn := okN_n hn
  have hz := dz_of hn hm
  have key := loop_h (fun n v s => f_X0_heat_l46_15 o k n v s) (fun j G2 => cD o (mostS D j) G2 ∧ fr o G G2) (fun G2 => cD o (mostS D n) G2 ∧ fr o G G2) 0 n ?_ ?_ (by omega) (n := FU) (fu_lt (by omega)) (s := G) ?_
  · exact key
  · intro f j G2 h3 h4 ⟨i1, i2⟩
    have e0 : mostS D j 0 = iN n := by rw [mostS_lo (by omega)]; exact hn.1
    have en : nD (mostS D j) = n := by unfold nD; rw [e0, ix_iN (by omega)]
    have em : mD (mostS D j) = mD D := by unfold mD; rw [mostS_lo (by omega)]
    have e1 : mostS D j (52 + j) = D (52 + j) := mostS_lo (by omega)
    have e2 : mostS D j (72 + j) = D (72 + j) := by unfold mostS; rw [spD_out (by omega), spD_out (by omega)]
    have e3 : mostS D j (92 + j) = D (92 + j) := by unfold mostS; rw [spD_out (by omega), spD_out (by omega)]
    have z1 : dz (mostS D j) := ⟨by rw [en]; exact h2.2, by rw [em]; exact hm⟩
    have r8 : G2.1 o 8 = iN n := (c_8 i1).trans e0
    have r1 : G2.1 (o + 1) j = D (52 + j) := (c_w i1 (by omega)).trans e1
    have r3 : G2.1 (o + 3) j = D (72 + j) := (c_m i1 (by omega)).trans e2
    have r4 : G2.1 (o + 4) j = D (92 + j) := (c_j i1 (by omega)).trans e3
    have hwj := hw j (by omega)
    refine ⟨sI (sI G2 (o + 3) j (mx (D (72 + j)) (D (52 + j)))) (o + 4) j (juiceS (D (92 + j)) (D (52 + j))), ⟨?_, fr_sI (fr_sI i2 (by omega) (by omega) (Or.inl (by omega))) (by omega) (by omega) (Or.inl (by omega))⟩, ?_⟩
    · rw [← mostS_up2 (D := D) (j := j) (a := mx (D (72 + j)) (D (52 + j))) (b := juiceS (D (92 + j)) (D (52 + j))) (by omega) (mx_com _ _) rfl]
      exact cD_j (dz_up z1 (by omega) (by omega)) (cD_m z1 i1 _ (by omega)) _ (by omega)
    · show f_X0_heat_l46_15 o k (f + 1) (iN j) G2 = _
      conv => lhs; unfold f_X0_heat_l46_15
      simp (disch := omega) only [chk_t, beq_self_eq_true, nm_s, bj1_s, bj2_s, bj3_s, mo_1, mo_0, l_0, l_1, l_2, l_3, l_4, l_5, l_6, l_7, l_8, l_9, l_10, l_11, l_12, l_13, l_14, l_15, l_16, l_17, l_18, l_19, l_20, l_21, l_24, l_30, l_31, l_32, l_36, l_40, l_41, l_42, l_43, l_44, l_45, l_46, l_47, l_48, l_49, l_50, l_51, l_52, l_57, l_58, l_60, l_61, l_64, l_72, l_80, l_92, l_98, l_99, l_100, l_102, l_105, l_111, l_112, l_114, l_115, l_116, l_117, l_120, l_144, l_200, l_201, l_240, l_300, l_320, l_400, l_500, l_512, l_550, l_560, l_649, l_650, l_1000, l_1032, l_1400, l_2000, l_4000, l_10000, l_268435455, iN_add, iN_sub, iN_mul, iN_le_t, iN_le_f, iN_lt_t, iN_lt_f, iN_eq_f, inb_iN, ix_iN, isZ_0, isZ_1, ↓reduceIte, eq_self, r8, r1, r3, r4, sI_p, juice_eq (hj j (by omega)) hwj.1 hwj.2]
  · intro f G2 ⟨i1, i2⟩
    refine ⟨G2, ?_, i1, i2⟩
    have r8 : G2.1 o 8 = iN n := (c_8 i1).trans (by rw [mostS_lo (by omega)]; exact hn.1)
    show f_X0_heat_l46_15 o k (f + 1) (iN n) G2 = _
    unfold f_X0_heat_l46_15
    simp (disch := omega) only [chk_t, beq_self_eq_true, nm_s, bj1_s, bj2_s, bj3_s, mo_1, mo_0, l_0, l_1, l_2, l_3, l_4, l_5, l_6, l_7, l_8, l_9, l_10, l_11, l_12, l_13, l_14, l_15, l_16, l_17, l_18, l_19, l_20, l_21, l_24, l_30, l_31, l_32, l_36, l_40, l_41, l_42, l_43, l_44, l_45, l_46, l_47, l_48, l_49, l_50, l_51, l_52, l_57, l_58, l_60, l_61, l_64, l_72, l_80, l_92, l_98, l_99, l_100, l_102, l_105, l_111, l_112, l_114, l_115, l_116, l_117, l_120, l_144, l_200, l_201, l_240, l_300, l_320, l_400, l_500, l_512, l_550, l_560, l_649, l_650, l_1000, l_1032, l_1400, l_2000, l_4000, l_10000, l_268435455, iN_add, iN_sub, iN_mul, iN_le_t, iN_le_f, iN_lt_t, iN_lt_f, iN_eq_f, inb_iN, ix_iN, isZ_0, isZ_1, ↓reduceIte, eq_self, r8]
  · have e : mostS D 0 = D := by
      unfold mostS
      rw [show 72 + 0 = 72 from rfl, show 92 + 0 = 92 from rfl, spD_nil, spD_nil]
    rw [e]
    exact ⟨h, fr_refl⟩
/-! ranges that a tick keeps -/
def qR (q : Int32) : Prop := 0 ≤ q.toInt ∧ q.toInt ≤ 30
def wfD (D : Nat → Int32) (n : Nat) : Prop := okN D n ∧ mD D ≤ 12 ∧ wR D ∧ jR D
theorem li {k : Nat} (h : k < 2147483648) : (iN k).toInt = k := iN_t h
theorem out_R {k q w : Int32} {b : Prop} [Decidable b] (hq : qR q) (h0 : 0 ≤ w.toInt) (h1 : w.toInt ≤ 3000) : -w.toInt ≤ 2 * (outS k q b w).toInt ∧ 2 * (outS k q b w).toInt ≤ 3000 - w.toInt := by
  obtain ⟨q0, q1⟩ := hq
  have e1 : (iN 100 * q).toInt = 100 * q.toInt := by
    rw [t_mul (by rw [li (by omega)]; omega) (by rw [li (by omega)]; omega), li (by omega)]
    rfl
  have e2 : (iN 100 * q - w).toInt = 100 * q.toInt - w.toInt := by rw [t_sub (by omega) (by omega), e1]
  have e3 : (iN 200 - w).toInt = 200 - w.toInt := by
    rw [t_sub (by rw [li (by omega)]; omega) (by rw [li (by omega)]; omega), li (by omega)]
    rfl
  unfold outS
  split
  · split
    · rw [t_div4, e2]; split <;> omega
    · rw [t_div16, e3]; split <;> omega
  · split
    · rw [t_div12, e2]; split <;> omega
    · split
      · rw [t_div2, e2]; split <;> omega
      · rw [t_div20, e3]; split <;> omega
theorem skin_R {k q w v : Int32} {b : Prop} [Decidable b] (hq : qR q) (h0 : 0 ≤ w.toInt) (h1 : w.toInt ≤ 3000) (h2 : 0 ≤ v.toInt) (h3 : v.toInt ≤ 3000) : 0 ≤ (w + (v - w) / iN 4 + outS k q b w).toInt ∧ (w + (v - w) / iN 4 + outS k q b w).toInt ≤ 3000 := by
  have ho := out_R (k := k) (b := b) hq h0 h1
  have e1 : (v - w).toInt = v.toInt - w.toInt := t_sub (by omega) (by omega)
  have e2 : -w.toInt ≤ 4 * ((v - w) / iN 4).toInt ∧ 4 * ((v - w) / iN 4).toInt ≤ 3000 - w.toInt := by
    rw [t_div4, e1]; split <;> omega
  have e3 : (w + (v - w) / iN 4).toInt = w.toInt + ((v - w) / iN 4).toInt := t_add (by omega) (by omega)
  rw [t_add (by omega) (by omega), e3]
  omega
theorem mid_R {w u v : Int32} (h0 : 0 ≤ w.toInt) (h1 : w.toInt ≤ 3000) (h2 : 0 ≤ v.toInt) (h3 : v.toInt ≤ 3000) (h4 : 0 ≤ u.toInt) (h5 : u.toInt ≤ 3000) : 0 ≤ (w + ((u - w) + (v - w)) / iN 4).toInt ∧ (w + ((u - w) + (v - w)) / iN 4).toInt ≤ 3000 := by
  have e1 : (v - w).toInt = v.toInt - w.toInt := t_sub (by omega) (by omega)
  have e0 : (u - w).toInt = u.toInt - w.toInt := t_sub (by omega) (by omega)
  have e4 : ((u - w) + (v - w)).toInt = u.toInt - w.toInt + (v.toInt - w.toInt) := by rw [t_add (by omega) (by omega), e0, e1]
  have e2 : -(2 * w.toInt) ≤ 4 * (((u - w) + (v - w)) / iN 4).toInt ∧ 4 * (((u - w) + (v - w)) / iN 4).toInt ≤ 6000 - 2 * w.toInt := by
    rw [t_div4, e4]; split <;> omega
  rw [t_add (by omega) (by omega)]
  omega
theorem warms_R {D : Nat → Int32} {n : Nat} {k q : Int32} (hn : okN D n) (hw : wR D) (hq : qR q) : wR (warmsS k q D) := by
  have h2 := hn.2
  have hnn := okN_n hn
  have en : nD (warmsS k q D) = n := by unfold nD; rw [warmsS_lo (by omega)]; exact hnn
  unfold wR at hw
  rw [hnn] at hw
  intro i hi
  rw [en] at hi
  have e : warmsS k q D (52 + i) = warmS k q D i := by
    unfold warmsS
    rw [spD_in (by omega) (by rw [hnn]; omega), show 52 + i - 52 = i by omega]
  rw [e]
  unfold warmS
  have h0 := hw i hi
  split
  · next c =>
    subst c
    have h1 := hw 1 (by omega)
    exact skin_R hq h0.1 h0.2 h1.1 h1.2
  · rw [hnn]
    split
    · have h1 := hw (i - 1) (by omega)
      rw [show 52 + (i - 1) = 52 + i - 1 by omega] at h1
      exact skin_R hq h0.1 h0.2 h1.1 h1.2
    · have h1 := hw (i - 1) (by omega)
      have h3 := hw (i + 1) (by omega)
      rw [show 52 + (i - 1) = 52 + i - 1 by omega] at h1
      rw [show 52 + (i + 1) = 52 + i + 1 by omega] at h3
      exact mid_R h0.1 h0.2 h3.1 h3.2 h1.1 h1.2
theorem nD_of {D D' : Nat → Int32} (e : D' 0 = D 0) : nD D' = nD D := by unfold nD; rw [e]
theorem mD_of {D D' : Nat → Int32} (e : D' 4 = D 4) : mD D' = mD D := by unfold mD; rw [e]
theorem dry_R {D : Nat → Int32} {s i : Nat} (hs : s < 2) (hw : wR D) : wR (dryS s i D) := by
  intro j hj
  rw [nD_of (dryS_0 (by omega) (by omega))] at hj
  have := hw j hj
  unfold dryS
  split
  · exact this
  · split
    · exact this
    · by_cases c : j = i
      · subst c; rw [up_eq]; decide
      · rw [up_ne (by omega), up_ne (by omega)]; exact this
theorem bath_R {D : Nat → Int32} {s : Nat} {k : Int32} (hs : s < 2) (hw : wR D) : wR (bathS k s D) := by
  intro j hj
  rw [nD_of (bathS_0 (by omega))] at hj
  rw [bathS_0 (by omega)]
  exact hw j hj
theorem keep_R {D D' : Nat → Int32} (hw : wR D) (hn : nD D ≤ 20) (e : ∀ p, (52 ≤ p ∧ p < 72) ∨ p = 0 → D' p = D p) : wR D' := by
  intro j hj
  rw [nD_of (e 0 (by omega))] at hj
  rw [e _ (by omega)]
  exact hw j hj
theorem keep_J {D D' : Nat → Int32} (hw : jR D) (hn : nD D ≤ 20) (e : ∀ p, 92 ≤ p ∨ p = 0 → D' p = D p) : jR D' := by
  intro j hj
  rw [nD_of (e 0 (by omega))] at hj
  rw [e _ (by omega)]
  exact hw j hj
theorem most_J {D : Nat → Int32} {n : Nat} (hn : okN D n) (hw : jR D) : jR (mostS D n) := by
  have h2 := hn.2
  intro j hj
  rw [nD_of (mostS_lo (by omega)), okN_n hn] at hj
  have := hw j (by rw [okN_n hn]; exact hj)
  unfold mostS
  rw [spD_in (by omega) (by omega)]
  unfold juiceS
  split
  · exact this
  · split
    · decide
    · next c => exact Int.not_lt.mp (fun e => c (t_lt.mpr e))
theorem up_com {D : Nat → Int32} {p q : Nat} {x y : Int32} (h : p ≠ q) : up (up D p x) q y = up (up D q y) p x := by
  funext r
  unfold up
  by_cases c : r = q
  · rw [if_pos c, if_neg (by omega), if_pos c]
  · rw [if_neg c]
    by_cases c2 : r = p
    · rw [if_pos c2, if_pos c2]
    · rw [if_neg c2, if_neg c2, if_neg c]
theorem dry_bath {D : Nat → Int32} {i : Nat} {k : Int32} : dryS 1 i (bathS k 0 D) = bathS k 0 (dryS 1 i D) := by
  unfold bathS
  by_cases c : k = iN 3
  · rw [if_pos c, if_pos c]
    unfold dryS
    rw [up_ne (by omega), up_ne (by omega)]
    split
    · rfl
    · split
      · rfl
      · rw [up_com (p := 48 + 0) (q := 48 + 1) (by omega), up_com (p := 48 + 0) (q := 52 + i) (by omega)]
  · rw [if_neg c, if_neg c]
/-- the stations of a tick -/
theorem wf_tick {D : Nat → Int32} {n : Nat} {k q : Int32} (h : wfD D n) (hq : qR q) : wfD (tickS k q D) n := by
  obtain ⟨hn, hm, hw, hj⟩ := h
  have h2 := hn.2
  have hnn := okN_n hn
  have e0 : tickS k q D 0 = D 0 := tickS_lo (by omega)
  refine ⟨okN_keep hn e0, by rw [mD_of (tickS_lo (by omega))]; exact hm, ?_, ?_⟩
  · unfold tickS
    rw [hnn]
    have w1 := bath_R (k := k) (s := 1) (by omega) (dry_R (s := 1) (i := n - 1) (by omega) (bath_R (k := k) (s := 0) (by omega) (dry_R (s := 0) (i := 0) (by omega) (warms_R (k := k) hn hw hq))))
    refine keep_R w1 ?_ ?_
    · rw [nD_of (bathS_0 (by omega)), nD_of (dryS_0 (by omega) (by omega)), nD_of (bathS_0 (by omega)), nD_of (dryS_0 (by omega) (by omega)), nD_of (warmsS_lo (by omega)), hnn]
      exact h2.2
    · intro p hp
      rw [endS_0 (by omega) (by omega) (by omega) (by omega), brownS_0 (by omega), brownS_0 (by omega), mostS_lo (by omega)]
  · unfold tickS
    rw [hnn]
    have n1 : okN (bathS k 1 (dryS 1 (n - 1) (bathS k 0 (dryS 0 0 (warmsS k q D))))) n := okN_keep hn (by rw [bathS_0 (by omega), dryS_0 (by omega) (by omega), bathS_0 (by omega), dryS_0 (by omega) (by omega), warmsS_lo (by omega)])
    have j1 : jR (bathS k 1 (dryS 1 (n - 1) (bathS k 0 (dryS 0 0 (warmsS k q D))))) := by
      refine keep_J hj (by rw [hnn]; exact h2.2) (fun p hp => ?_)
      rw [bathS_0 (by omega), dryS_0 (by omega) (by omega), bathS_0 (by omega), dryS_0 (by omega) (by omega)]
      unfold warmsS
      rw [spD_out (by rw [hnn]; omega)]
    refine keep_J (most_J n1 j1) ?_ ?_
    · rw [nD_of (mostS_lo (by omega)), okN_n n1]
      exact h2.2
    · intro p hp
      rw [endS_0 (by omega) (by omega) (by omega) (by omega), brownS_0 (by omega), brownS_0 (by omega)]
theorem heat_ok {o n : Nat} {D : Nat → Int32} {G : G_} {k q : Int32} (ho : kd o = 0) (hwf : wfD D n) (hq : qR q) (h : cD o D G) : ∃ G', f_X0_heat o k q G = some G' ∧ cD o (tickS k q D) G' ∧ fr o G G' := by
  obtain ⟨hn, hm, hw, hj⟩ := hwf
  have h2 := hn.2
  have hnn := okN_n hn
  obtain ⟨G1, g1, c1, f1⟩ := spread_ok (k := k) (q := q) ho hn hm h
  have w1 := warms_R (k := k) hn hw hq
  have n1 : okN (warmsS k q D) n := okN_keep hn (warmsS_lo (by omega))
  have m1 : mD (warmsS k q D) ≤ 12 := by rw [mD_of (warmsS_lo (by omega))]; exact hm
  have j1 : jR (warmsS k q D) := keep_J hj (by rw [hnn]; exact h2.2) (fun p hp => by unfold warmsS; rw [spD_out (by rw [hnn]; omega)])
  obtain ⟨G2, g2, c2, f2⟩ := boil_ok (s := 0) (i := 0) ho (dz_of n1 m1) (w1 0 (by rw [okN_n n1]; omega)).1 (by omega) (by rw [okN_n n1]; omega) c1
  have w2 := dry_R (s := 0) (i := 0) (by omega) w1
  have n2 : okN (dryS 0 0 (warmsS k q D)) n := okN_keep n1 (dryS_0 (by omega) (by omega))
  have m2 : mD (dryS 0 0 (warmsS k q D)) ≤ 12 := by rw [mD_of (dryS_0 (by omega) (by omega))]; exact m1
  have j2 : jR (dryS 0 0 (warmsS k q D)) := keep_J j1 (by rw [okN_n n1]; exact h2.2) (fun p hp => dryS_0 (by omega) (by omega))
  obtain ⟨G3, g3, c3, f3⟩ := boil_ok (s := 1) (i := n - 1) ho (dz_of n2 m2) (w2 (n - 1) (by rw [okN_n n2]; omega)).1 (by omega) (by rw [okN_n n2]; omega) c2
  have w3 := dry_R (s := 1) (i := n - 1) (by omega) w2
  have n3 : okN (dryS 1 (n - 1) (dryS 0 0 (warmsS k q D))) n := okN_keep n2 (dryS_0 (by omega) (by omega))
  have m3 : mD (dryS 1 (n - 1) (dryS 0 0 (warmsS k q D))) ≤ 12 := by rw [mD_of (dryS_0 (by omega) (by omega))]; exact m2
  have j3 : jR (dryS 1 (n - 1) (dryS 0 0 (warmsS k q D))) := keep_J j2 (by rw [okN_n n2]; exact h2.2) (fun p hp => dryS_0 (by omega) (by omega))
  generalize hE : dryS 1 (n - 1) (dryS 0 0 (warmsS k q D)) = E at *
  have e4 : tickS k q D = endS k (brownS 1 (n - 1) (brownS 0 0 (mostS (bathS k 1 (bathS k 0 E)) n))) := by
    unfold tickS
    rw [hnn, dry_bath, hE]
  have b4 : ∃ G4, (if k = iN 3 then (some (sI (sI G3 (o + 5) 0 (iN 30)) (o + 5) 1 (iN 30))) else some G3) = some G4 ∧ cD o (bathS k 1 (bathS k 0 E)) G4 ∧ fr o G3 G4 := by
    have z3 := dz_of n3 m3
    by_cases c : k = iN 3
    · refine ⟨_, if_pos c, ?_, fr_sI (fr_sI fr_refl (by omega) (by omega) (Or.inl (by omega))) (by omega) (by omega) (Or.inl (by omega))⟩
      unfold bathS
      rw [if_pos c, if_pos c]
      exact cD_wet (s := 1) (dz_up z3 (by omega) (by omega)) (cD_wet (s := 0) z3 c3 (iN 30) (by omega)) (iN 30) (by omega)
    · refine ⟨_, if_neg c, ?_, fr_refl⟩
      unfold bathS
      rw [if_neg c, if_neg c]
      exact c3
  obtain ⟨G4, g4, c4, f4⟩ := b4
  have n4 : okN (bathS k 1 (bathS k 0 E)) n := okN_keep n3 (by rw [bathS_0 (by omega), bathS_0 (by omega)])
  have m4 : mD (bathS k 1 (bathS k 0 E)) ≤ 12 := by rw [mD_of (bathS_0 (by omega)), mD_of (bathS_0 (by omega))]; exact m3
  have w4 := bath_R (k := k) (s := 1) (by omega) (bath_R (k := k) (s := 0) (by omega) w3)
  have j4 : jR (bathS k 1 (bathS k 0 E)) := keep_J j3 (by rw [okN_n n3]; exact h2.2) (fun p hp => by rw [bathS_0 (by omega), bathS_0 (by omega)])
  generalize bathS k 1 (bathS k 0 E) = F at *
  obtain ⟨G5, g5, c5, f5⟩ := depths_ok (k := k) n4 m4 w4 j4 c4
  have n5 : okN (mostS F n) n := okN_keep n4 (mostS_lo (by omega))
  have m5 : mD (mostS F n) ≤ 12 := by rw [mD_of (mostS_lo (by omega))]; exact m4
  have w5 : wR (mostS F n) := keep_R w4 (by rw [okN_n n4]; exact h2.2) (fun p hp => mostS_lo (by omega))
  generalize mostS F n = H at *
  obtain ⟨G6, g6, c6, f6⟩ := cbrowns_ok (s := 0) (i := 0) ho (dz_of n5 m5) (w5 0 (by rw [okN_n n5]; omega)).1 (by omega) (by rw [okN_n n5]; omega) c5
  have n6 : okN (brownS 0 0 H) n := okN_keep n5 (brownS_0 (by omega))
  have m6 : mD (brownS 0 0 H) ≤ 12 := by rw [mD_of (brownS_0 (by omega))]; exact m5
  have w6 : wR (brownS 0 0 H) := keep_R w5 (by rw [okN_n n5]; exact h2.2) (fun p hp => brownS_0 (by omega))
  obtain ⟨G7, g7, c7, f7⟩ := cbrowns_ok (s := 1) (i := n - 1) ho (dz_of n6 m6) (w6 (n - 1) (by rw [okN_n n6]; omega)).1 (by omega) (by rw [okN_n n6]; omega) c6
  have n7 : okN (brownS 1 (n - 1) (brownS 0 0 H)) n := okN_keep n6 (brownS_0 (by omega))
  have m7 : mD (brownS 1 (n - 1) (brownS 0 0 H)) ≤ 12 := by rw [mD_of (brownS_0 (by omega))]; exact m6
  have r2 : G2.1 o 8 = iN n := (c_8 c2).trans n2.1
  have r6 : G6.1 o 8 = iN n := (c_8 c6).trans n6.1
  have ff := fr_tr f1 (fr_tr f2 (fr_tr f3 (fr_tr f4 (fr_tr f5 (fr_tr f6 f7)))))
  rw [e4]
  generalize brownS 1 (n - 1) (brownS 0 0 H) = K at *
  have z7 := dz_of n7 m7
  have c8 := cD_id (cD_0 z7 c7 15 45 k (by omega) rfl) 46 (if k = iN 1 then iN 1 - K 44 else -iN 9) (by omega) (dz_up z7 (by omega) (by omega))
  have z8 := dz_up (p := 46) (x := if k = iN 1 then iN 1 - K 44 else -iN 9) (dz_up (p := 45) (x := k) z7 (by omega) (by omega)) (by omega) (by omega)
  have f8 : fr o G (sI G7 o 15 k) := fr_sI ff (by omega) (by omega) (Or.inr (by omega))
  by_cases c : k = iN 4
  · refine ⟨sI (sI (sI G7 o 15 k) o 16 (K 47 + iN 1)) o 12 (K 43 + iN 1), ?_, ?_, fr_sI (fr_sI f8 (by omega) (by omega) (Or.inr (by omega))) (by omega) (by omega) (Or.inr (by omega))⟩
    · unfold f_X0_heat
      simp (disch := omega) only [chk_t, beq_self_eq_true, nm_s, bj1_s, bj2_s, bj3_s, mo_1, mo_0, l_0, l_1, l_2, l_3, l_4, l_5, l_6, l_7, l_8, l_9, l_10, l_11, l_12, l_13, l_14, l_15, l_16, l_17, l_18, l_19, l_20, l_21, l_24, l_30, l_31, l_32, l_36, l_40, l_41, l_42, l_43, l_44, l_45, l_46, l_47, l_48, l_49, l_50, l_51, l_52, l_57, l_58, l_60, l_61, l_64, l_72, l_80, l_92, l_98, l_99, l_100, l_102, l_105, l_111, l_112, l_114, l_115, l_116, l_117, l_120, l_144, l_200, l_201, l_240, l_300, l_320, l_400, l_500, l_512, l_550, l_560, l_649, l_650, l_1000, l_1032, l_1400, l_2000, l_4000, l_10000, l_268435455, iN_add, iN_sub, iN_mul, iN_le_t, iN_le_f, iN_lt_t, iN_lt_f, iN_eq_f, inb_iN, ix_iN, isZ_0, isZ_1, ↓reduceIte, eq_self, kd_b ho, g1, g2, g3, r2, r6, g4, g5, g6, g7, sI_j, c_16 c7, c_12 c7]
      rw [if_pos c]
    · unfold endS
      rw [if_pos c]
      exact cD_0 (dz_up z8 (by omega) (by omega)) (cD_0 z8 c8 16 47 _ (by omega) rfl) 12 43 _ (by omega) rfl
  · refine ⟨sI (sI (sI G7 o 15 k) o 16 (iN 0)) o 12 (K 43 + iN 1), ?_, ?_, fr_sI (fr_sI f8 (by omega) (by omega) (Or.inr (by omega))) (by omega) (by omega) (Or.inr (by omega))⟩
    · unfold f_X0_heat
      simp (disch := omega) only [chk_t, beq_self_eq_true, nm_s, bj1_s, bj2_s, bj3_s, mo_1, mo_0, l_0, l_1, l_2, l_3, l_4, l_5, l_6, l_7, l_8, l_9, l_10, l_11, l_12, l_13, l_14, l_15, l_16, l_17, l_18, l_19, l_20, l_21, l_24, l_30, l_31, l_32, l_36, l_40, l_41, l_42, l_43, l_44, l_45, l_46, l_47, l_48, l_49, l_50, l_51, l_52, l_57, l_58, l_60, l_61, l_64, l_72, l_80, l_92, l_98, l_99, l_100, l_102, l_105, l_111, l_112, l_114, l_115, l_116, l_117, l_120, l_144, l_200, l_201, l_240, l_300, l_320, l_400, l_500, l_512, l_550, l_560, l_649, l_650, l_1000, l_1032, l_1400, l_2000, l_4000, l_10000, l_268435455, iN_add, iN_sub, iN_mul, iN_le_t, iN_le_f, iN_lt_t, iN_lt_f, iN_eq_f, inb_iN, ix_iN, isZ_0, isZ_1, ↓reduceIte, eq_self, kd_b ho, g1, g2, g3, r2, r6, g4, g5, g6, g7, sI_j, c_16 c7, c_12 c7]
      rw [if_neg c]
    · unfold endS
      rw [if_neg c]
      exact cD_0 (dz_up z8 (by omega) (by omega)) (cD_0 z8 c8 16 47 _ (by omega) rfl) 12 43 _ (by omega) rfl

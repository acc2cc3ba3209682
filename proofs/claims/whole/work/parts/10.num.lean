/-! numbers: wrapped ints that don't wrap, counters, loops -/
def iN (k : Nat) : Int32 := Int32.ofNat k
theorem iN_t {k : Nat} (h : k < 2147483648) : (iN k).toInt = k := Int32.toInt_ofNat_of_lt h
theorem ix_iN {k : Nat} (h : k < 2147483648) : ix (iN k) = k := Int32.toNatClampNeg_ofNat_of_lt h
theorem iN_add (a b : Nat) : iN a + iN b = iN (a + b) := (Int32.ofNat_add a b).symm
theorem iN_mul (a b : Nat) : iN a * iN b = iN (a * b) := (Int32.ofNat_mul a b).symm
theorem iN_sub {a b : Nat} (h : b ≤ a) : iN a - iN b = iN (a - b) := (Int32.ofNat_sub a b h).symm
theorem l_0 : (0 : Int32) = iN 0 := of_eq_true (eq_self _)
theorem l_1 : (1 : Int32) = iN 1 := of_eq_true (eq_self _)
theorem l_2 : (2 : Int32) = iN 2 := of_eq_true (eq_self _)
theorem l_3 : (3 : Int32) = iN 3 := of_eq_true (eq_self _)
theorem l_4 : (4 : Int32) = iN 4 := of_eq_true (eq_self _)
theorem l_5 : (5 : Int32) = iN 5 := of_eq_true (eq_self _)
theorem l_6 : (6 : Int32) = iN 6 := of_eq_true (eq_self _)
theorem l_7 : (7 : Int32) = iN 7 := of_eq_true (eq_self _)
theorem l_8 : (8 : Int32) = iN 8 := of_eq_true (eq_self _)
theorem l_9 : (9 : Int32) = iN 9 := of_eq_true (eq_self _)
theorem l_10 : (10 : Int32) = iN 10 := of_eq_true (eq_self _)
theorem l_11 : (11 : Int32) = iN 11 := of_eq_true (eq_self _)
theorem l_12 : (12 : Int32) = iN 12 := of_eq_true (eq_self _)
theorem l_13 : (13 : Int32) = iN 13 := of_eq_true (eq_self _)
theorem l_14 : (14 : Int32) = iN 14 := of_eq_true (eq_self _)
theorem l_15 : (15 : Int32) = iN 15 := of_eq_true (eq_self _)
theorem l_16 : (16 : Int32) = iN 16 := of_eq_true (eq_self _)
theorem l_17 : (17 : Int32) = iN 17 := of_eq_true (eq_self _)
theorem l_18 : (18 : Int32) = iN 18 := of_eq_true (eq_self _)
theorem l_19 : (19 : Int32) = iN 19 := of_eq_true (eq_self _)
theorem l_20 : (20 : Int32) = iN 20 := of_eq_true (eq_self _)
theorem l_21 : (21 : Int32) = iN 21 := of_eq_true (eq_self _)
theorem l_30 : (30 : Int32) = iN 30 := of_eq_true (eq_self _)
theorem l_31 : (31 : Int32) = iN 31 := of_eq_true (eq_self _)
theorem l_32 : (32 : Int32) = iN 32 := of_eq_true (eq_self _)
theorem l_36 : (36 : Int32) = iN 36 := of_eq_true (eq_self _)
theorem l_40 : (40 : Int32) = iN 40 := of_eq_true (eq_self _)
theorem l_41 : (41 : Int32) = iN 41 := of_eq_true (eq_self _)
theorem l_42 : (42 : Int32) = iN 42 := of_eq_true (eq_self _)
theorem l_43 : (43 : Int32) = iN 43 := of_eq_true (eq_self _)
theorem l_44 : (44 : Int32) = iN 44 := of_eq_true (eq_self _)
theorem l_45 : (45 : Int32) = iN 45 := of_eq_true (eq_self _)
theorem l_46 : (46 : Int32) = iN 46 := of_eq_true (eq_self _)
theorem l_47 : (47 : Int32) = iN 47 := of_eq_true (eq_self _)
theorem l_48 : (48 : Int32) = iN 48 := of_eq_true (eq_self _)
theorem l_49 : (49 : Int32) = iN 49 := of_eq_true (eq_self _)
theorem l_50 : (50 : Int32) = iN 50 := of_eq_true (eq_self _)
theorem l_51 : (51 : Int32) = iN 51 := of_eq_true (eq_self _)
theorem l_52 : (52 : Int32) = iN 52 := of_eq_true (eq_self _)
theorem l_57 : (57 : Int32) = iN 57 := of_eq_true (eq_self _)
theorem l_58 : (58 : Int32) = iN 58 := of_eq_true (eq_self _)
theorem l_60 : (60 : Int32) = iN 60 := of_eq_true (eq_self _)
theorem l_64 : (64 : Int32) = iN 64 := of_eq_true (eq_self _)
theorem l_72 : (72 : Int32) = iN 72 := of_eq_true (eq_self _)
theorem l_80 : (80 : Int32) = iN 80 := of_eq_true (eq_self _)
theorem l_92 : (92 : Int32) = iN 92 := of_eq_true (eq_self _)
theorem l_98 : (98 : Int32) = iN 98 := of_eq_true (eq_self _)
theorem l_99 : (99 : Int32) = iN 99 := of_eq_true (eq_self _)
theorem l_100 : (100 : Int32) = iN 100 := of_eq_true (eq_self _)
theorem l_102 : (102 : Int32) = iN 102 := of_eq_true (eq_self _)
theorem l_105 : (105 : Int32) = iN 105 := of_eq_true (eq_self _)
theorem l_111 : (111 : Int32) = iN 111 := of_eq_true (eq_self _)
theorem l_112 : (112 : Int32) = iN 112 := of_eq_true (eq_self _)
theorem l_114 : (114 : Int32) = iN 114 := of_eq_true (eq_self _)
theorem l_115 : (115 : Int32) = iN 115 := of_eq_true (eq_self _)
theorem l_116 : (116 : Int32) = iN 116 := of_eq_true (eq_self _)
theorem l_117 : (117 : Int32) = iN 117 := of_eq_true (eq_self _)
theorem l_120 : (120 : Int32) = iN 120 := of_eq_true (eq_self _)
theorem l_144 : (144 : Int32) = iN 144 := of_eq_true (eq_self _)
theorem l_200 : (200 : Int32) = iN 200 := of_eq_true (eq_self _)
theorem l_201 : (201 : Int32) = iN 201 := of_eq_true (eq_self _)
theorem l_240 : (240 : Int32) = iN 240 := of_eq_true (eq_self _)
theorem l_300 : (300 : Int32) = iN 300 := of_eq_true (eq_self _)
theorem l_320 : (320 : Int32) = iN 320 := of_eq_true (eq_self _)
theorem l_400 : (400 : Int32) = iN 400 := of_eq_true (eq_self _)
theorem l_500 : (500 : Int32) = iN 500 := of_eq_true (eq_self _)
theorem l_550 : (550 : Int32) = iN 550 := of_eq_true (eq_self _)
theorem l_560 : (560 : Int32) = iN 560 := of_eq_true (eq_self _)
theorem l_649 : (649 : Int32) = iN 649 := of_eq_true (eq_self _)
theorem l_650 : (650 : Int32) = iN 650 := of_eq_true (eq_self _)
theorem l_1000 : (1000 : Int32) = iN 1000 := of_eq_true (eq_self _)
theorem l_1400 : (1400 : Int32) = iN 1400 := of_eq_true (eq_self _)
theorem l_2000 : (2000 : Int32) = iN 2000 := of_eq_true (eq_self _)
theorem l_4000 : (4000 : Int32) = iN 4000 := of_eq_true (eq_self _)
theorem l_10000 : (10000 : Int32) = iN 10000 := of_eq_true (eq_self _)
theorem t_rng (a : Int32) : -2147483648 ≤ a.toInt ∧ a.toInt < 2147483648 := ⟨Int32.le_toInt a, Int32.toInt_lt a⟩
theorem t_eq {a b : Int32} : a = b ↔ a.toInt = b.toInt := Int32.toInt_inj.symm
theorem t_lt {a b : Int32} : a < b ↔ a.toInt < b.toInt := Int32.lt_iff_toInt_lt
theorem t_le {a b : Int32} : a ≤ b ↔ a.toInt ≤ b.toInt := Int32.le_iff_toInt_le
theorem t_add {a b : Int32} (h1 : -2147483648 ≤ a.toInt + b.toInt) (h2 : a.toInt + b.toInt < 2147483648) : (a + b).toInt = a.toInt + b.toInt := by
  rw [Int32.toInt_add, Int.bmod_def]
  split <;> omega
theorem t_sub {a b : Int32} (h1 : -2147483648 ≤ a.toInt - b.toInt) (h2 : a.toInt - b.toInt < 2147483648) : (a - b).toInt = a.toInt - b.toInt := by
  rw [Int32.toInt_sub, Int.bmod_def]
  split <;> omega
theorem t_mul {a b : Int32} (h1 : -2147483648 ≤ a.toInt * b.toInt) (h2 : a.toInt * b.toInt < 2147483648) : (a * b).toInt = a.toInt * b.toInt := by
  rw [Int32.toInt_mul, Int.bmod_def]
  generalize a.toInt * b.toInt = z at *
  split <;> omega
theorem t_div {a b : Int32} (hb : 0 < b.toInt) : (a / b).toInt = if 0 ≤ a.toInt then a.toInt / b.toInt else -((-a.toInt) / b.toInt) := by
  rw [Int32.toInt_div_of_ne_right a b (by intro e; rw [e] at hb; revert hb; decide)]
  split
  · next h => rw [Int.tdiv_eq_ediv_of_nonneg h]
  · next h =>
    have e : a.toInt.tdiv b.toInt = -((-a.toInt).tdiv b.toInt) := by rw [Int.neg_tdiv, Int.neg_neg]
    rw [e, Int.tdiv_eq_ediv_of_nonneg (by omega)]
theorem t_div2 {a : Int32} : (a / iN 2).toInt = if 0 ≤ a.toInt then a.toInt / 2 else -((-a.toInt) / 2) := t_div (a := a) (b := iN 2) (by decide)
theorem t_div4 {a : Int32} : (a / iN 4).toInt = if 0 ≤ a.toInt then a.toInt / 4 else -((-a.toInt) / 4) := t_div (a := a) (b := iN 4) (by decide)
theorem t_div12 {a : Int32} : (a / iN 12).toInt = if 0 ≤ a.toInt then a.toInt / 12 else -((-a.toInt) / 12) := t_div (a := a) (b := iN 12) (by decide)
theorem t_div16 {a : Int32} : (a / iN 16).toInt = if 0 ≤ a.toInt then a.toInt / 16 else -((-a.toInt) / 16) := t_div (a := a) (b := iN 16) (by decide)
theorem t_div20 {a : Int32} : (a / iN 20).toInt = if 0 ≤ a.toInt then a.toInt / 20 else -((-a.toInt) / 20) := t_div (a := a) (b := iN 20) (by decide)
theorem t_div10 {a : Int32} : (a / iN 10).toInt = if 0 ≤ a.toInt then a.toInt / 10 else -((-a.toInt) / 10) := t_div (a := a) (b := iN 10) (by decide)
theorem t_div50 {a : Int32} : (a / iN 50).toInt = if 0 ≤ a.toInt then a.toInt / 50 else -((-a.toInt) / 50) := t_div (a := a) (b := iN 50) (by decide)
theorem t_div100 {a : Int32} : (a / iN 100).toInt = if 0 ≤ a.toInt then a.toInt / 100 else -((-a.toInt) / 100) := t_div (a := a) (b := iN 100) (by decide)
theorem iN_le {a b : Nat} (ha : a < 2147483648) (hb : b < 2147483648) : iN a ≤ iN b ↔ a ≤ b := by
  rw [t_le, iN_t ha, iN_t hb]; omega
theorem iN_lt {a b : Nat} (ha : a < 2147483648) (hb : b < 2147483648) : iN a < iN b ↔ a < b := by
  rw [t_lt, iN_t ha, iN_t hb]; omega
theorem iN_le_t {a b : Nat} (h : a ≤ b) (hb : b < 2147483648) : (iN a ≤ iN b) = True := eq_true ((iN_le (by omega) hb).mpr h)
theorem iN_le_f {a b : Nat} (h : b < a) (hb : a < 2147483648) : (iN a ≤ iN b) = False := eq_false (fun e => by have := (iN_le hb (by omega)).mp e; omega)
theorem iN_lt_t {a b : Nat} (h : a < b) (hb : b < 2147483648) : (iN a < iN b) = True := eq_true ((iN_lt (by omega) hb).mpr h)
theorem iN_lt_f {a b : Nat} (h : b ≤ a) (hb : a < 2147483648) : (iN a < iN b) = False := eq_false (fun e => by have := (iN_lt hb (by omega)).mp e; omega)
theorem iN_inj {a b : Nat} (ha : a < 2147483648) (hb : b < 2147483648) : iN a = iN b ↔ a = b := by
  rw [t_eq, iN_t ha, iN_t hb]; omega
theorem iN_eq_f {a b : Nat} (h : a ≠ b) (ha : a < 2147483648) (hb : b < 2147483648) : (iN a = iN b) = False := eq_false (fun e => h ((iN_inj ha hb).mp e))
theorem iN_div {a b : Nat} (ha : a < 2147483648) (hb0 : 0 < b) (hb : b < 2147483648) : iN a / iN b = iN (a / b) := by
  have h2 : a / b ≤ a := Nat.div_le_self a b
  rw [t_eq, t_div (by rw [iN_t hb]; omega), iN_t ha, iN_t hb, iN_t (by omega), if_pos (by omega)]
  exact (Int.natCast_ediv a b).symm
/-- an int that isn't below 0 is a counter -/
theorem iN_ex {a : Int32} (h : 0 ≤ a.toInt) : a = iN (ix a) := by
  have h2 : (ix a : Int) = a.toInt := Int.toNat_of_nonneg h
  have h3 := t_rng a
  rw [t_eq, iN_t (by omega), h2]
theorem ix_t {a : Int32} (h : 0 ≤ a.toInt) : (ix a : Int) = a.toInt := Int.toNat_of_nonneg h
theorem inb_iN {k n : Nat} (h : k < n) (hk : k < 2147483648) : inb (iN k) n = true := by
  unfold inb
  rw [iN_t hk, Bool.and_eq_true, decide_eq_true_eq, decide_eq_true_eq]
  omega
theorem chk_t {α : Type} {k : Option α} : chk true k = k := of_eq_true (eq_self _)
theorem nm_s {α β : Type} (x : α) (k : α → β) : nm x k = k x := of_eq_true (eq_self _)
theorem bj1_s {α β : Type} (a : α) (k : α → Option β) : bj1 (some a) k = k a := of_eq_true (eq_self _)
theorem bj2_s {α1 α2 β : Type} (a : α1) (b : α2) (k : α1 → α2 → Option β) : bj2 (some (a, b)) k = k a b := of_eq_true (eq_self _)
theorem bj3_s {α1 α2 α3 β : Type} (a : α1) (b : α2) (c : α3) (k : α1 → α2 → α3 → Option β) : bj3 (some (a, b, c)) k = k a b c := of_eq_true (eq_self _)
theorem mo_1 {α β : Type} (a : α) (n : β) (k : α → β) : mo (some a) n k = k a := of_eq_true (eq_self _)
theorem mo_0 {α β : Type} (n : β) (k : α → β) : mo none n k = n := of_eq_true (eq_self _)
theorem isZ_0 : isZ (iN 0) = true := of_eq_true (eq_self _)
theorem isZ_1 : isZ (iN 1) = true := of_eq_true (eq_self _)
theorem loop_cl {σ ρ : Type} (L : Nat → Int32 → σ → Option ρ) (st : Nat → σ) (a b : Nat) (r : Option ρ)
    (step : ∀ n k, a ≤ k → k < b → L (n + 1) (iN k) (st k) = L n (iN (k + 1)) (st (k + 1)))
    (done : ∀ n, L (n + 1) (iN b) (st b) = r) (hab : a ≤ b) {n : Nat} (hn : b - a < n) : L n (iN a) (st a) = r := by
  have key : ∀ (d k n : Nat), a ≤ k → k + d = b → d < n → L n (iN k) (st k) = r := by
    intro d
    induction d with
    | zero =>
      intro k n h1 h2 h3
      obtain ⟨n, rfl⟩ : ∃ m, n = m + 1 := ⟨n - 1, by omega⟩
      have e : k = b := by omega
      subst e
      exact done n
    | succ d ih =>
      intro k n h1 h2 h3
      obtain ⟨n, rfl⟩ : ∃ m, n = m + 1 := ⟨n - 1, by omega⟩
      rw [step n k h1 (by omega)]
      exact ih (k + 1) n (by omega) (by omega) (by omega)
  exact key (b - a) a n (Nat.le_refl a) (by omega) hn
theorem loop_iv {σ ρ : Type} (L : Nat → Int32 → σ → Option ρ) (Inv : Nat → σ → Prop) (P : Option ρ → Prop) (a b : Nat)
    (step : ∀ n k s, a ≤ k → k < b → Inv k s → (∃ s', Inv (k + 1) s' ∧ L (n + 1) (iN k) s = L n (iN (k + 1)) s') ∨ P (L (n + 1) (iN k) s))
    (done : ∀ n s, Inv b s → P (L (n + 1) (iN b) s)) (hab : a ≤ b) {n : Nat} (hn : b - a < n) {s : σ} (hs : Inv a s) : P (L n (iN a) s) := by
  have key : ∀ (d k n : Nat) (s : σ), a ≤ k → k + d = b → d < n → Inv k s → P (L n (iN k) s) := by
    intro d
    induction d with
    | zero =>
      intro k n s h1 h2 h3 hs
      obtain ⟨n, rfl⟩ : ∃ m, n = m + 1 := ⟨n - 1, by omega⟩
      have e : k = b := by omega
      subst e
      exact done n s hs
    | succ d ih =>
      intro k n s h1 h2 h3 hs
      obtain ⟨n, rfl⟩ : ∃ m, n = m + 1 := ⟨n - 1, by omega⟩
      rcases step n k s h1 (by omega) hs with ⟨s', h5, h6⟩ | h5
      · rw [h6]
        exact ih (k + 1) n s' (by omega) (by omega) (by omega) h5
      · exact h5
  exact key (b - a) a n s (Nat.le_refl a) (by omega) hn hs
theorem fu_lt {a : Nat} (h : a < 1000) : a < FU := h
theorem mx_t (a b : Int32) : (mx a b).toInt = if a.toInt < b.toInt then b.toInt else a.toInt := by
  unfold mx
  simp only [t_lt]
  split <;> rfl
theorem mn_t (a b : Int32) : (mn a b).toInt = if b.toInt < a.toInt then b.toInt else a.toInt := by
  unfold mn
  simp only [t_lt]
  split <;> rfl
theorem greater_ok (a b : Int32) : f_X8_greater a b = some (if b < a then a else b) := by
  unfold f_X8_greater
  by_cases h : b < a
  · rw [if_neg (by rw [Int32.not_le]; exact h), if_pos h]
  · rw [if_pos (by rw [← Int32.not_lt]; exact h), if_neg h]
theorem lesser_ok (a b : Int32) : f_X8_lesser a b = some (if a < b then a else b) := by
  unfold f_X8_lesser
  by_cases h : a < b
  · rw [if_neg (by rw [Int32.not_le]; exact h), if_pos h]
  · rw [if_pos (by rw [← Int32.not_lt]; exact h), if_neg h]
theorem far_ok (a b : Int32) : f_X8_far a b = some (if a < b then b - a else a - b) := by
  unfold f_X8_far
  by_cases h : a < b
  · rw [if_neg (by rw [Int32.not_le]; exact h), if_pos h]
  · rw [if_pos (by rw [← Int32.not_lt]; exact h), if_neg h]

/-! most: the class goes on tick by tick, the reference anew for each; the best of the same candidates -/
def tuN (i : Nat) : Nat := if i = 0 then 1 else if i = 1 then 2 else if i = 2 then 4 else if i = 3 then 8 else 40
theorem sTU_N {i : Nat} (h : i < 5) : sTU i = iN (tuN i) := by
  have : i = 0 ∨ i = 1 ∨ i = 2 ∨ i = 3 ∨ i = 4 := by omega
  rcases this with rfl | rfl | rfl | rfl | rfl <;> rfl
theorem turnOf_N {i : Nat} (h : i < 5) : f_X8_turnOf (iN i) = some (iN (tuN i)) := by
  have : i = 0 ∨ i = 1 ∨ i = 2 ∨ i = 3 ∨ i = 4 := by omega
  rcases this with rfl | rfl | rfl | rfl | rfl <;> rfl
theorem tuN_r (i : Nat) : 1 ≤ tuN i ∧ tuN i ≤ 40 := by
  unfold tuN
  split
  · omega
  · split
    · omega
    · split
      · omega
      · split <;> omega
theorem tuN_lt {i j : Nat} (h : i < j) (hj : j < 5) : tuN i < tuN j := by
  have hj' : j = 1 ∨ j = 2 ∨ j = 3 ∨ j = 4 := by omega
  have hi' : i = 0 ∨ i = 1 ∨ i = 2 ∨ i = 3 := by omega
  rcases hj' with rfl | rfl | rfl | rfl <;> rcases hi' with rfl | rfl | rfl | rfl <;> first | decide | omega
def toldN (q i n : Nat) : Nat := 10000 * q + 100 * n + tuN i
/-- the best of the candidates told by P: many depths, of alike ones the least number; ok: it counts -/
def Best (ok : Nat → Nat → Nat → Prop) (so : Nat → Nat → Nat → Nat) (P : Nat → Nat → Nat → Prop) (s : Int32 × Int32) : Prop :=
  (s = (-iN 9, -iN 1) ∧ ∀ q i n, P q i n → ¬ ok q i n) ∨
  (∃ q i n, P q i n ∧ ok q i n ∧ q ≤ 30 ∧ n ≤ 80 ∧ s = (iN (toldN q i n), iN (so q i n)) ∧ ∀ q' i' n', P q' i' n' → ok q' i' n' → so q' i' n' < so q i n ∨ (so q' i' n' = so q i n ∧ toldN q i n ≤ toldN q' i' n'))
theorem Best_u {ok : Nat → Nat → Nat → Prop} {so : Nat → Nat → Nat → Nat} {P : Nat → Nat → Nat → Prop} {s s' : Int32 × Int32} (h : Best ok so P s) (h' : Best ok so P s') : s = s' := by
  rcases h with ⟨h1, h2⟩ | ⟨q, i, n, h1, h2, h3, h4, h5, h6⟩
  · rcases h' with ⟨g1, g2⟩ | ⟨q', i', n', g1, g2, g3⟩
    · rw [h1, g1]
    · exact absurd g2 (h2 _ _ _ g1)
  · rcases h' with ⟨g1, g2⟩ | ⟨q', i', n', g1, g2, g3, g4, g5, g6⟩
    · exact absurd h2 (g2 _ _ _ h1)
    · have a := h6 _ _ _ g1 g2
      have b := g6 _ _ _ h1 h2
      have e1 : so q i n = so q' i' n' := by omega
      have e2 : toldN q i n = toldN q' i' n' := by omega
      rw [h5, g5, e1, e2]
theorem Best_iff {ok : Nat → Nat → Nat → Prop} {so : Nat → Nat → Nat → Nat} {P P' : Nat → Nat → Nat → Prop} {s : Int32 × Int32} (h : Best ok so P s) (e : ∀ q i n, P' q i n ↔ P q i n) : Best ok so P' s := by
  rcases h with ⟨h1, h2⟩ | ⟨q, i, n, h1, h2, h3, h4, h5, h6⟩
  · exact Or.inl ⟨h1, fun q i n hp => h2 q i n ((e q i n).mp hp)⟩
  · exact Or.inr ⟨q, i, n, (e q i n).mpr h1, h2, h3, h4, h5, fun q' i' n' hp => h6 q' i' n' ((e q' i' n').mp hp)⟩
/-- one more that doesn't count -/
theorem Best_no {ok : Nat → Nat → Nat → Prop} {so : Nat → Nat → Nat → Nat} {P P' : Nat → Nat → Nat → Prop} {s : Int32 × Int32} {q0 i0 n0 : Nat} (h : Best ok so P s) (e : ∀ q i n, P' q i n ↔ P q i n ∨ (q = q0 ∧ i = i0 ∧ n = n0)) (hno : ¬ ok q0 i0 n0) : Best ok so P' s := by
  rcases h with ⟨h1, h2⟩ | ⟨q, i, n, h1, h2, h3, h4, h5, h6⟩
  · refine Or.inl ⟨h1, fun q i n hp => ?_⟩
    rcases (e q i n).mp hp with hp | ⟨rfl, rfl, rfl⟩
    · exact h2 q i n hp
    · exact hno
  · refine Or.inr ⟨q, i, n, (e q i n).mpr (Or.inl h1), h2, h3, h4, h5, fun q' i' n' hp ho => ?_⟩
    rcases (e q' i' n').mp hp with hp | ⟨rfl, rfl, rfl⟩
    · exact h6 q' i' n' hp ho
    · exact absurd ho hno
/-- one more that is no better -/
theorem Best_keep {ok : Nat → Nat → Nat → Prop} {so : Nat → Nat → Nat → Nat} {P P' : Nat → Nat → Nat → Prop} {q0 i0 n0 q i n : Nat} (h1 : P q i n) (h2 : ok q i n) (h3 : q ≤ 30) (h4 : n ≤ 80) (h6 : ∀ q' i' n', P q' i' n' → ok q' i' n' → so q' i' n' < so q i n ∨ (so q' i' n' = so q i n ∧ toldN q i n ≤ toldN q' i' n')) (e : ∀ q i n, P' q i n ↔ P q i n ∨ (q = q0 ∧ i = i0 ∧ n = n0)) (hw : so q0 i0 n0 < so q i n ∨ (so q0 i0 n0 = so q i n ∧ toldN q i n ≤ toldN q0 i0 n0)) : Best ok so P' (iN (toldN q i n), iN (so q i n)) := by
  refine Or.inr ⟨q, i, n, (e q i n).mpr (Or.inl h1), h2, h3, h4, rfl, fun q' i' n' hp ho => ?_⟩
  rcases (e q' i' n').mp hp with hp | ⟨rfl, rfl, rfl⟩
  · exact h6 q' i' n' hp ho
  · exact hw
/-- one more that is better -/
theorem Best_new {ok : Nat → Nat → Nat → Prop} {so : Nat → Nat → Nat → Nat} {P P' : Nat → Nat → Nat → Prop} {s : Int32 × Int32} {q0 i0 n0 : Nat} (h : Best ok so P s) (e : ∀ q i n, P' q i n ↔ P q i n ∨ (q = q0 ∧ i = i0 ∧ n = n0)) (hok : ok q0 i0 n0) (hq : q0 ≤ 30) (hn : n0 ≤ 80)
    (hb : ∀ q i n, P q i n → ok q i n → s = (iN (toldN q i n), iN (so q i n)) → so q i n < so q0 i0 n0 ∨ (so q i n = so q0 i0 n0 ∧ toldN q0 i0 n0 ≤ toldN q i n)) : Best ok so P' (iN (toldN q0 i0 n0), iN (so q0 i0 n0)) := by
  refine Or.inr ⟨q0, i0, n0, (e q0 i0 n0).mpr (Or.inr ⟨rfl, rfl, rfl⟩), hok, hq, hn, rfl, fun q' i' n' hp ho => ?_⟩
  rcases (e q' i' n').mp hp with hp | ⟨rfl, rfl, rfl⟩
  · rcases h with ⟨h1, h2⟩ | ⟨q, i, n, h1, h2, h3, h4, h5, h6⟩
    · exact absurd ho (h2 _ _ _ hp)
    · have a := hb q i n h1 h2 h5
      have b := h6 q' i' n' hp ho
      omega
  · exact Or.inr ⟨rfl, Nat.le_refl _⟩
theorem toldN_b {q i n : Nat} (hq : q ≤ 30) (hn : n ≤ 80) : toldN q i n ≤ 400000 := by
  have := tuN_r i
  unfold toldN
  omega
/-- the class's step: whichever order -/
theorem Best_c {ok : Nat → Nat → Nat → Prop} {so : Nat → Nat → Nat → Nat} {P P' : Nat → Nat → Nat → Prop} {x y : Int32} {q0 i0 n0 : Nat} (h : Best ok so P (x, y)) (e : ∀ q i n, P' q i n ↔ P q i n ∨ (q = q0 ∧ i = i0 ∧ n = n0)) (hok : ok q0 i0 n0) (hq : q0 ≤ 30) (hn : n0 ≤ 80) (hs : ∀ q i n, so q i n ≤ 20) :
    Best ok so P' (if y < iN (so q0 i0 n0) then (iN (toldN q0 i0 n0), iN (so q0 i0 n0)) else if iN (so q0 i0 n0) = y then (if x ≤ iN (toldN q0 i0 n0) then (x, y) else (iN (toldN q0 i0 n0), iN (so q0 i0 n0))) else (x, y)) := by
  have hs0 := hs q0 i0 n0
  have ht0 := toldN_b (i := i0) hq hn
  have hh := h
  rcases h with ⟨h1, h2⟩ | ⟨q, i, n, h1, h2, h3, h4, h5, h6⟩
  · injection h1 with hx hy
    subst hx hy
    rw [if_pos (t_lt.mpr (by rw [li (by omega), show (-iN 1).toInt = -1 from by decide]; omega))]
    refine Best_new hh e hok hq hn (fun q i n hp ho hs' => absurd ho (h2 _ _ _ hp))
  · injection h5 with hx hy
    subst hx hy
    have hs1 := hs q i n
    have ht1 := toldN_b (i := i) h3 h4
    by_cases c : so q i n < so q0 i0 n0
    · rw [if_pos ((iN_lt (by omega) (by omega)).mpr c)]
      refine Best_new hh e hok hq hn (fun q' i' n' hp ho hs' => Or.inl ?_)
      injection hs' with hx' hy'
      have := (iN_inj (by have := hs q i n; omega) (by have := hs q' i' n'; omega)).mp hy'
      omega
    · rw [if_neg (fun z => c ((iN_lt (by omega) (by omega)).mp z))]
      by_cases c2 : so q0 i0 n0 = so q i n
      · rw [if_pos (by rw [c2])]
        by_cases c3 : toldN q i n ≤ toldN q0 i0 n0
        · rw [if_pos ((iN_le (by omega) (by omega)).mpr c3)]
          exact Best_keep h1 h2 h3 h4 h6 e (Or.inr ⟨c2, c3⟩)
        · rw [if_neg (fun z => c3 ((iN_le (by omega) (by omega)).mp z))]
          refine Best_new hh e hok hq hn (fun q' i' n' hp ho hs' => ?_)
          injection hs' with hx' hy'
          have e1 := (iN_inj (by have := hs q i n; omega) (by have := hs q' i' n'; omega)).mp hy'
          right
          have e2 : iN (toldN q i n) = iN (toldN q' i' n') := hx'
          have a := h6 q' i' n' hp ho
          omega
      · rw [if_neg (fun z => c2 ((iN_inj (by omega) (by omega)).mp z))]
        exact Best_keep h1 h2 h3 h4 h6 e (Or.inl (by omega))
/-- the reference's step: those before have lesser numbers -/
theorem Best_m {ok : Nat → Nat → Nat → Prop} {so : Nat → Nat → Nat → Nat} {P P' : Nat → Nat → Nat → Prop} {x y : Int32} {q0 i0 n0 : Nat} (h : Best ok so P (x, y)) (e : ∀ q i n, P' q i n ↔ P q i n ∨ (q = q0 ∧ i = i0 ∧ n = n0)) (hok : ok q0 i0 n0) (hq : q0 ≤ 30) (hn : n0 ≤ 80) (hs : ∀ q i n, so q i n ≤ 20) (hlt : ∀ q i n, P q i n → toldN q i n < toldN q0 i0 n0) :
    Best ok so P' (if iN (so q0 i0 n0) ≤ y then (x, y) else (iN (toldN q0 i0 n0), iN (so q0 i0 n0))) := by
  have hs0 := hs q0 i0 n0
  have hh := h
  rcases h with ⟨h1, h2⟩ | ⟨q, i, n, h1, h2, h3, h4, h5, h6⟩
  · injection h1 with hx hy
    subst hx hy
    rw [if_neg (N_m1 (by omega))]
    exact Best_new hh e hok hq hn (fun q i n hp ho hs' => absurd ho (h2 _ _ _ hp))
  · injection h5 with hx hy
    subst hx hy
    have hs1 := hs q i n
    have hl := hlt q i n h1
    by_cases c : so q0 i0 n0 ≤ so q i n
    · rw [if_pos ((iN_le (by omega) (by omega)).mpr c)]
      exact Best_keep h1 h2 h3 h4 h6 e (by omega)
    · rw [if_neg (fun z => c ((iN_le (by omega) (by omega)).mp z))]
      refine Best_new hh e hok hq hn (fun q' i' n' hp ho hs' => Or.inl ?_)
      injection hs' with hx' hy'
      have := (iN_inj (by have := hs q i n; omega) (by have := hs q' i' n'; omega)).mp hy'
      omega
/-- loops by steps -/
theorem loop_st {σ ρ : Type} (L : Nat → Int32 → σ → Option ρ) (I : Nat → σ → Prop) (Q : ρ → Prop) (a d b : Nat)
    (step : ∀ n k s, k < b → I k s → ∃ s', I (k + 1) s' ∧ L (n + 1) (iN (a + d * k)) s = L n (iN (a + d * (k + 1))) s')
    (done : ∀ n s, I b s → ∃ r, L (n + 1) (iN (a + d * b)) s = some r ∧ Q r) {n : Nat} (hn : b < n) {s : σ} (hs : I 0 s) : ∃ r, L n (iN a) s = some r ∧ Q r := by
  have key : ∀ (e k n : Nat) (s : σ), k + e = b → e < n → I k s → ∃ r, L n (iN (a + d * k)) s = some r ∧ Q r := by
    intro e
    induction e with
    | zero =>
      intro k n s h1 h2 h3
      obtain ⟨n, rfl⟩ : ∃ m, n = m + 1 := ⟨n - 1, by omega⟩
      have : k = b := by omega
      subst this
      exact done n s h3
    | succ e ih =>
      intro k n s h1 h2 h3
      obtain ⟨n, rfl⟩ : ∃ m, n = m + 1 := ⟨n - 1, by omega⟩
      obtain ⟨s', h4, h5⟩ := step n k s (by omega) h3
      rw [h5]
      exact ih (k + 1) n s' (by omega) (by omega) h4
  have := key b 0 n s (by omega) hn hs
  rw [show a + d * 0 = a by omega] at this
  exact this

/-! order: what is lost by an order, both ways -/
def suN (T : Nat → Nat) (ls : Nat → Nat → Nat) (c : Nat) : Nat → Nat → Nat
  | 0, _ => 0
  | d + 1, s => ls (c / 4 ^ d % 4) (tkN T (rmS s (c / 4 ^ d % 4))) + suN T ls c d (rmS s (c / 4 ^ d % 4))
def buN (T : Nat → Nat) (c : Nat) : Nat → Nat
  | 0 => 0
  | d + 1 => buN T c d + T (c / 4 ^ d % 4)
def muN (T : Nat → Nat) (ls : Nat → Nat → Nat) (c : Nat) : Nat → Nat
  | 0 => 0
  | d + 1 => muN T ls c d + ls (c / 4 ^ d % 4) (buN T c d)
theorem dig_lt (c d : Nat) : c / 4 ^ d % 4 < 4 := Nat.mod_lt _ (by omega)
theorem okC_s {c d s : Nat} (h : okC c (d + 1) s = true) : s / 2 ^ (c / 4 ^ d % 4) % 2 = 1 ∧ okC c d (rmS s (c / 4 ^ d % 4)) = true := by
  have h : (if s / 2 ^ (c / 4 ^ d % 4) % 2 = 1 then okC c d (rmS s (c / 4 ^ d % 4)) else false) = true := h
  by_cases e : s / 2 ^ (c / 4 ^ d % 4) % 2 = 1
  · rw [if_pos e] at h
    exact ⟨e, h⟩
  · rw [if_neg e] at h
    exact absurd h (by decide)
theorem su_le {T : Nat → Nat} {ls : Nat → Nat → Nat} {c : Nat} (hl : ∀ k t, ls k t ≤ 2000) : ∀ d s, suN T ls c d s ≤ 2000 * d := by
  intro d
  induction d with
  | zero => exact fun _ => Nat.le_refl _
  | succ d ih =>
    intro s
    have h1 := ih (rmS s (c / 4 ^ d % 4))
    have h2 := hl (c / 4 ^ d % 4) (tkN T (rmS s (c / 4 ^ d % 4)))
    show ls (c / 4 ^ d % 4) (tkN T (rmS s (c / 4 ^ d % 4))) + suN T ls c d (rmS s (c / 4 ^ d % 4)) ≤ _
    omega
theorem bu_le {T : Nat → Nat} {c : Nat} (hl : ∀ k, k < 4 → T k ≤ 200) : ∀ d, buN T c d ≤ 200 * d := by
  intro d
  induction d with
  | zero => exact Nat.le_refl _
  | succ d ih =>
    have h2 := hl _ (dig_lt c d)
    show buN T c d + T (c / 4 ^ d % 4) ≤ _
    omega
theorem suC_ok {T : Nat → Nat} {ls : Nat → Nat → Nat} {c a : Nat} {f : Nat → Int32} (ha : a < 16) (hf : ∀ k, k < 4 → a / 2 ^ k % 2 = 1 → ∀ s, s < 16 → sb s (rmS a k) = true → f (16 * k + s) = iN (ls k (tkN T s))) :
    ∀ d s x, s < 16 → sb s a = true → okC c d s = true → suC f c d s (iN x) = iN (x + suN T ls c d s) := by
  intro d
  induction d with
  | zero =>
    intro s x _ _ _
    rfl
  | succ d ih =>
    intro s x hs hsb ho
    obtain ⟨h1, h2⟩ := okC_s ho
    have hx := dig_lt c d
    have ka := t_sbb a ha s hs hsb _ hx h1
    have rl := rm_lt _ hx s hs
    have sr := t_sbr _ hx s hs a ha hsb h1
    have fa := hf _ hx ka _ rl sr
    have sa := t_sbt _ rl _ hs _ ha (t_sbs _ hx s hs) hsb
    show suC f c d (rmS s (c / 4 ^ d % 4)) (iN x + f (16 * (c / 4 ^ d % 4) + rmS s (c / 4 ^ d % 4))) = iN (x + (ls (c / 4 ^ d % 4) (tkN T (rmS s (c / 4 ^ d % 4))) + suN T ls c d (rmS s (c / 4 ^ d % 4))))
    rw [fa, iN_add, ih _ _ rl sa h2, Nat.add_assoc]
theorem t_pc0 : ∀ s, s < 16 → pcS s = 0 → s = 0 := by decide +kernel
theorem su_mu {T : Nat → Nat} {ls : Nat → Nat → Nat} {c : Nat} : ∀ d s, s < 16 → pcS s = d → okC c d s = true → tkN T s = buN T c d ∧ suN T ls c d s = muN T ls c d := by
  intro d
  induction d with
  | zero =>
    intro s hs hp _
    have e := t_pc0 s hs hp
    subst e
    refine ⟨?_, rfl⟩
    rw [tkN_eq]
    rfl
  | succ d ih =>
    intro s hs hp ho
    obtain ⟨h1, h2⟩ := okC_s ho
    have hx := dig_lt c d
    have rl := rm_lt _ hx s hs
    have hp2 := t_pcr _ hx s hs h1
    obtain ⟨g1, g2⟩ := ih _ rl (by omega) h2
    refine ⟨?_, ?_⟩
    · show tkN T s = buN T c d + T (c / 4 ^ d % 4)
      rw [tk_rm hx hs h1, g1, Nat.add_comm]
    · show ls (c / 4 ^ d % 4) (tkN T (rmS s (c / 4 ^ d % 4))) + suN T ls c d (rmS s (c / 4 ^ d % 4)) = muN T ls c d + ls (c / 4 ^ d % 4) (buN T c d)
      rw [g1, g2, Nat.add_comm]
/-- what the class finds -/
theorem cbest_ok {T : Nat → Nat} {ls : Nat → Nat → Nat} {a : Nat} {G : G_} (ha : a < 16) (hl : ∀ k t, ls k t ≤ 2000) (hf : ∀ k, k < 4 → a / 2 ^ k % 2 = 1 → ∀ s, s < 16 → sb s (rmS a k) = true → G.1 46 (16 * k + s) = iN (ls k (tkN T s))) :
    ∃ H r, f_X1_findBest (iN a) G = some H ∧ fstB (fun c => okC c (pcS a) a = true) (fun c => muN T ls c (pcS a)) (4 ^ pcS a) r ∧ (∀ q, q ≠ 45 → q ≠ 47 → H.1 q = G.1 q) ∧ H.2 = G.2 ∧ (r = none → H.1 45 2 = -iN 1) ∧ ∀ b, r = some b → H.1 45 2 = iN (muN T ls b (pcS a)) ∧ ∀ i, i < pcS a → H.1 47 i = figS b (pcS a) i := by
  have h4 := t_pc4 a ha
  exact cfind_ok ha (by omega) (fun c hc ho => by
    have h1 := suC_ok (T := T) (ls := ls) (c := c) ha hf (pcS a) a 0 ha (t_sbe a ha) ho
    have h2 := (su_mu (T := T) (ls := ls) (pcS a) a ha rfl ho).2
    have h3 := su_le (T := T) (c := c) hl (pcS a) a
    rw [Nat.zero_add] at h1
    show suC (G.1 46) c (pcS a) a (iN 0) = iN (muN T ls c (pcS a)) ∧ muN T ls c (pcS a) ≤ 10000
    rw [h1, ← h2]
    exact ⟨rfl, by omega⟩)

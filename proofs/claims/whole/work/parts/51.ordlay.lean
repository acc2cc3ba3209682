/-! order: the reference's orders by numbers -/
def pk : Nat → Nat → Nat → Nat → Nat
  | 0, _, j, _ => j
  | d + 1, s, j, k => if s / 2 ^ j % 2 = 0 then pk d s (j + 1) k else if k = 0 then j else pk d s (j + 1) (k - 1)
def pick (s k : Nat) : Nat := pk 4 s 0 k
def G00 : G_ := (fun _ _ => 0, fun _ _ => 0)
theorem lay66_ind (a2 v5 x14 v7 v8 : Int32) (G : G_) : ∀ (n : Nat) (v15 v16 : Int32), f_X8_layOrder_l66_17 a2 v5 x14 v7 v8 G n v15 v16 = f_X8_layOrder_l66_17 0 v5 0 0 0 G00 n v15 v16 := by
  intro n
  induction n with
  | zero =>
    intro v15 v16
    rfl
  | succ n ih =>
    intro v15 v16
    unfold f_X8_layOrder_l66_17
    rw [nm_s, nm_s, ih]
theorem t_pick0 : ∀ s, s < 16 → ∀ k, k < 4 → pick s k < 4 → f_X8_layOrder_l66_17 0 (iN s) 0 0 0 G00 FU (iN k) (iN 0) = some (iN (pick s k)) := by decide +kernel
theorem pick_ok {a2 x14 v7 v8 : Int32} {G : G_} {s k : Nat} (hs : s < 16) (hk : k < 4) (hp : pick s k < 4) : f_X8_layOrder_l66_17 a2 (iN s) x14 v7 v8 G FU (iN k) (iN 0) = some (iN (pick s k)) := by
  rw [lay66_ind]
  exact t_pick0 s hs k hk hp
def fcN : Nat → Nat
  | 0 => 1
  | n + 1 => (n + 1) * fcN n
theorem lay12_ind (a2 a1 a3 : Int32) (G : G_) : ∀ (n : Nat) (v1 v2 : Int32), f_X8_layOrder_l12_3 a2 a1 a3 G n v1 v2 = f_X8_layOrder_l12_3 a2 0 0 G00 n v1 v2 := by
  intro n
  induction n with
  | zero =>
    intro v1 v2
    rfl
  | succ n ih =>
    intro v1 v2
    unfold f_X8_layOrder_l12_3
    rw [ih]
theorem t_fac0 : ∀ n, n < 5 → f_X8_layOrder_l12_3 (iN n) 0 0 G00 FU (iN 1) (iN 2) = some (iN (fcN n)) := by decide +kernel
theorem fac_ok {a1 a3 : Int32} {G : G_} {n : Nat} (hn : n < 5) : f_X8_layOrder_l12_3 (iN n) a1 a3 G FU (iN 1) (iN 2) = some (iN (fcN n)) := by
  rw [lay12_ind]
  exact t_fac0 n hn
def lyV (n : Nat) : Nat → Nat → Nat → Nat → Nat → Bool
  | 0, _, _, _, _ => true
  | d + 1, s, r, z, i => Nat.blt 0 (z / (n - i)) && Nat.blt (r / (z / (n - i))) 4 && Nat.blt (pick s (r / (z / (n - i)))) 4 && lyV n d (rmS s (pick s (r / (z / (n - i))))) (r % (z / (n - i))) (z / (n - i)) (i + 1)
def lyF (n : Nat) : Nat → Nat → Nat → Nat → Nat → Nat → Nat
  | 0, _, _, _, _, _ => 0
  | d + 1, s, r, z, i, j => if j = i then pick s (r / (z / (n - i))) else lyF n d (rmS s (pick s (r / (z / (n - i))))) (r % (z / (n - i))) (z / (n - i)) (i + 1) j
theorem ne_ok {x : Nat} (h : 0 < x) (h2 : x < 2147483648) : (iN x != iN 0) = true := by
  rw [bne_iff_ne]
  exact fun e => by have := (iN_inj h2 (by omega)).mp e; omega
theorem lay34 {n : Nat} (hn : n ≤ 4) : ∀ (d f s r z i : Nat) (G : G_), d < f → i + d = n → s < 16 → r < 1000 → z < 1000 → lyV n d s r z i = true →
    ∃ H, f_X8_layOrder_l34_10 (iN n) f (iN s) (iN r) (iN z) (iN i) G = some H ∧ (∀ j, i ≤ j → j < n → H.1 141 j = iN (lyF n d s r z i j)) ∧ (∀ j, j < i → H.1 141 j = G.1 141 j) ∧ (∀ q, q ≠ 141 → H.1 q = G.1 q) ∧ H.2 = G.2 := by
  intro d
  induction d with
  | zero =>
    intro f s r z i G h1 h2 h3 h4 h5 h6
    obtain ⟨f, rfl⟩ : ∃ k, f = k + 1 := ⟨f - 1, by omega⟩
    refine ⟨G, ?_, fun j q1 q2 => by omega, fun _ _ => rfl, fun _ _ => rfl, rfl⟩
    unfold f_X8_layOrder_l34_10
    simp (disch := omega) only [chk_t, beq_self_eq_true, nm_s, bj1_s, bj2_s, bj3_s, mo_1, mo_0, l_0, l_1, l_2, l_3, l_4, l_5, l_6, l_7, l_8, l_9, l_10, l_11, l_12, l_13, l_14, l_15, l_16, l_17, l_18, l_19, l_20, l_21, l_30, l_31, l_32, l_36, l_40, l_41, l_42, l_43, l_44, l_45, l_46, l_47, l_48, l_49, l_50, l_51, l_52, l_57, l_58, l_60, l_64, l_72, l_80, l_92, l_98, l_99, l_100, l_102, l_105, l_111, l_112, l_114, l_115, l_116, l_117, l_120, l_144, l_200, l_201, l_240, l_300, l_320, l_400, l_500, l_550, l_560, l_649, l_650, l_1000, l_1400, l_2000, l_4000, l_10000, iN_add, iN_sub, iN_mul, iN_le_t, iN_le_f, iN_lt_t, iN_lt_f, iN_eq_f, inb_iN, ix_iN, isZ_0, isZ_1, ↓reduceIte, eq_self]
  | succ d ih =>
    intro f s r z i G h1 h2 h3 h4 h5 h6
    obtain ⟨f, rfl⟩ : ∃ k, f = k + 1 := ⟨f - 1, by omega⟩
    have h6 : (Nat.blt 0 (z / (n - i)) && Nat.blt (r / (z / (n - i))) 4 && Nat.blt (pick s (r / (z / (n - i)))) 4 && lyV n d (rmS s (pick s (r / (z / (n - i))))) (r % (z / (n - i))) (z / (n - i)) (i + 1)) = true := h6
    have hf : ∀ j, lyF n (d + 1) s r z i j = if j = i then pick s (r / (z / (n - i))) else lyF n d (rmS s (pick s (r / (z / (n - i))))) (r % (z / (n - i))) (z / (n - i)) (i + 1) j := fun _ => rfl
    have hz : z / (n - i) ≤ z := Nat.div_le_self _ _
    have dv : iN z / iN (n - i) = iN (z / (n - i)) := iN_div (by omega) (by omega) (by omega)
    generalize z / (n - i) = y at *
    rw [Bool.and_eq_true, Bool.and_eq_true, Bool.and_eq_true] at h6
    obtain ⟨⟨⟨g1, g2⟩, g3⟩, g4⟩ := h6
    have g1 : 0 < y := Nat.le_of_ble_eq_true g1
    have g2 : r / y < 4 := Nat.le_of_ble_eq_true g2
    have g3 : pick s (r / y) < 4 := Nat.le_of_ble_eq_true g3
    have dw : iN r / iN y = iN (r / y) := iN_div (by omega) g1 (by omega)
    have hm : r - r / y * y = r % y := by
      have := Nat.div_add_mod r y
      rw [Nat.mul_comm] at this
      omega
    have hle : r / y * y ≤ r := Nat.div_mul_le_self r y
    have hlt : r % y ≤ r := Nat.mod_le _ _
    have dm : iN r - iN (r / y * y) = iN (r % y) := by rw [iN_sub hle, hm]
    have n0 := ne_ok (x := n - i) (by omega) (by omega)
    have n1 := ne_ok (x := y) g1 (by omega)
    have ed : iN n - iN i = iN (n - i) := iN_sub (by omega)
    have pc := pick_ok (a2 := iN n) (x14 := iN (r % y)) (v7 := iN z) (v8 := iN i) (G := G) h3 g2 g3
    generalize pick s (r / y) = p at *
    obtain ⟨H, hH, k0, k1, k2, k3⟩ := ih f (rmS s p) (r % y) y (i + 1) (sI G 141 i (iN p)) (by omega) (by omega) (rm_lt p g3 s h3) (by omega) (by omega) g4
    refine ⟨H, ?_, fun j q1 q2 => ?_, fun j q1 => ?_, fun q hq => by rw [k2 q hq, sI_p hq], k3⟩
    · rw [← hH]
      conv => lhs; unfold f_X8_layOrder_l34_10
      rw [if_neg (of_eq_false (iN_le_f (by omega) (by omega))), ed, dv, l_0, n0, chk_t, n1, chk_t, chk_t, nm_s, dw, iN_mul, dm, pc, bj1_s, inb_iN (by omega) (by omega), chk_t, ix_iN (by omega), nm_s, nm_s, l_1, l_31, t_rmN p g3 s h3, iN_add]
    · rw [hf]
      by_cases c : j = i
      · rw [if_pos c, c, k1 i (by omega), sI_eq]
      · rw [if_neg c]
        exact k0 j (by omega) q2
    · rw [k1 j (by omega), sI_j (by omega)]
def cdr (f : Nat → Nat) : Nat → Nat
  | 0 => 0
  | i + 1 => 4 * cdr f i + f i
def cdO (a k : Nat) : Nat := cdr (lyF (pcS a) (pcS a) a k (fcN (pcS a)) 0) (pcS a)
theorem t_ly1 : ∀ a, a < 16 → ∀ k, k < fcN (pcS a) → lyV (pcS a) (pcS a) a k (fcN (pcS a)) 0 = true ∧ ∀ i, i < pcS a → lyF (pcS a) (pcS a) a k (fcN (pcS a)) 0 i = cdO a k / 4 ^ (pcS a - 1 - i) % 4 := by decide +kernel
theorem t_ly2 : ∀ a, a < 16 → ∀ k, k < fcN (pcS a) → okC (cdO a k) (pcS a) a = true ∧ cdO a k < 4 ^ pcS a ∧ (k + 1 < fcN (pcS a) → cdO a k < cdO a (k + 1)) ∧ ∀ i, i < pcS a → a / 2 ^ (cdO a k / 4 ^ i % 4) % 2 = 1 := by decide +kernel
def exK (p : Nat → Bool) : Nat → Bool
  | 0 => false
  | n + 1 => p n || exK p n
theorem exK_ex {p : Nat → Bool} : ∀ n, exK p n = true → ∃ k, k < n ∧ p k = true := by
  intro n
  induction n with
  | zero =>
    intro h
    have h : false = true := h
    exact absurd h (by decide)
  | succ n ih =>
    intro h
    have h : (p n || exK p n) = true := h
    rw [Bool.or_eq_true] at h
    rcases h with h | h
    · exact ⟨n, by omega, h⟩
    · obtain ⟨k, h1, h2⟩ := ih h
      exact ⟨k, by omega, h2⟩
theorem t_ly3 : ∀ a, a < 16 → ∀ c, c < 256 → c < 4 ^ pcS a → okC c (pcS a) a = true → exK (fun k => Nat.beq c (cdO a k)) (fcN (pcS a)) = true := by decide +kernel
theorem t_fc : ∀ a, a < 16 → 0 < fcN (pcS a) ∧ fcN (pcS a) ≤ 24 ∧ 4 ^ pcS a ≤ 256 := by decide +kernel
theorem cd_mono {a : Nat} (ha : a < 16) : ∀ d k, k + (d + 1) < fcN (pcS a) → cdO a k < cdO a (k + (d + 1)) := by
  intro d
  induction d with
  | zero =>
    intro k h
    exact (t_ly2 a ha k (by omega)).2.2.1 h
  | succ d ih =>
    intro k h
    have h1 := ih k (by omega)
    have h2 := (t_ly2 a ha (k + (d + 1)) (by omega)).2.2.1 (by omega)
    rw [show k + (d + 1 + 1) = k + (d + 1) + 1 by omega]
    omega
theorem cd_lt {a k j : Nat} (ha : a < 16) (h : k < j) (hj : j < fcN (pcS a)) : cdO a k < cdO a j := by
  have := cd_mono ha (j - k - 1) k (by omega)
  rw [show k + (j - k - 1 + 1) = j by omega] at this
  exact this
theorem layO {a k : Nat} {G : G_} (ha : a < 16) (hk : k < fcN (pcS a)) : ∃ H, f_X8_layOrder (iN a) (iN (pcS a)) (iN k) G = some H ∧ (∀ j, j < pcS a → H.1 141 j = figS (cdO a k) (pcS a) j) ∧ (∀ q, q ≠ 141 → H.1 q = G.1 q) ∧ H.2 = G.2 := by
  have h4 := t_pc4 a ha
  obtain ⟨f1, f2, f3⟩ := t_fc a ha
  obtain ⟨v, fg⟩ := t_ly1 a ha k hk
  have fo := fac_ok (a1 := iN a) (a3 := iN k) (G := G) (n := pcS a) (by omega)
  obtain ⟨H, hH, k0, k1, k2, k3⟩ := lay34 h4 (pcS a) FU a k (fcN (pcS a)) 0 G (fu_lt (by omega)) (by omega) ha (by omega) (by omega) v
  refine ⟨H, ?_, fun j hj => ?_, k2, k3⟩
  · unfold f_X8_layOrder
    simp (disch := omega) only [chk_t, beq_self_eq_true, nm_s, bj1_s, bj2_s, bj3_s, mo_1, mo_0, l_0, l_1, l_2, l_3, l_4, l_5, l_6, l_7, l_8, l_9, l_10, l_11, l_12, l_13, l_14, l_15, l_16, l_17, l_18, l_19, l_20, l_21, l_30, l_31, l_32, l_36, l_40, l_41, l_42, l_43, l_44, l_45, l_46, l_47, l_48, l_49, l_50, l_51, l_52, l_57, l_58, l_60, l_64, l_72, l_80, l_92, l_98, l_99, l_100, l_102, l_105, l_111, l_112, l_114, l_115, l_116, l_117, l_120, l_144, l_200, l_201, l_240, l_300, l_320, l_400, l_500, l_550, l_560, l_649, l_650, l_1000, l_1400, l_2000, l_4000, l_10000, iN_add, iN_sub, iN_mul, iN_le_t, iN_le_f, iN_lt_t, iN_lt_f, iN_eq_f, inb_iN, ix_iN, isZ_0, isZ_1, ↓reduceIte, eq_self, fo, hH]
  · rw [k0 j (by omega) hj, fg j hj]
    rfl
/-- the first least of the orders is the first least of the codes -/
theorem fst_same {a : Nat} {su : Nat → Nat} {r t : Option Nat} (ha : a < 16) (h : fstB (fun c => okC c (pcS a) a = true) su (4 ^ pcS a) r) (h2 : fstB (fun _ => True) (fun k => su (cdO a k)) (fcN (pcS a)) t) : ∃ k, k < fcN (pcS a) ∧ t = some k ∧ r = some (cdO a k) := by
  obtain ⟨f1, f2, f3⟩ := t_fc a ha
  rcases h2 with ⟨_, h2⟩ | ⟨k, e2, hk, -, m1, m2⟩
  · exact absurd trivial (h2 0 f1)
  · have g := t_ly2 a ha k hk
    refine ⟨k, hk, e2, ?_⟩
    rcases h with ⟨_, h⟩ | ⟨b, e, hb, ob, n1, n2⟩
    · exact absurd g.1 (h _ g.2.1)
    · obtain ⟨j, hj, ej⟩ := exK_ex _ (t_ly3 a ha b (by omega) hb ob)
      have ej := Nat.eq_of_beq_eq_true ej
      subst ej
      have le1 := n1 _ g.2.1 g.1
      have le2 := m1 j hj trivial
      have le2 : su (cdO a k) ≤ su (cdO a j) := le2
      by_cases c1 : j < k
      · have := m2 j c1 trivial
        have : su (cdO a k) < su (cdO a j) := this
        omega
      · by_cases c2 : k < j
        · have := n2 _ (cd_lt ha c2 hj) g.1
          omega
        · rw [e, show j = k by omega]

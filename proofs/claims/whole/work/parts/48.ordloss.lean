/-! order: the class's search -/
def okC (c : Nat) : Nat → Nat → Bool
  | 0, _ => true
  | d + 1, s => if s / 2 ^ (c / 4 ^ d % 4) % 2 = 1 then okC c d (rmS s (c / 4 ^ d % 4)) else false
def suC (f : Nat → Int32) (c : Nat) : Nat → Nat → Int32 → Int32
  | 0, _, acc => acc
  | d + 1, s, acc => suC f c d (rmS s (c / 4 ^ d % 4)) (acc + f (16 * (c / 4 ^ d % 4) + rmS s (c / 4 ^ d % 4)))
theorem closs_f {k s : Nat} {G : G_} (hk : k < 4) (hs : s < 16) : f_X1_lossOf (iN k) (iN s) G = some (G.1 46 (16 * k + s)) := by
  have e1 : inS (iN 0) (iN 3) (iN k) = iN 1 := inS_t (by omega) (by omega)
  have e2 : inS (iN 0) (iN 15) (iN s) = iN 1 := inS_t (by omega) (by omega)
  unfold f_X1_lossOf
  simp (disch := omega) only [chk_t, beq_self_eq_true, nm_s, bj1_s, bj2_s, bj3_s, mo_1, mo_0, l_0, l_1, l_2, l_3, l_4, l_5, l_6, l_7, l_8, l_9, l_10, l_11, l_12, l_13, l_14, l_15, l_16, l_17, l_18, l_19, l_20, l_21, l_30, l_31, l_32, l_36, l_40, l_41, l_42, l_43, l_44, l_45, l_46, l_47, l_48, l_49, l_50, l_51, l_52, l_57, l_58, l_60, l_64, l_72, l_80, l_92, l_98, l_99, l_100, l_102, l_105, l_111, l_112, l_114, l_115, l_116, l_117, l_120, l_144, l_200, l_201, l_240, l_300, l_320, l_400, l_500, l_550, l_560, l_649, l_650, l_1000, l_1400, l_2000, l_4000, l_10000, iN_add, iN_sub, iN_mul, iN_le_t, iN_le_f, iN_lt_t, iN_lt_f, iN_eq_f, inb_iN, ix_iN, isZ_0, isZ_1, ↓reduceIte, eq_self, in7, e1, e2]
theorem clo_ok {m c : Nat} {G : G_} (hm : m < 5) (hc : c < 256) : ∀ (d n s i : Nat) (acc : Int32), d < n → i + d = m → s < 16 → f_X1_lossOfOrder_l9_4 (iN c) (iN m) G n (iN s) acc (iN i) = some (if okC c d s = true then suC (G.1 46) c d s acc else -iN 1) := by
  intro d
  induction d with
  | zero =>
    intro n s i acc h1 h2 h3
    obtain ⟨n, rfl⟩ : ∃ k, n = k + 1 := ⟨n - 1, by omega⟩
    unfold f_X1_lossOfOrder_l9_4
    simp (disch := omega) only [chk_t, beq_self_eq_true, nm_s, bj1_s, bj2_s, bj3_s, mo_1, mo_0, l_0, l_1, l_2, l_3, l_4, l_5, l_6, l_7, l_8, l_9, l_10, l_11, l_12, l_13, l_14, l_15, l_16, l_17, l_18, l_19, l_20, l_21, l_30, l_31, l_32, l_36, l_40, l_41, l_42, l_43, l_44, l_45, l_46, l_47, l_48, l_49, l_50, l_51, l_52, l_57, l_58, l_60, l_64, l_72, l_80, l_92, l_98, l_99, l_100, l_102, l_105, l_111, l_112, l_114, l_115, l_116, l_117, l_120, l_144, l_200, l_201, l_240, l_300, l_320, l_400, l_500, l_550, l_560, l_649, l_650, l_1000, l_1400, l_2000, l_4000, l_10000, iN_add, iN_sub, iN_mul, iN_le_t, iN_le_f, iN_lt_t, iN_lt_f, iN_eq_f, inb_iN, ix_iN, isZ_0, isZ_1, ↓reduceIte, eq_self]
    rfl
  | succ d ih =>
    intro n s i acc h1 h2 h3
    obtain ⟨n, rfl⟩ : ∃ k, n = k + 1 := ⟨n - 1, by omega⟩
    have hx : c / 4 ^ d % 4 < 4 := Nat.mod_lt _ (by omega)
    have fg := t_fig m hm i (by omega) c hc
    rw [show m - 1 - i = d by omega] at fg
    have rl := rm_lt _ hx s h3
    have h := ih n (rmS s (c / 4 ^ d % 4)) (i + 1) (acc + G.1 46 (16 * (c / 4 ^ d % 4) + rmS s (c / 4 ^ d % 4))) (by omega) (by omega) rl
    have is := t_isIn _ hx s h3
    have rm := t_rm _ hx s h3
    have lo := closs_f (G := G) hx rl
    have eo : okC c (d + 1) s = if s / 2 ^ (c / 4 ^ d % 4) % 2 = 1 then okC c d (rmS s (c / 4 ^ d % 4)) else false := rfl
    have es : suC (G.1 46) c (d + 1) s acc = suC (G.1 46) c d (rmS s (c / 4 ^ d % 4)) (acc + G.1 46 (16 * (c / 4 ^ d % 4) + rmS s (c / 4 ^ d % 4))) := rfl
    rw [eo, es]
    have hb : s / 2 ^ (c / 4 ^ d % 4) % 2 < 2 := Nat.mod_lt _ (by omega)
    generalize c / 4 ^ d % 4 = x at *
    generalize s / 2 ^ x % 2 = b at *
    conv => lhs; unfold f_X1_lossOfOrder_l9_4
    by_cases cb : b = 1
    · subst cb
      rw [if_neg (of_eq_false (iN_le_f (by omega) (by omega))), fg, bj1_s, is, bj1_s, if_neg (by decide), rm, nm_s, lo, bj1_s, if_pos rfl, show iN i + 1 = iN (i + 1) from iN_add i 1]
      exact h
    · have b0 : b = 0 := by omega
      subst b0
      rw [if_neg (of_eq_false (iN_le_f (by omega) (by omega))), fg, bj1_s, is, bj1_s, if_pos (show iN 0 = 0 from rfl), if_neg (show ¬ (0 : Nat) = 1 by omega), if_neg (by decide)]
      rfl

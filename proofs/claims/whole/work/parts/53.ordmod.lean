/-! order: the reference's search -/
theorem pticks_ok {k mm : Nat} {G : G_} (hk : k < 4) (h : G.1 134 k = iN mm) (hm : mm ≤ 12) : f_X8_planTicks (iN k) G = some (tkS (PL k G)) := by
  have e4 : PL k G 4 = iN mm := h
  have key : f_X8_planTicks_l4_3 (iN k) G FU (iN 0) (iN 0) = some (tkS (PL k G)) := by
    unfold tkS
    rw [mD_N e4 hm]
    refine loop_sum (fun n s v => f_X8_planTicks_l4_3 (iN k) G n s v) _ mm ?_ ?_ (fu_lt (by omega))
    · intro f i s hi
      have e : PL k G (5 + 3 * i + 2) = G.1 135 (36 * k + 3 * i + 2) := by
        unfold PL
        rw [if_neg (by omega), show 36 * k + (5 + 3 * i + 2 - 5) = 36 * k + 3 * i + 2 by omega]
      show f_X8_planTicks_l4_3 (iN k) G (f + 1) s (iN i) = f_X8_planTicks_l4_3 (iN k) G f (s + PL k G (5 + 3 * i + 2)) (iN (i + 1))
      rw [e]
      conv => lhs; unfold f_X8_planTicks_l4_3
      simp (disch := omega) only [chk_t, beq_self_eq_true, nm_s, bj1_s, bj2_s, bj3_s, mo_1, mo_0, l_0, l_1, l_2, l_3, l_4, l_5, l_6, l_7, l_8, l_9, l_10, l_11, l_12, l_13, l_14, l_15, l_16, l_17, l_18, l_19, l_20, l_21, l_30, l_31, l_32, l_36, l_40, l_41, l_42, l_43, l_44, l_45, l_46, l_47, l_48, l_49, l_50, l_51, l_52, l_57, l_58, l_60, l_64, l_72, l_80, l_92, l_98, l_99, l_100, l_102, l_105, l_111, l_112, l_114, l_115, l_116, l_117, l_120, l_144, l_200, l_201, l_240, l_300, l_320, l_400, l_500, l_550, l_560, l_649, l_650, l_1000, l_1400, l_2000, l_4000, l_10000, iN_add, iN_sub, iN_mul, iN_le_t, iN_le_f, iN_lt_t, iN_lt_f, iN_eq_f, inb_iN, ix_iN, isZ_0, isZ_1, ↓reduceIte, eq_self, h]
    · intro f s
      show f_X8_planTicks_l4_3 (iN k) G (f + 1) s (iN mm) = _
      unfold f_X8_planTicks_l4_3
      simp (disch := omega) only [chk_t, beq_self_eq_true, nm_s, bj1_s, bj2_s, bj3_s, mo_1, mo_0, l_0, l_1, l_2, l_3, l_4, l_5, l_6, l_7, l_8, l_9, l_10, l_11, l_12, l_13, l_14, l_15, l_16, l_17, l_18, l_19, l_20, l_21, l_30, l_31, l_32, l_36, l_40, l_41, l_42, l_43, l_44, l_45, l_46, l_47, l_48, l_49, l_50, l_51, l_52, l_57, l_58, l_60, l_64, l_72, l_80, l_92, l_98, l_99, l_100, l_102, l_105, l_111, l_112, l_114, l_115, l_116, l_117, l_120, l_144, l_200, l_201, l_240, l_300, l_320, l_400, l_500, l_550, l_560, l_649, l_650, l_1000, l_1400, l_2000, l_4000, l_10000, iN_add, iN_sub, iN_mul, iN_le_t, iN_le_f, iN_lt_t, iN_lt_f, iN_eq_f, inb_iN, ix_iN, isZ_0, isZ_1, ↓reduceIte, eq_self, h]
  unfold f_X8_planTicks
  simp (disch := omega) only [chk_t, beq_self_eq_true, nm_s, bj1_s, bj2_s, bj3_s, mo_1, mo_0, l_0, l_1, l_2, l_3, l_4, l_5, l_6, l_7, l_8, l_9, l_10, l_11, l_12, l_13, l_14, l_15, l_16, l_17, l_18, l_19, l_20, l_21, l_30, l_31, l_32, l_36, l_40, l_41, l_42, l_43, l_44, l_45, l_46, l_47, l_48, l_49, l_50, l_51, l_52, l_57, l_58, l_60, l_64, l_72, l_80, l_92, l_98, l_99, l_100, l_102, l_105, l_111, l_112, l_114, l_115, l_116, l_117, l_120, l_144, l_200, l_201, l_240, l_300, l_320, l_400, l_500, l_550, l_560, l_649, l_650, l_1000, l_1400, l_2000, l_4000, l_10000, iN_add, iN_sub, iN_mul, iN_le_t, iN_le_f, iN_lt_t, iN_lt_f, iN_eq_f, inb_iN, ix_iN, isZ_0, isZ_1, ↓reduceIte, eq_self, key]
/-- what the reference may have changed in between -/
def mO (G H : G_) : Prop := mf G H ∧ ∀ p, 112 ≤ p → DM 4 H p = DM 4 G p
theorem mO_refl {G : G_} : mO G G := ⟨mf_refl, fun _ _ => rfl⟩
theorem mO_o {G A B : G_} (h : mO G A) (e : ∀ q, q ≠ 141 → q ≠ 142 → B.1 q = A.1 q) (e2 : B.2 = A.2) : mO G B := by
  obtain ⟨⟨a1, a2, a3, a4, a5⟩, a6⟩ := h
  refine ⟨⟨fun q hq => ?_, by rw [e 124 (by omega) (by omega)]; exact a2, by rw [e 124 (by omega) (by omega)]; exact a3, fun j hj => by rw [e 139 (by omega) (by omega)]; exact a4 j hj, e2.trans a5⟩, fun p hp => by rw [DM_of (e 139 (by omega) (by omega))]; exact a6 p hp⟩
  rw [e q (by unfold relq at hq; omega) (by unfold relq at hq; omega)]
  exact a1 q hq
theorem lay1 {k t n mm : Nat} {G H : G_} (hk : k < 4) (h : mO G H) (hs : slR (newP k k G) n) (hp : plR (newP k k G) mm) (ht : t ≤ 700) :
    ∃ H1 H2 H3 H4, f_X8_layNew (iN k) H = some H1 ∧ f_X8_layPlan (iN k) H1 = some H2 ∧ f_X8_makesPlan H2 = some H3 ∧ f_X8_rests (iN t) H3 = some H4 ∧ f_X8_cutLoss H4 = some (lossS (restS (mkS (newP k k G)) t)) ∧ mO G H4 ∧ H1.1 141 = H.1 141 ∧ H4.1 141 = H.1 141 ∧ H4.1 142 = H.1 142 := by
  obtain ⟨hf, h6⟩ := h
  have hb : bM 4 (LG 4 H) := bM_LG (by omega)
  have r132 : H.1 132 = G.1 132 := hf.1 132 (by unfold relq; omega)
  have r134 : H.1 134 = G.1 134 := hf.1 134 (by unfold relq; omega)
  have r135 : H.1 135 = G.1 135 := hf.1 135 (by unfold relq; omega)
  have m1 := layNew_ok (G := H) hk
  rw [SL_fr r132] at m1
  have m2 := layPlan_ok (k := k) (D := lsS (SL k G) (DM 4 H)) (W := WM H) hb hk
  rw [PL_fr (G' := LG 4 H) (G := G) (by rw [LG_o (by omega), r134]) (by rw [LG_o (by omega), r135])] at m2
  have eX : ∀ p, p < 41 ∨ 112 ≤ p → lpS (PL k G) (lsS (SL k G) (DM 4 H)) p = newP k k G p := fun p hp => by
    unfold newP newX
    by_cases c1 : p < 4
    · rw [lp_lo c1, lp_lo c1, ls_lo c1, ls_lo c1]
    · by_cases c2 : p < 41
      · rw [lp_in (by omega) c2, lp_in (by omega) c2]
      · rw [lp_hi (by omega), lp_hi (by omega), ls_hi (by omega), ls_hi (by omega), h6 p (by omega)]
  have e112 : ∀ p, 112 ≤ p → newP k k G p = DM 4 G p := fun p hp => by
    unfold newP newX
    rw [lp_hi (by omega), ls_hi (by omega)]
  generalize lpS (PL k G) (lsS (SL k G) (DM 4 H)) = E at *
  generalize newP k k G = X at *
  have hs' : slR E n := ⟨okN_keep hs.1 (eX 0 (by omega)), by rw [eX 1 (by omega)]; exact hs.2⟩
  have hp' : plR E mm := pl_keep hp (fun p h1 h2 => eX p (by omega))
  obtain ⟨W1, m3⟩ := mmk_ok (W := WM H) hb hs' hp'
  rw [mk_eq eX (by rw [mD_N hp.1 hp.2.1]; exact hp.2.1)] at m3
  have wm := wf_mk hs hp
  obtain ⟨W2, m4⟩ := mrests_ok (W := W1) (c := t) hb wm.1 ht
  have wr := wf_rest (k := t) wm
  have m5 := mloss_ok (W := W2) hb wr.1
  refine ⟨_, _, _, _, m1, m2, m3, m4, m5, ⟨mf_st (mf_tr hf mf_LG), fun p hp2 => ?_⟩, ?_, ?_, ?_⟩
  · unfold DM
    rw [stM_139, if_pos (by omega), show 112 * 4 + p - 112 * 4 = p by omega, rest_lo wm.1 (Or.inr hp2), mk_lo hs hp (Or.inr hp2), e112 p hp2]
    rfl
  · rw [stM_o1 (by omega) (by omega), LG_o (by omega)]
  · rw [stM_o1 (by omega) (by omega), LG_o (by omega)]
  · rw [stM_o1 (by omega) (by omega), LG_o (by omega)]
theorem m1_lt : (iN 0 - iN 1 < iN 0) = True := eq_true (by decide)
theorem m1_dn (x : Int32) : x + -iN 1 = x - iN 1 := (Int32.sub_eq_add_neg x (iN 1)).symm
theorem mloss8 {T : Nat → Nat} {ls : Nat → Nat → Nat} {a c n : Nat} {G : G_} (hn : n ≤ 4) (hd : datA a T ls G) (hc : ∀ i, i < n → a / 2 ^ (c / 4 ^ i % 4) % 2 = 1) :
    ∀ (j f : Nat) (H : G_), j < f → j ≤ n → mO G H → (∀ i, i < n → H.1 141 i = figS c n i) →
    ∃ H', f_X8_lossOf_l9_5 f (iN (muN T ls c (n - j))) (iN (buN T c (n - j))) (iN j - iN 1) H = some (iN (muN T ls c n), H') ∧ mO G H' ∧ H'.1 141 = H.1 141 ∧ H'.1 142 = H.1 142 := by
  obtain ⟨d1, d2, d3⟩ := hd
  intro j
  induction j with
  | zero =>
    intro f H h1 h2 h3 h4
    obtain ⟨f, rfl⟩ : ∃ k, f = k + 1 := ⟨f - 1, by omega⟩
    refine ⟨H, ?_, h3, rfl, rfl⟩
    unfold f_X8_lossOf_l9_5
    simp (disch := omega) only [chk_t, beq_self_eq_true, nm_s, bj1_s, bj2_s, bj3_s, mo_1, mo_0, l_0, l_1, l_2, l_3, l_4, l_5, l_6, l_7, l_8, l_9, l_10, l_11, l_12, l_13, l_14, l_15, l_16, l_17, l_18, l_19, l_20, l_21, l_30, l_31, l_32, l_36, l_40, l_41, l_42, l_43, l_44, l_45, l_46, l_47, l_48, l_49, l_50, l_51, l_52, l_57, l_58, l_60, l_64, l_72, l_80, l_92, l_98, l_99, l_100, l_102, l_105, l_111, l_112, l_114, l_115, l_116, l_117, l_120, l_144, l_200, l_201, l_240, l_300, l_320, l_400, l_500, l_550, l_560, l_649, l_650, l_1000, l_1400, l_2000, l_4000, l_10000, iN_add, iN_sub, iN_mul, iN_le_t, iN_le_f, iN_lt_t, iN_lt_f, iN_eq_f, inb_iN, ix_iN, isZ_0, isZ_1, ↓reduceIte, eq_self, m1_lt, Nat.sub_zero]
  | succ j ih =>
    intro f H h1 h2 h3 h4
    obtain ⟨f, rfl⟩ : ∃ k, f = k + 1 := ⟨f - 1, by omega⟩
    have ej : H.1 141 j = iN (c / 4 ^ (n - (j + 1)) % 4) := by
      rw [h4 j (by omega)]
      unfold figS
      rw [show n - 1 - j = n - (j + 1) by omega]
    have es : n - j = n - (j + 1) + 1 := by omega
    have hi : n - (j + 1) < n := by omega
    have hb := bu_le (c := c) d1 (n - (j + 1))
    have ih := ih f
    rw [es] at ih
    have hx := dig_lt c (n - (j + 1))
    have hcx := hc _ hi
    have emu : muN T ls c (n - (j + 1) + 1) = muN T ls c (n - (j + 1)) + ls (c / 4 ^ (n - (j + 1)) % 4) (buN T c (n - (j + 1))) := rfl
    have ebu : buN T c (n - (j + 1) + 1) = buN T c (n - (j + 1)) + T (c / 4 ^ (n - (j + 1)) % 4) := rfl
    rw [emu, ebu] at ih
    generalize n - (j + 1) = d at *
    generalize c / 4 ^ d % 4 = x at *
    obtain ⟨-, -, -, -, n', mm, hX, hP, -, -, e4, eT, -, hF⟩ := d3 x hx hcx
    have e4 : G.1 134 x = iN mm := e4
    obtain ⟨H1, H2, H3, H4, g1, g2, g3, g4, g5, g6, g7, g8, g9⟩ := lay1 (t := buN T c d) hx h3 hX hP (by omega)
    rw [hF] at g5
    have r134 : H4.1 134 = G.1 134 := g6.1.1 134 (by unfold relq; omega)
    have r135 : H4.1 135 = G.1 135 := g6.1.1 135 (by unfold relq; omega)
    have pt := pticks_ok (k := x) (mm := mm) (G := H4) hx (by rw [r134]; exact e4) hP.2.1
    rw [PL_fr r134 r135, eT] at pt
    obtain ⟨H', k1, k2, k3, k4⟩ := ih H4 (by omega) (by omega) g6 (fun i hi => by rw [g8]; exact h4 i hi)
    refine ⟨H', ?_, k2, k3.trans g8, k4.trans g9⟩
    rw [← k1]
    conv => lhs; unfold f_X8_lossOf_l9_5
    have e1 : H1.1 141 j = iN x := by rw [g7]; exact ej
    have e2 : H4.1 141 j = iN x := by rw [g8]; exact ej
    simp (disch := omega) only [chk_t, beq_self_eq_true, nm_s, bj1_s, bj2_s, bj3_s, mo_1, mo_0, l_0, l_1, l_2, l_3, l_4, l_5, l_6, l_7, l_8, l_9, l_10, l_11, l_12, l_13, l_14, l_15, l_16, l_17, l_18, l_19, l_20, l_21, l_30, l_31, l_32, l_36, l_40, l_41, l_42, l_43, l_44, l_45, l_46, l_47, l_48, l_49, l_50, l_51, l_52, l_57, l_58, l_60, l_64, l_72, l_80, l_92, l_98, l_99, l_100, l_102, l_105, l_111, l_112, l_114, l_115, l_116, l_117, l_120, l_144, l_200, l_201, l_240, l_300, l_320, l_400, l_500, l_550, l_560, l_649, l_650, l_1000, l_1400, l_2000, l_4000, l_10000, iN_add, iN_sub, iN_mul, iN_le_t, iN_le_f, iN_lt_t, iN_lt_f, iN_eq_f, inb_iN, ix_iN, isZ_0, isZ_1, ↓reduceIte, eq_self, ej, g1, e1, g2, g3, g4, g5, e2, pt, m1_dn, Nat.add_sub_cancel]
theorem copy1 {n : Nat} {a1 a2 x21 x29 v23 : Int32} {G : G_} (hn : n ≤ 4) : ∃ H, f_X8_order_l154_34 a1 a2 (iN n) x21 x29 v23 FU (iN 0) G = some H ∧ (∀ i, i < n → H.1 142 i = G.1 141 i) ∧ (∀ q, q ≠ 142 → H.1 q = G.1 q) ∧ H.2 = G.2 := by
  refine loop_h (fun f v s => f_X8_order_l154_34 a1 a2 (iN n) x21 x29 v23 f v s) (fun j H => (∀ i, i < j → H.1 142 i = G.1 141 i) ∧ (∀ q, q ≠ 142 → H.1 q = G.1 q) ∧ H.2 = G.2) _ 0 n ?_ ?_ (by omega) (n := FU) (fu_lt (by omega)) ⟨fun i hi => by omega, fun _ _ => rfl, rfl⟩
  · intro f j A h3 h4 ⟨i0, i1, i2⟩
    refine ⟨sI A 142 j (A.1 141 j), ⟨fun i hi => ?_, fun q hq => by rw [sI_p hq]; exact i1 q hq, i2⟩, ?_⟩
    · by_cases c : i = j
      · subst c
        rw [sI_eq, i1 141 (by omega)]
      · rw [sI_j c]
        exact i0 i (by omega)
    · show f_X8_order_l154_34 a1 a2 (iN n) x21 x29 v23 (f + 1) (iN j) A = _
      conv => lhs; unfold f_X8_order_l154_34
      simp (disch := omega) only [chk_t, beq_self_eq_true, nm_s, bj1_s, bj2_s, bj3_s, mo_1, mo_0, l_0, l_1, l_2, l_3, l_4, l_5, l_6, l_7, l_8, l_9, l_10, l_11, l_12, l_13, l_14, l_15, l_16, l_17, l_18, l_19, l_20, l_21, l_30, l_31, l_32, l_36, l_40, l_41, l_42, l_43, l_44, l_45, l_46, l_47, l_48, l_49, l_50, l_51, l_52, l_57, l_58, l_60, l_64, l_72, l_80, l_92, l_98, l_99, l_100, l_102, l_105, l_111, l_112, l_114, l_115, l_116, l_117, l_120, l_144, l_200, l_201, l_240, l_300, l_320, l_400, l_500, l_550, l_560, l_649, l_650, l_1000, l_1400, l_2000, l_4000, l_10000, iN_add, iN_sub, iN_mul, iN_le_t, iN_le_f, iN_lt_t, iN_lt_f, iN_eq_f, inb_iN, ix_iN, isZ_0, isZ_1, ↓reduceIte, eq_self]
  · intro f A hI
    refine ⟨A, ?_, hI⟩
    show f_X8_order_l154_34 a1 a2 (iN n) x21 x29 v23 (f + 1) (iN n) A = _
    unfold f_X8_order_l154_34
    simp (disch := omega) only [chk_t, beq_self_eq_true, nm_s, bj1_s, bj2_s, bj3_s, mo_1, mo_0, l_0, l_1, l_2, l_3, l_4, l_5, l_6, l_7, l_8, l_9, l_10, l_11, l_12, l_13, l_14, l_15, l_16, l_17, l_18, l_19, l_20, l_21, l_30, l_31, l_32, l_36, l_40, l_41, l_42, l_43, l_44, l_45, l_46, l_47, l_48, l_49, l_50, l_51, l_52, l_57, l_58, l_60, l_64, l_72, l_80, l_92, l_98, l_99, l_100, l_102, l_105, l_111, l_112, l_114, l_115, l_116, l_117, l_120, l_144, l_200, l_201, l_240, l_300, l_320, l_400, l_500, l_550, l_560, l_649, l_650, l_1000, l_1400, l_2000, l_4000, l_10000, iN_add, iN_sub, iN_mul, iN_le_t, iN_le_f, iN_lt_t, iN_lt_f, iN_eq_f, inb_iN, ix_iN, isZ_0, isZ_1, ↓reduceIte, eq_self]
theorem copy2 {n : Nat} {a1 a2 x21 x29 v23 : Int32} {G : G_} (hn : n ≤ 4) : ∃ H, f_X8_order_l154_41 a1 a2 (iN n) x21 x29 v23 FU (iN 0) G = some H ∧ (∀ i, i < n → H.1 142 i = G.1 141 i) ∧ (∀ q, q ≠ 142 → H.1 q = G.1 q) ∧ H.2 = G.2 := by
  refine loop_h (fun f v s => f_X8_order_l154_41 a1 a2 (iN n) x21 x29 v23 f v s) (fun j H => (∀ i, i < j → H.1 142 i = G.1 141 i) ∧ (∀ q, q ≠ 142 → H.1 q = G.1 q) ∧ H.2 = G.2) _ 0 n ?_ ?_ (by omega) (n := FU) (fu_lt (by omega)) ⟨fun i hi => by omega, fun _ _ => rfl, rfl⟩
  · intro f j A h3 h4 ⟨i0, i1, i2⟩
    refine ⟨sI A 142 j (A.1 141 j), ⟨fun i hi => ?_, fun q hq => by rw [sI_p hq]; exact i1 q hq, i2⟩, ?_⟩
    · by_cases c : i = j
      · subst c
        rw [sI_eq, i1 141 (by omega)]
      · rw [sI_j c]
        exact i0 i (by omega)
    · show f_X8_order_l154_41 a1 a2 (iN n) x21 x29 v23 (f + 1) (iN j) A = _
      conv => lhs; unfold f_X8_order_l154_41
      simp (disch := omega) only [chk_t, beq_self_eq_true, nm_s, bj1_s, bj2_s, bj3_s, mo_1, mo_0, l_0, l_1, l_2, l_3, l_4, l_5, l_6, l_7, l_8, l_9, l_10, l_11, l_12, l_13, l_14, l_15, l_16, l_17, l_18, l_19, l_20, l_21, l_30, l_31, l_32, l_36, l_40, l_41, l_42, l_43, l_44, l_45, l_46, l_47, l_48, l_49, l_50, l_51, l_52, l_57, l_58, l_60, l_64, l_72, l_80, l_92, l_98, l_99, l_100, l_102, l_105, l_111, l_112, l_114, l_115, l_116, l_117, l_120, l_144, l_200, l_201, l_240, l_300, l_320, l_400, l_500, l_550, l_560, l_649, l_650, l_1000, l_1400, l_2000, l_4000, l_10000, iN_add, iN_sub, iN_mul, iN_le_t, iN_le_f, iN_lt_t, iN_lt_f, iN_eq_f, inb_iN, ix_iN, isZ_0, isZ_1, ↓reduceIte, eq_self]
  · intro f A hI
    refine ⟨A, ?_, hI⟩
    show f_X8_order_l154_41 a1 a2 (iN n) x21 x29 v23 (f + 1) (iN n) A = _
    unfold f_X8_order_l154_41
    simp (disch := omega) only [chk_t, beq_self_eq_true, nm_s, bj1_s, bj2_s, bj3_s, mo_1, mo_0, l_0, l_1, l_2, l_3, l_4, l_5, l_6, l_7, l_8, l_9, l_10, l_11, l_12, l_13, l_14, l_15, l_16, l_17, l_18, l_19, l_20, l_21, l_30, l_31, l_32, l_36, l_40, l_41, l_42, l_43, l_44, l_45, l_46, l_47, l_48, l_49, l_50, l_51, l_52, l_57, l_58, l_60, l_64, l_72, l_80, l_92, l_98, l_99, l_100, l_102, l_105, l_111, l_112, l_114, l_115, l_116, l_117, l_120, l_144, l_200, l_201, l_240, l_300, l_320, l_400, l_500, l_550, l_560, l_649, l_650, l_1000, l_1400, l_2000, l_4000, l_10000, iN_add, iN_sub, iN_mul, iN_le_t, iN_le_f, iN_lt_t, iN_lt_f, iN_eq_f, inb_iN, ix_iN, isZ_0, isZ_1, ↓reduceIte, eq_self]
theorem mu_le {T : Nat → Nat} {ls : Nat → Nat → Nat} {c : Nat} (hl : ∀ k t, ls k t ≤ 2000) : ∀ d, muN T ls c d ≤ 2000 * d := by
  intro d
  induction d with
  | zero => exact Nat.le_refl _
  | succ d ih =>
    have h2 := hl (c / 4 ^ d % 4) (buN T c d)
    show muN T ls c d + ls (c / 4 ^ d % 4) (buN T c d) ≤ _
    omega
def moI (a : Nat) (T : Nat → Nat) (ls : Nat → Nat → Nat) (G : G_) (k : Nat) (s : Int32 × G_) : Prop :=
  ∃ r, fstB (fun _ => True) (fun k => muN T ls (cdO a k) (pcS a)) k r ∧ mO G s.2 ∧ (r = none → s.1 = -iN 9) ∧ ∀ b, r = some b → s.1 = iN (muN T ls (cdO a b) (pcS a)) ∧ ∀ i, i < pcS a → s.2.1 142 i = figS (cdO a b) (pcS a) i
theorem mstep1 {T : Nat → Nat} {ls : Nat → Nat → Nat} {a k : Nat} {G A : G_} (ha : a < 16) (hd : datA a T ls G) (hk : k < fcN (pcS a)) (h : mO G A) :
    ∃ B C, f_X8_layOrder (iN a) (iN (pcS a)) (iN k) A = some B ∧ f_X8_lossOf (iN (pcS a)) B = some (iN (muN T ls (cdO a k) (pcS a)), C) ∧ mO G C ∧ (∀ i, i < pcS a → C.1 141 i = figS (cdO a k) (pcS a) i) ∧ C.1 142 = A.1 142 := by
  have h4 := t_pc4 a ha
  obtain ⟨B, hB, b0, b1, b2⟩ := layO (G := A) ha hk
  have mB := mO_o h (fun q q1 q2 => b1 q q1) b2
  obtain ⟨C, hC, c0, c1, c2⟩ := mloss8 (c := cdO a k) h4 hd (t_ly2 a ha k hk).2.2.2 (pcS a) FU B (fu_lt (by omega)) (Nat.le_refl _) mB b0
  rw [Nat.sub_self] at hC
  have hC : f_X8_lossOf_l9_5 FU (iN 0) (iN 0) (iN (pcS a) - iN 1) B = some (iN (muN T ls (cdO a k) (pcS a)), C) := hC
  refine ⟨B, C, hB, ?_, c0, fun i hi => by rw [c1]; exact b0 i hi, by rw [c2, b1 142 (by omega)]⟩
  unfold f_X8_lossOf
  simp only [l_0, l_1]
  rw [hC, bj2_s]
theorem m9_eq : (-iN 9 = -iN 9) = True := eq_self _
theorem mbest_ok {T : Nat → Nat} {ls : Nat → Nat → Nat} {a : Nat} {a2 : Int32} {G : G_} (ha : a < 16) (hd : datA a T ls G) :
    ∃ x H, f_X8_order_l109_25 (iN a) a2 (iN (pcS a)) (iN (fcN (pcS a))) FU (-iN 9) (iN 0) G = some (x, H) ∧ moI a T ls G (fcN (pcS a)) (x, H) := by
  have h4 := t_pc4 a ha
  obtain ⟨f1, f2, f3⟩ := t_fc a ha
  have key := loop_h (fun f v (s : Int32 × G_) => f_X8_order_l109_25 (iN a) a2 (iN (pcS a)) (iN (fcN (pcS a))) f s.1 v s.2) (moI a T ls G) (fun r => moI a T ls G (fcN (pcS a)) r) 0 (fcN (pcS a)) ?_ ?_ (by omega) (n := FU) (fu_lt (by omega)) (s := (-iN 9, G)) ⟨none, Or.inl ⟨rfl, fun i hi => by omega⟩, mO_refl, fun _ => rfl, fun b hb => by cases hb⟩
  · obtain ⟨⟨x, H⟩, h1, h2⟩ := key
    exact ⟨x, H, h1, h2⟩
  · intro f k ⟨v, A⟩ g3 g4 ⟨r, i0, i1, i2, i3⟩
    obtain ⟨B, C, hB, hC, c0, c1, c2⟩ := mstep1 (A := A) ha hd g4 i1
    have bd := mu_le (T := T) (c := cdO a k) hd.2.1 (pcS a)
    rcases i0 with ⟨j1, j2⟩ | ⟨b, j1, j2, j3, j4, j5⟩
    · have v1 : v = -iN 9 := i2 j1
      subst v1
      obtain ⟨D, hD, e0, e1, e2⟩ := copy1 (n := pcS a) (a1 := iN a) (a2 := a2) (x21 := iN (fcN (pcS a))) (x29 := iN (muN T ls (cdO a k) (pcS a))) (v23 := iN k) (G := C) h4
      refine ⟨(iN (muN T ls (cdO a k) (pcS a)), D), ⟨some k, Or.inr ⟨k, rfl, by omega, trivial, fun i hi ho => ?_, fun i hi ho => absurd ho (j2 i hi)⟩, mO_o c0 (fun q q1 q2 => e1 q q2) e2, fun h => (by cases h), fun b hb => ?_⟩, ?_⟩
      · by_cases d : i = k
        · rw [d]
          exact Nat.le_refl _
        · exact absurd trivial (j2 i (by omega))
      · injection hb with hb
        subst hb
        exact ⟨rfl, fun i hi => (e0 i hi).trans (c1 i hi)⟩
      · show f_X8_order_l109_25 (iN a) a2 (iN (pcS a)) (iN (fcN (pcS a))) (f + 1) (-iN 9) (iN k) A = _
        conv => lhs; unfold f_X8_order_l109_25
        simp (disch := omega) only [chk_t, beq_self_eq_true, nm_s, bj1_s, bj2_s, bj3_s, mo_1, mo_0, l_0, l_1, l_2, l_3, l_4, l_5, l_6, l_7, l_8, l_9, l_10, l_11, l_12, l_13, l_14, l_15, l_16, l_17, l_18, l_19, l_20, l_21, l_30, l_31, l_32, l_36, l_40, l_41, l_42, l_43, l_44, l_45, l_46, l_47, l_48, l_49, l_50, l_51, l_52, l_57, l_58, l_60, l_64, l_72, l_80, l_92, l_98, l_99, l_100, l_102, l_105, l_111, l_112, l_114, l_115, l_116, l_117, l_120, l_144, l_200, l_201, l_240, l_300, l_320, l_400, l_500, l_550, l_560, l_649, l_650, l_1000, l_1400, l_2000, l_4000, l_10000, iN_add, iN_sub, iN_mul, iN_le_t, iN_le_f, iN_lt_t, iN_lt_f, iN_eq_f, inb_iN, ix_iN, isZ_0, isZ_1, ↓reduceIte, eq_self, hB, hC, hD]
    · obtain ⟨v1, v2⟩ := i3 b j1
      have v1 : v = iN (muN T ls (cdO a b) (pcS a)) := v1
      have v2 : ∀ i, i < pcS a → A.1 142 i = figS (cdO a b) (pcS a) i := v2
      subst v1
      have bd2 := mu_le (T := T) (c := cdO a b) hd.2.1 (pcS a)
      have n9 : (iN (muN T ls (cdO a b) (pcS a)) = -iN 9) = False := N_m9 (by omega)
      have j4 : ∀ i, i < k → True → muN T ls (cdO a b) (pcS a) ≤ muN T ls (cdO a i) (pcS a) := j4
      have j5 : ∀ i, i < b → True → muN T ls (cdO a b) (pcS a) < muN T ls (cdO a i) (pcS a) := j5
      by_cases le : muN T ls (cdO a b) (pcS a) ≤ muN T ls (cdO a k) (pcS a)
      · refine ⟨(iN (muN T ls (cdO a b) (pcS a)), C), ⟨some b, Or.inr ⟨b, rfl, by omega, trivial, fun i hi ho => ?_, j5⟩, c0, fun h => (by cases h), fun b' hb => ?_⟩, ?_⟩
        · by_cases d : i = k
          · rw [d]
            exact le
          · exact j4 i (by omega) trivial
        · injection hb with hb
          subst hb
          exact ⟨rfl, fun i hi => by
            show C.1 142 i = _
            rw [c2]
            exact v2 i hi⟩
        · show f_X8_order_l109_25 (iN a) a2 (iN (pcS a)) (iN (fcN (pcS a))) (f + 1) (iN (muN T ls (cdO a b) (pcS a))) (iN k) A = _
          conv => lhs; unfold f_X8_order_l109_25
          simp (disch := omega) only [chk_t, beq_self_eq_true, nm_s, bj1_s, bj2_s, bj3_s, mo_1, mo_0, l_0, l_1, l_2, l_3, l_4, l_5, l_6, l_7, l_8, l_9, l_10, l_11, l_12, l_13, l_14, l_15, l_16, l_17, l_18, l_19, l_20, l_21, l_30, l_31, l_32, l_36, l_40, l_41, l_42, l_43, l_44, l_45, l_46, l_47, l_48, l_49, l_50, l_51, l_52, l_57, l_58, l_60, l_64, l_72, l_80, l_92, l_98, l_99, l_100, l_102, l_105, l_111, l_112, l_114, l_115, l_116, l_117, l_120, l_144, l_200, l_201, l_240, l_300, l_320, l_400, l_500, l_550, l_560, l_649, l_650, l_1000, l_1400, l_2000, l_4000, l_10000, iN_add, iN_sub, iN_mul, iN_le_t, iN_le_f, iN_lt_t, iN_lt_f, iN_eq_f, inb_iN, ix_iN, isZ_0, isZ_1, ↓reduceIte, eq_self, hB, hC, n9]
      · obtain ⟨D, hD, e0, e1, e2⟩ := copy2 (n := pcS a) (a1 := iN a) (a2 := a2) (x21 := iN (fcN (pcS a))) (x29 := iN (muN T ls (cdO a k) (pcS a))) (v23 := iN k) (G := C) h4
        refine ⟨(iN (muN T ls (cdO a k) (pcS a)), D), ⟨some k, Or.inr ⟨k, rfl, by omega, trivial, fun i hi ho => ?_, fun i hi ho => ?_⟩, mO_o c0 (fun q q1 q2 => e1 q q2) e2, fun h => (by cases h), fun b hb => ?_⟩, ?_⟩
        · show muN T ls (cdO a k) (pcS a) ≤ muN T ls (cdO a i) (pcS a)
          by_cases d : i = k
          · rw [d]
            exact Nat.le_refl _
          · have := j4 i (by omega) trivial
            omega
        · show muN T ls (cdO a k) (pcS a) < muN T ls (cdO a i) (pcS a)
          have := j4 i hi trivial
          omega
        · injection hb with hb
          subst hb
          exact ⟨rfl, fun i hi => (e0 i hi).trans (c1 i hi)⟩
        · show f_X8_order_l109_25 (iN a) a2 (iN (pcS a)) (iN (fcN (pcS a))) (f + 1) (iN (muN T ls (cdO a b) (pcS a))) (iN k) A = _
          conv => lhs; unfold f_X8_order_l109_25
          simp (disch := omega) only [chk_t, beq_self_eq_true, nm_s, bj1_s, bj2_s, bj3_s, mo_1, mo_0, l_0, l_1, l_2, l_3, l_4, l_5, l_6, l_7, l_8, l_9, l_10, l_11, l_12, l_13, l_14, l_15, l_16, l_17, l_18, l_19, l_20, l_21, l_30, l_31, l_32, l_36, l_40, l_41, l_42, l_43, l_44, l_45, l_46, l_47, l_48, l_49, l_50, l_51, l_52, l_57, l_58, l_60, l_64, l_72, l_80, l_92, l_98, l_99, l_100, l_102, l_105, l_111, l_112, l_114, l_115, l_116, l_117, l_120, l_144, l_200, l_201, l_240, l_300, l_320, l_400, l_500, l_550, l_560, l_649, l_650, l_1000, l_1400, l_2000, l_4000, l_10000, iN_add, iN_sub, iN_mul, iN_le_t, iN_le_f, iN_lt_t, iN_lt_f, iN_eq_f, inb_iN, ix_iN, isZ_0, isZ_1, ↓reduceIte, eq_self, hB, hC, n9, hD]
  · intro f ⟨v, A⟩ hI
    refine ⟨(v, A), ?_, hI⟩
    show f_X8_order_l109_25 (iN a) a2 (iN (pcS a)) (iN (fcN (pcS a))) (f + 1) v (iN (fcN (pcS a))) A = _
    unfold f_X8_order_l109_25
    simp (disch := omega) only [chk_t, beq_self_eq_true, nm_s, bj1_s, bj2_s, bj3_s, mo_1, mo_0, l_0, l_1, l_2, l_3, l_4, l_5, l_6, l_7, l_8, l_9, l_10, l_11, l_12, l_13, l_14, l_15, l_16, l_17, l_18, l_19, l_20, l_21, l_30, l_31, l_32, l_36, l_40, l_41, l_42, l_43, l_44, l_45, l_46, l_47, l_48, l_49, l_50, l_51, l_52, l_57, l_58, l_60, l_64, l_72, l_80, l_92, l_98, l_99, l_100, l_102, l_105, l_111, l_112, l_114, l_115, l_116, l_117, l_120, l_144, l_200, l_201, l_240, l_300, l_320, l_400, l_500, l_550, l_560, l_649, l_650, l_1000, l_1400, l_2000, l_4000, l_10000, iN_add, iN_sub, iN_mul, iN_le_t, iN_le_f, iN_lt_t, iN_lt_f, iN_eq_f, inb_iN, ix_iN, isZ_0, isZ_1, ↓reduceIte, eq_self]
theorem mrow54 {n r : Nat} {x48 : Int32} {F : Nat → Int32} {G : G_} (hn : n ≤ 4) (hr : r < 6) (hF : ∀ i, i < n → G.1 142 i = F i) : ∃ H, f_X8_order_l198_54 (iN r) (iN n) x48 FU (iN 0) G = some H ∧ (∀ i, i < 40 → H.1 127 (40 * r + i) = if i < n then F i else iN 0) ∧ (∀ j, j < 40 * r ∨ 40 * r + 40 ≤ j → H.1 127 j = G.1 127 j) ∧ (∀ q, q ≠ 127 → H.1 q = G.1 q) ∧ H.2 = G.2 := by
  refine loop_h (fun f v s => f_X8_order_l198_54 (iN r) (iN n) x48 f v s) (fun k C => (∀ i, i < k → C.1 127 (40 * r + i) = if i < n then F i else iN 0) ∧ (∀ j, j < 40 * r ∨ 40 * r + 40 ≤ j → C.1 127 j = G.1 127 j) ∧ (∀ q, q ≠ 127 → C.1 q = G.1 q) ∧ C.2 = G.2) _ 0 40 ?_ ?_ (by omega) (n := FU) (fu_lt (by omega)) ⟨fun i h => by omega, fun _ _ => rfl, fun _ _ => rfl, rfl⟩
  · intro f k C h3 h4 ⟨i0, i1, i2, i3⟩
    refine ⟨sI C 127 (40 * r + k) (if k < n then F k else iN 0), ⟨fun i h5 => ?_, fun j hj => by rw [sI_j (by omega)]; exact i1 j hj, fun q hq => by rw [sI_p hq]; exact i2 q hq, i3⟩, ?_⟩
    · by_cases c : i = k
      · subst c; exact sI_eq
      · rw [sI_j (by omega)]; exact i0 i (by omega)
    · show f_X8_order_l198_54 (iN r) (iN n) x48 (f + 1) (iN k) C = _
      conv => lhs; unfold f_X8_order_l198_54
      by_cases c : k < n
      · have e : C.1 142 k = F k := by rw [i2 142 (by omega)]; exact hF k c
        rw [if_pos c]
        simp (disch := omega) only [chk_t, beq_self_eq_true, nm_s, bj1_s, bj2_s, bj3_s, mo_1, mo_0, l_0, l_1, l_2, l_3, l_4, l_5, l_6, l_7, l_8, l_9, l_10, l_11, l_12, l_13, l_14, l_15, l_16, l_17, l_18, l_19, l_20, l_21, l_30, l_31, l_32, l_36, l_40, l_41, l_42, l_43, l_44, l_45, l_46, l_47, l_48, l_49, l_50, l_51, l_52, l_57, l_58, l_60, l_64, l_72, l_80, l_92, l_98, l_99, l_100, l_102, l_105, l_111, l_112, l_114, l_115, l_116, l_117, l_120, l_144, l_200, l_201, l_240, l_300, l_320, l_400, l_500, l_550, l_560, l_649, l_650, l_1000, l_1400, l_2000, l_4000, l_10000, iN_add, iN_sub, iN_mul, iN_le_t, iN_le_f, iN_lt_t, iN_lt_f, iN_eq_f, inb_iN, ix_iN, isZ_0, isZ_1, ↓reduceIte, eq_self, e]
      · rw [if_neg c]
        simp (disch := omega) only [chk_t, beq_self_eq_true, nm_s, bj1_s, bj2_s, bj3_s, mo_1, mo_0, l_0, l_1, l_2, l_3, l_4, l_5, l_6, l_7, l_8, l_9, l_10, l_11, l_12, l_13, l_14, l_15, l_16, l_17, l_18, l_19, l_20, l_21, l_30, l_31, l_32, l_36, l_40, l_41, l_42, l_43, l_44, l_45, l_46, l_47, l_48, l_49, l_50, l_51, l_52, l_57, l_58, l_60, l_64, l_72, l_80, l_92, l_98, l_99, l_100, l_102, l_105, l_111, l_112, l_114, l_115, l_116, l_117, l_120, l_144, l_200, l_201, l_240, l_300, l_320, l_400, l_500, l_550, l_560, l_649, l_650, l_1000, l_1400, l_2000, l_4000, l_10000, iN_add, iN_sub, iN_mul, iN_le_t, iN_le_f, iN_lt_t, iN_lt_f, iN_eq_f, inb_iN, ix_iN, isZ_0, isZ_1, ↓reduceIte, eq_self]
  · intro f C hI
    refine ⟨C, ?_, hI⟩
    show f_X8_order_l198_54 (iN r) (iN n) x48 (f + 1) (iN 40) C = _
    unfold f_X8_order_l198_54
    simp (disch := omega) only [chk_t, beq_self_eq_true, nm_s, bj1_s, bj2_s, bj3_s, mo_1, mo_0, l_0, l_1, l_2, l_3, l_4, l_5, l_6, l_7, l_8, l_9, l_10, l_11, l_12, l_13, l_14, l_15, l_16, l_17, l_18, l_19, l_20, l_21, l_30, l_31, l_32, l_36, l_40, l_41, l_42, l_43, l_44, l_45, l_46, l_47, l_48, l_49, l_50, l_51, l_52, l_57, l_58, l_60, l_64, l_72, l_80, l_92, l_98, l_99, l_100, l_102, l_105, l_111, l_112, l_114, l_115, l_116, l_117, l_120, l_144, l_200, l_201, l_240, l_300, l_320, l_400, l_500, l_550, l_560, l_649, l_650, l_1000, l_1400, l_2000, l_4000, l_10000, iN_add, iN_sub, iN_mul, iN_le_t, iN_le_f, iN_lt_t, iN_lt_f, iN_eq_f, inb_iN, ix_iN, isZ_0, isZ_1, ↓reduceIte, eq_self]

/-! ways -/
theorem LF_way {n q t : Nat} {X : Nat → Int32} (hX : slR X n) (hX4 : X 4 = iN 0) (h3 : 0 ≤ (X 3).toInt ∧ (X 3).toInt ≤ 9) (hq : q ≤ 30) (k : Nat) (hk : k ≤ 300) : LF 3000 (0 + k) (wayS (iN q) (iN t) (bgS X) k) n := by
  have b := hX.2
  induction k with
  | zero => exact LF_bg hX (mD_0 hX4) h3 (by omega) (by omega)
  | succ k ih =>
    have ih := ih (by omega)
    have hq' : qRh 3000 (iN q) := qRh_N hq (by omega)
    show LF 3000 (0 + k + 1) (wayT k (iN q) (iN t) (wayS (iN q) (iN t) (bgS X) k)) n
    unfold wayT
    refine (LF_tick (by omega) ?_ hq' (by omega)).1
    split
    · exact ih
    · split
      · exact LF_up ih (by omega) (by omega) (by omega) (by omega)
      · exact ih
theorem crust_0 {h c n : Nat} {D : Nat → Int32} (hl : LF h c D n) : ¬ crustS D < iN 0 := fun x => by
  have x := t_lt.mp x
  rw [li (by omega)] at x
  have a := hl.2.2.2.2.2 0 (by omega)
  have b := hl.2.2.2.2.2 1 (by omega)
  have a : 0 ≤ (D 50).toInt ∧ _ := a
  have b : 0 ≤ (D 51).toInt ∧ _ := b
  have a := a.1
  have b := b.1
  unfold crustS at x
  split at x <;> omega
theorem pink_n {n : Nat} {D : Nat → Int32} (hn : okN D n) (a b : Int32) : ∃ k, k ≤ n ∧ justS a b D = iN k := by
  unfold justS
  rw [okN_n hn]
  exact sum01 (fun i => inS a b (D (72 + i))) n (fun i _ => inS_01 _ _ _) (by have := hn.2; omega)
theorem midM_0 {h c n : Nat} {D : Nat → Int32} (hl : LF h c D n) : 0 ≤ (midM D).toInt ∧ (midM D).toInt ≤ 3000 := by
  have b := hl.1.1.2
  unfold midM
  rw [okN_n hl.1.1]
  have a := hl.2.1 (n / 2) (by omega)
  have c := hl.2.2.1 (n / 2) (by omega)
  omega
theorem tr_one {n q t j : Nat} {X : Nat → Int32} (hX : slR X n) (hX4 : X 4 = iN 0) (h3 : 0 ≤ (X 3).toInt ∧ (X 3).toInt ≤ 9) (hq : q ≤ 30) (hj : 3 ≤ j ∧ j ≤ 20) : trS (iN q) (iN t) (iN 0) X j = iN 1 := by
  have hX' : slR (up X 0 (iN j)) j := ⟨⟨up_eq, hj.1, hj.2⟩, by rw [up_ne (by omega)]; exact hX.2⟩
  have l := LF_way (t := t) hX' (by rw [up_ne (by omega)]; exact hX4) (by rw [up_ne (by omega)]; exact h3) hq 1 (by omega)
  have m := midM_0 l
  have e : tillS (iN q) (iN t) (iN 0) (bgS (up X 0 (iN j))) = iN 1 := tillF_1 (f := 199) (k := 0) (by
    show (!decide (midM (wayS (iN q) (iN t) (bgS (up X 0 (iN j))) 1) < iN 0)) = true
    rw [Bool.not_eq_true', decide_eq_false_iff_not]
    intro x
    have x := t_lt.mp x
    rw [li (by omega)] at x
    omega)
  unfold trS
  rw [e, if_neg (by decide)]
theorem rule_one {n q t : Nat} {X : Nat → Int32} (hX : slR X n) (hX4 : X 4 = iN 0) (h3 : 0 ≤ (X 3).toInt ∧ (X 3).toInt ≤ 9) (hq : q ≤ 30) : (fiA (ruF q t 0 X) (-iN 9, iN 0) 21).1 = iN 1 := by
  rw [fiA_cg (g := ruO) (fun j hj => ?_), ru_one]
  unfold ruF ruO
  exact sumS_congr (fun i hi => by rw [tr_one hX hX4 h3 hq (by omega)])
/-- the four others -/
theorem l80_c {sl n t pk z0 z1 Q C : Nat} {xs : Nat → Int32} {X : Nat → Int32} {g : Nat → Nat} {V : G_} (hs : sl ≤ 260) (r1 : V.1 71 0 = iN 1) (hc : cSl 71 X V) (hX : slR X n) (hX4 : X 4 = iN 0) (h3 : 0 ≤ (X 3).toInt ∧ (X 3).toInt ≤ 9) (n248 : V.1 248 0 = iN n) (eQ : iN 10 + (iN z0 - iN z0 / iN 21 * iN 21) = iN Q) (hQ : 10 ≤ Q ∧ Q ≤ 30) (eC : iN 1 + (iN z1 - iN z1 / iN 80 * iN 80) = iN C) (hC : 1 ≤ C ∧ C ≤ 80) (hg : ∀ o, pinkS (wayS (iN Q) (iN o) (bgS X) C) = iN (g o) ∧ g o ≤ n) (ht : t < 61) (epk : pk = g t) (best : ∀ s, 1 ≤ s → s < 61 → g s ≤ g t ∧ (g s = g t → t ≤ s)) : ∃ H, f_L_ways_l80_17 248 (iN z0) (iN z1) (iN t) (iN pk) sl xs FU (iN 0) V = some H ∧ cs V H := by
  have bn := hX.1.2
  have i8 : inb (iN 0) 8 = true := by decide
  have x0 : ix (iN 0) = 0 := by decide
  obtain ⟨H, hH, iH⟩ := loop_h (fun n v s => f_L_ways_l80_17 248 (iN z0) (iN z1) (iN t) (iN pk) sl xs n v s) (fun j H => cs V H) (fun H => cs V H) 0 4 (by
    intro f j H j0 j4 hI
    have e71 : H.1 71 = V.1 71 := hI.1 71 (by unfold scr; omega)
    have zb := @cz_lt sl xs (2 + j) (by omega)
    have hcell : f_L_cell sl xs (iN 2 + iN j) H = some (iN (cz sl xs (2 + j))) := cell_ca (by omega) hs
    generalize cz sl xs (2 + j) = z at *
    have eO : iN 1 + (iN z - iN z / iN 60 * iN 60) = iN (1 + (z - z / 60 * 60)) := by simp (disch := omega) only [chk_t, beq_self_eq_true, nm_s, bj1_s, bj2_s, bj3_s, mo_1, mo_0, l_0, l_1, l_2, l_3, l_4, l_5, l_6, l_7, l_8, l_9, l_10, l_11, l_12, l_13, l_14, l_15, l_16, l_17, l_18, l_19, l_20, l_21, l_24, l_30, l_31, l_32, l_36, l_40, l_41, l_42, l_43, l_44, l_45, l_46, l_47, l_48, l_49, l_50, l_51, l_52, l_57, l_58, l_60, l_61, l_64, l_72, l_80, l_92, l_98, l_99, l_100, l_102, l_105, l_111, l_112, l_114, l_115, l_116, l_117, l_120, l_144, l_200, l_201, l_240, l_300, l_320, l_400, l_500, l_512, l_550, l_560, l_649, l_650, l_1000, l_1032, l_1400, l_2000, l_4000, l_10000, l_268435455, iN_add, iN_sub, iN_mul, iN_le_t, iN_le_f, iN_lt_t, iN_lt_f, iN_eq_f, inb_iN, ix_iN, isZ_0, isZ_1, ↓reduceIte, eq_self, iN_div]
    have hO : 1 ≤ 1 + (z - z / 60 * 60) ∧ 1 + (z - z / 60 * 60) ≤ 60 := by omega
    generalize 1 + (z - z / 60 * 60) = o at *
    obtain ⟨A, hA, ccA⟩ := way_c (k := 0) (q := Q) (c := C) (t := o) (G := H) (by omega) (by rw [e71]; exact r1) (cSl_cc hc e71) hX hX4 hQ (by omega) hO
    rw [(hg o).1] at hA
    obtain ⟨A1, eA1⟩ : ∃ A1, A1 = sI A 0 16 (iN (g o)) := ⟨_, rfl⟩
    rw [← eA1] at hA
    have as1 : f_X7_asked A1 = some (iN (g o)) := by rw [eA1, asked_c, sI_eq]
    have S1 : cs V A1 := by rw [eA1]; exact cs_tr hI (cs_cc ccA)
    have f71 : A1.1 71 = V.1 71 := S1.1 71 (by unfold scr; omega)
    obtain ⟨B, hB, ccB⟩ := often_c (k := 0) (q := Q) (c := C) (t := o) (G := A1) (by omega) (by rw [f71]; exact r1) (cSl_cc hc f71) hX hX4 hQ (by omega) hO
    have g2 := hg ((C + 1) / 2)
    rw [(hg o).1, g2.1] at hB
    have go := hg o
    have eS : iN 100 + iN (g o) - iN (g ((C + 1) / 2)) = iN (100 + g o - g ((C + 1) / 2)) := by simp (disch := omega) only [chk_t, beq_self_eq_true, nm_s, bj1_s, bj2_s, bj3_s, mo_1, mo_0, l_0, l_1, l_2, l_3, l_4, l_5, l_6, l_7, l_8, l_9, l_10, l_11, l_12, l_13, l_14, l_15, l_16, l_17, l_18, l_19, l_20, l_21, l_24, l_30, l_31, l_32, l_36, l_40, l_41, l_42, l_43, l_44, l_45, l_46, l_47, l_48, l_49, l_50, l_51, l_52, l_57, l_58, l_60, l_61, l_64, l_72, l_80, l_92, l_98, l_99, l_100, l_102, l_105, l_111, l_112, l_114, l_115, l_116, l_117, l_120, l_144, l_200, l_201, l_240, l_300, l_320, l_400, l_500, l_512, l_550, l_560, l_649, l_650, l_1000, l_1032, l_1400, l_2000, l_4000, l_10000, l_268435455, iN_add, iN_sub, iN_mul, iN_le_t, iN_le_f, iN_lt_t, iN_lt_f, iN_eq_f, inb_iN, ix_iN, isZ_0, isZ_1, ↓reduceIte, eq_self]
    rw [eS] at hB
    obtain ⟨B1, eB1⟩ : ∃ B1, B1 = sI B 0 16 (midM (wayS (iN Q) (iN o) (bgS X) C) - midM (wayS (iN Q) (iN ((C + 1) / 2)) (bgS X) C)) := ⟨_, rfl⟩
    rw [← eB1] at hB
    have S2 : cs V B1 := by rw [eB1]; exact cs_tr S1 (cs_cc ccB)
    have b248 : B1.1 248 0 = iN n := by rw [S2.1 248 (by unfold scr; omega)]; exact n248
    have cr := crust_0 (LF_way (t := o) hX hX4 h3 hQ.2 C (by omega))
    have bo := best o hO.1 (by omega)
    have gt := (hg t).2
    have t1 : ¬ iN pk < iN (g o) := of_eq_false (iN_lt_f (by omega) (by omega))
    have t2 : (if iN (g o) = iN pk then (if iN o < iN t then none else some ()) else some ()) = some () := by
      by_cases c : g o = pk
      · rw [if_pos (by rw [c]), if_neg (of_eq_false (iN_lt_f (by have := bo.2 (by omega); omega) (by omega)))]
      · rw [if_neg (of_eq_false (iN_eq_f c (by omega) (by omega)))]
    have t3 : ¬ iN (100 + g o - g ((C + 1) / 2)) < iN 100 - iN n := by
      rw [iN_sub (by omega)]
      exact of_eq_false (iN_lt_f (by omega) (by omega))
    have t4 : iN (100 + g o - g ((C + 1) / 2)) ≤ iN 100 + iN n := by
      rw [iN_add]
      exact (iN_le (by omega) (by omega)).mpr (by omega)
    have q4 : ¬ iN 4 ≤ iN j := of_eq_false (iN_le_f (by omega) (by omega))
    refine ⟨B1, S2, ?_⟩
    show f_L_ways_l80_17 248 (iN z0) (iN z1) (iN t) (iN pk) sl xs (f + 1) (iN j) H = _
    conv => lhs; unfold f_L_ways_l80_17
    simp only [l_0, l_1, l_2, l_3, l_4, l_5, l_6, l_7, l_8, l_9, l_10, l_11, l_12, l_13, l_14, l_15, l_16, l_17, l_18, l_19, l_20, l_21, l_24, l_30, l_31, l_32, l_36, l_40, l_41, l_42, l_43, l_44, l_45, l_46, l_47, l_48, l_49, l_50, l_51, l_52, l_57, l_58, l_60, l_61, l_64, l_72, l_80, l_92, l_98, l_99, l_100, l_102, l_105, l_111, l_112, l_114, l_115, l_116, l_117, l_120, l_144, l_200, l_201, l_240, l_300, l_320, l_400, l_500, l_512, l_550, l_560, l_649, l_650, l_1000, l_1032, l_1400, l_2000, l_4000, l_10000, l_268435455, x0, i8, chk_t]
    rw [if_neg q4, hcell, bj1_s, eQ, eC, eO, hA, bj2_s, as1, bj1_s, hB, bj2_s, if_neg cr, if_neg t1, t2, bj1_s, b248, if_neg t3, if_pos t4, iN_add]) (by
    intro f H hI
    refine ⟨H, ?_, hI⟩
    show f_L_ways_l80_17 248 (iN z0) (iN z1) (iN t) (iN pk) sl xs (f + 1) (iN 4) H = _
    unfold f_L_ways_l80_17
    simp only [l_0, l_1, l_2, l_3, l_4, l_5, l_6, l_7, l_8, l_9, l_10, l_11, l_12, l_13, l_14, l_15, l_16, l_17, l_18, l_19, l_20, l_21, l_24, l_30, l_31, l_32, l_36, l_40, l_41, l_42, l_43, l_44, l_45, l_46, l_47, l_48, l_49, l_50, l_51, l_52, l_57, l_58, l_60, l_61, l_64, l_72, l_80, l_92, l_98, l_99, l_100, l_102, l_105, l_111, l_112, l_114, l_115, l_116, l_117, l_120, l_144, l_200, l_201, l_240, l_300, l_320, l_400, l_500, l_512, l_550, l_560, l_649, l_650, l_1000, l_1032, l_1400, l_2000, l_4000, l_10000, l_268435455, x0, i8, chk_t]
    rw [if_pos (Int32.le_refl _)]) (by omega) (n := FU) (fu_lt (by omega)) (s := V) cs_refl
  exact ⟨H, hH, iH⟩
theorem ways_ev {sl z0 z1 z6 Q C : Nat} {xs : Nat → Int32} {t pink cr best many cr2 off by_ bath safe hot sm sm2 : Int32} {V A1 A2 A3 A4 A5 A6 A7 A8 A9 A10 A11 A12 : G_} {n : Int32}
  (c0 : f_L_cell sl xs (iN 0) V = some (iN z0)) (c1 : f_L_cell sl xs (iN 1) V = some (iN z1))
  (eQ : iN 10 + (iN z0 - iN z0 / iN 21 * iN 21) = iN Q) (eC : iN 1 + (iN z1 - iN z1 / iN 80 * iN 80) = iN C)
  (h1 : f_X7_turns (iN 0) (iN Q) (iN C) V = some (t, A1)) (a1 : f_X7_asked A1 = some pink)
  (t1 : ¬ t < iN 1) (t2 : ¬ iN 60 < t)
  (h2 : f_X7_way (iN 0) (iN Q) (iN C) t A1 = some (cr, A2)) (t3 : ¬ cr < iN 0) (a2 : f_X7_asked A2 = some pink)
  (h3 : f_L_ways_l80_17 248 (iN z0) (iN z1) t pink sl xs FU (iN 0) A2 = some A3)
  (h4 : f_X7_often (iN 0) (iN Q) (iN C) ((iN C + iN 1) / iN 2) A3 = some (iN 100, A4)) (a4 : f_X7_asked A4 = some (iN 0))
  (h5 : f_X7_most (iN 0) (iN 500) (iN 649) (iN 0) A4 = some (best, A5)) (a5 : f_X7_asked A5 = some many) (t5 : ¬ best < iN 0)
  (h6 : f_X7_way (iN 0) (best / iN 10000) (best / iN 100 - best / iN 100 / iN 100 * iN 100) (best - best / iN 100 * iN 100) A5 = some (cr2, A6)) (t6 : ¬ cr2 < iN 0) (a6 : f_X7_asked A6 = some many)
  (n6 : A6.1 248 0 = n) (t7 : many ≤ n)
  (h7 : f_X7_off (iN 0) (iN Q) (iN 4) (iN 550) A6 = some (off, A7)) (a7 : f_X7_asked A7 = some by_)
  (c6 : f_L_cell sl xs (iN 6) A7 = some (iN z6)) (eB : iN 6 + (iN z6 - iN z6 / iN 4 * iN 4) = bath)
  (h8 : f_X7_safe (iN 0) bath A7 = some (safe, A8)) (h9 : f_X7_safe (iN 0) (bath + iN 1) A8 = some (hot, A9))
  (t8 : ¬ off < iN 1) (t9 : ¬ iN 120 < off) (t10 : ¬ by_ < iN 0)
  (t11 : ¬ safe < iN 0 → ¬ hot < iN 1 ∧ ¬ safe < hot)
  (h10 : f_X7_same (iN 0) (iN 0) (iN Q) (iN 3) (iN 300) (iN 300) A9 = some (sm, A10)) (t12 : ¬ iN 0 < sm)
  (h11 : f_X7_same (iN 0) (iN 0) (iN Q) (iN 3) (iN 300) (iN 400) A10 = some (sm2, A11)) (t13 : ¬ sm2 < -iN 9)
  (h12 : f_X7_rule (iN 0) (iN Q) (iN 3) (iN 0) A11 = some (iN 1, A12)) :
  f_L_ways sl xs 248 V = some (iN 1, A12) := by
  have i8 : inb (iN 0) 8 = true := by decide
  have x0 : ix (iN 0) = 0 := by decide
  have ts : (if safe < iN 0 then some () else (if hot < iN 1 then none else (if safe < hot then none else some ()))) = some () := by
    by_cases c : safe < iN 0
    · rw [if_pos c]
    · rw [if_neg c, if_neg (t11 c).1, if_neg (t11 c).2]
  unfold f_L_ways
  simp only [l_0, l_1, l_2, l_3, l_4, l_5, l_6, l_7, l_8, l_9, l_10, l_11, l_12, l_13, l_14, l_15, l_16, l_17, l_18, l_19, l_20, l_21, l_24, l_30, l_31, l_32, l_36, l_40, l_41, l_42, l_43, l_44, l_45, l_46, l_47, l_48, l_49, l_50, l_51, l_52, l_57, l_58, l_60, l_61, l_64, l_72, l_80, l_92, l_98, l_99, l_100, l_102, l_105, l_111, l_112, l_114, l_115, l_116, l_117, l_120, l_144, l_200, l_201, l_240, l_300, l_320, l_400, l_500, l_512, l_550, l_560, l_649, l_650, l_1000, l_1032, l_1400, l_2000, l_4000, l_10000, l_268435455, x0, i8, chk_t]
  rw [c0, bj1_s, c1, bj1_s, eQ, eC, h1, bj2_s, a1, bj1_s, if_neg t1, if_neg t2, h2, bj2_s, if_neg t3, a2, bj1_s, if_pos rfl, h3, bj1_s, h4, bj2_s, if_pos rfl, a4, bj1_s, if_pos rfl, h5, bj2_s, a5, bj1_s, if_neg t5, h6, bj2_s, if_neg t6, a6, bj1_s, if_pos rfl, n6, if_pos t7, h7, bj2_s, a7, bj1_s, c6, bj1_s, eB, h8, bj2_s, h9, bj2_s, if_neg t8, if_neg t9, if_neg t10, ts, bj1_s, h10, bj2_s, if_neg t12, h11, bj2_s, if_neg t13, h12, bj2_s, if_pos rfl]

theorem ne_m9' {c : Nat} (h : c ≤ 1000000) : iN c ≠ -iN 9 := fun e => by
  have := congrArg Int32.toInt e
  rw [li (by omega), show (-iN 9).toInt = -9 from by decide] at this
  omega
theorem most_at {X : Nat → Int32} {n : Nat} {x y : Int32} (hX : slR X n) (hX4 : X 4 = iN 0) (h3 : 0 ≤ (X 3).toInt ∧ (X 3).toInt ≤ 9) (h : Best (okS X (iN 0)) (soS X (iN 500) (iN 649)) Ful (x, y)) : ∃ q i m, Ful q i m ∧ x = iN (toldN q i m) ∧ y = pinkS (wayS (iN q) (iN (tuN i)) (bgS X) m) := by
  rcases h with ⟨e, h⟩ | ⟨q, i, m, h1, h2, h3', h4, h5, h6⟩
  · exfalso
    refine h 14 0 4 ⟨by omega, by omega, by omega, by omega, by omega, by omega, by omega⟩ ?_
    exact crust_0 (LF_way (t := tuN 0) hX hX4 h3 (by omega : 14 ≤ 30) 4 (by omega))
  · have e1 := congrArg Prod.fst h5
    have e2 := congrArg Prod.snd h5
    exact ⟨q, i, m, h1, e1, e2.trans (soS_N hX.1 (iN 500) (iN 649) q i m).1.symm⟩
theorem ways_c {sl m n : Nat} {xs : Nat → Int32} {f : Nat → Nat} {s : Nat → Nat × Nat × Nat} {V : G_} (hs : sl ≤ 260) (hf : slOK f) (en : n = f 0) (hV : LC f m s V) : ∃ H, f_L_ways sl xs 248 V = some (iN 1, H) ∧ cs V H := by
  obtain ⟨X, eX⟩ : ∃ X, X = px f 0 s := ⟨_, rfl⟩
  have sl0 := SL_px (m' := 0) (s' := s) hV.sl
  rw [← eX, ← en] at sl0
  obtain ⟨r1, hc, hX⟩ := sl0
  have r1 : V.1 71 0 = iN 1 := r1
  have hc : cSl 71 X V := hc
  have hX4 : X 4 = iN 0 := by rw [eX]; exact px_4
  have f3 := hf.2.2.2.2
  have f1 := hf.2.2.1
  have bn := hX.1.2
  have h3 : 0 ≤ (X 3).toInt ∧ (X 3).toInt ≤ 9 := by
    rw [eX, px_lo (by omega), li (by omega)]
    omega
  have h1 : 10 * (X 1).toInt ≤ 1000 := by
    rw [eX, px_lo (by omega), li (by omega)]
    omega
  have n248 : V.1 248 0 = iN n := by rw [en]; exact hV.rw_.1 0 (by omega)
  have k71 : ∀ H, cs V H → H.1 71 0 = iN 1 ∧ cSl 71 X H := fun H h => by
    have e : H.1 71 = V.1 71 := h.1 71 (by unfold scr; omega)
    exact ⟨by rw [e]; exact r1, cSl_cc hc e⟩
  have zb0 := @cz_lt sl xs 0 (by omega)
  have zb1 := @cz_lt sl xs 1 (by omega)
  have zb6 := @cz_lt sl xs 6 (by omega)
  have c0 : f_L_cell sl xs (iN 0) V = some (iN (cz sl xs 0)) := cell_c (by omega) hs
  have c1 : f_L_cell sl xs (iN 1) V = some (iN (cz sl xs 1)) := cell_c (by omega) hs
  have c6 : ∀ G, f_L_cell sl xs (iN 6) G = some (iN (cz sl xs 6)) := fun G => cell_c (by omega) hs
  generalize cz sl xs 0 = z0 at *
  generalize cz sl xs 1 = z1 at *
  generalize cz sl xs 6 = z6 at *
  obtain ⟨Q, dQ⟩ : ∃ Q, Q = 10 + (z0 - z0 / 21 * 21) := ⟨_, rfl⟩
  obtain ⟨C, dC⟩ : ∃ C, C = 1 + (z1 - z1 / 80 * 80) := ⟨_, rfl⟩
  obtain ⟨bb, dB⟩ : ∃ bb, bb = 6 + (z6 - z6 / 4 * 4) := ⟨_, rfl⟩
  have eQ : iN 10 + (iN z0 - iN z0 / iN 21 * iN 21) = iN Q := by rw [dQ]; simp (disch := omega) only [chk_t, beq_self_eq_true, nm_s, bj1_s, bj2_s, bj3_s, mo_1, mo_0, l_0, l_1, l_2, l_3, l_4, l_5, l_6, l_7, l_8, l_9, l_10, l_11, l_12, l_13, l_14, l_15, l_16, l_17, l_18, l_19, l_20, l_21, l_24, l_30, l_31, l_32, l_36, l_40, l_41, l_42, l_43, l_44, l_45, l_46, l_47, l_48, l_49, l_50, l_51, l_52, l_57, l_58, l_60, l_61, l_64, l_72, l_80, l_92, l_98, l_99, l_100, l_102, l_105, l_111, l_112, l_114, l_115, l_116, l_117, l_120, l_144, l_200, l_201, l_240, l_300, l_320, l_400, l_500, l_512, l_550, l_560, l_649, l_650, l_1000, l_1032, l_1400, l_2000, l_4000, l_10000, l_268435455, iN_add, iN_sub, iN_mul, iN_le_t, iN_le_f, iN_lt_t, iN_lt_f, iN_eq_f, inb_iN, ix_iN, isZ_0, isZ_1, ↓reduceIte, eq_self, iN_div]
  have eC : iN 1 + (iN z1 - iN z1 / iN 80 * iN 80) = iN C := by rw [dC]; simp (disch := omega) only [chk_t, beq_self_eq_true, nm_s, bj1_s, bj2_s, bj3_s, mo_1, mo_0, l_0, l_1, l_2, l_3, l_4, l_5, l_6, l_7, l_8, l_9, l_10, l_11, l_12, l_13, l_14, l_15, l_16, l_17, l_18, l_19, l_20, l_21, l_24, l_30, l_31, l_32, l_36, l_40, l_41, l_42, l_43, l_44, l_45, l_46, l_47, l_48, l_49, l_50, l_51, l_52, l_57, l_58, l_60, l_61, l_64, l_72, l_80, l_92, l_98, l_99, l_100, l_102, l_105, l_111, l_112, l_114, l_115, l_116, l_117, l_120, l_144, l_200, l_201, l_240, l_300, l_320, l_400, l_500, l_512, l_550, l_560, l_649, l_650, l_1000, l_1032, l_1400, l_2000, l_4000, l_10000, l_268435455, iN_add, iN_sub, iN_mul, iN_le_t, iN_le_f, iN_lt_t, iN_lt_f, iN_eq_f, inb_iN, ix_iN, isZ_0, isZ_1, ↓reduceIte, eq_self, iN_div]
  have eB : iN 6 + (iN z6 - iN z6 / iN 4 * iN 4) = iN bb := by rw [dB]; simp (disch := omega) only [chk_t, beq_self_eq_true, nm_s, bj1_s, bj2_s, bj3_s, mo_1, mo_0, l_0, l_1, l_2, l_3, l_4, l_5, l_6, l_7, l_8, l_9, l_10, l_11, l_12, l_13, l_14, l_15, l_16, l_17, l_18, l_19, l_20, l_21, l_24, l_30, l_31, l_32, l_36, l_40, l_41, l_42, l_43, l_44, l_45, l_46, l_47, l_48, l_49, l_50, l_51, l_52, l_57, l_58, l_60, l_61, l_64, l_72, l_80, l_92, l_98, l_99, l_100, l_102, l_105, l_111, l_112, l_114, l_115, l_116, l_117, l_120, l_144, l_200, l_201, l_240, l_300, l_320, l_400, l_500, l_512, l_550, l_560, l_649, l_650, l_1000, l_1032, l_1400, l_2000, l_4000, l_10000, l_268435455, iN_add, iN_sub, iN_mul, iN_le_t, iN_le_f, iN_lt_t, iN_lt_f, iN_eq_f, inb_iN, ix_iN, isZ_0, isZ_1, ↓reduceIte, eq_self, iN_div]
  have hQ : 10 ≤ Q ∧ Q ≤ 30 := by omega
  have hC : 1 ≤ C ∧ C ≤ 80 := by omega
  have hB : 6 ≤ bb ∧ bb ≤ 9 := by omega
  clear dQ dC dB
  obtain ⟨g, eg⟩ : ∃ g : Nat → Nat, g = fun o => ix (pinkS (wayS (iN Q) (iN o) (bgS X) C)) := ⟨_, rfl⟩
  have hg : ∀ o, pinkS (wayS (iN Q) (iN o) (bgS X) C) = iN (g o) ∧ g o ≤ n := fun o => by
    obtain ⟨k, hk, ek⟩ := pink_n (okN_way (k := C) (q := iN Q) (t := iN o) (okN_bg hX.1)) (iN 500) (iN 649)
    have ek : pinkS (wayS (iN Q) (iN o) (bgS X) C) = iN k := ek
    rw [eg]
    show pinkS (wayS (iN Q) (iN o) (bgS X) C) = iN (ix (pinkS (wayS (iN Q) (iN o) (bgS X) C))) ∧ ix (pinkS (wayS (iN Q) (iN o) (bgS X) C)) ≤ n
    rw [ek, ix_iN (by omega)]
    exact ⟨rfl, hk⟩
  -- turns
  obtain ⟨t, t0, t61, et, best⟩ := mxA_max (F := fun o => pinkS (wayS (iN Q) (iN o) (bgS X) C)) (g := g) (a := 1) (x0 := iN 0) (fun o => (hg o).1) (fun o => by have := (hg o).2; omega) 61 (by omega)
  have gt := hg t
  obtain ⟨B1, hB1, cc1⟩ := turns_c (k := 0) (q := Q) (c := C) (G := V) (by omega) r1 hc hX hX4 hQ (by omega)
  rw [et] at hB1
  obtain ⟨A1, eA1⟩ : ∃ A1, A1 = sI B1 0 16 (iN (g t)) := ⟨_, rfl⟩
  have hA1 : f_X7_turns (iN 0) (iN Q) (iN C) V = some (iN t, A1) := by rw [eA1]; exact hB1
  have as1 : f_X7_asked A1 = some (iN (g t)) := by rw [eA1, asked_c, sI_eq]
  have S1 : cs V A1 := by rw [eA1]; exact cs_cc cc1
  -- that way
  obtain ⟨B2, hB2, cc2⟩ := way_c (k := 0) (q := Q) (c := C) (t := t) (G := A1) (by omega) (k71 A1 S1).1 (k71 A1 S1).2 hX hX4 hQ (by omega) (by omega)
  rw [gt.1] at hB2
  obtain ⟨A2, eA2⟩ : ∃ A2, A2 = sI B2 0 16 (iN (g t)) := ⟨_, rfl⟩
  rw [← eA2] at hB2
  have as2 : f_X7_asked A2 = some (iN (g t)) := by rw [eA2, asked_c, sI_eq]
  have S2 : cs V A2 := by rw [eA2]; exact cs_tr S1 (cs_cc cc2)
  have cr := crust_0 (LF_way (t := t) hX hX4 h3 hQ.2 C (by omega))
  -- the others
  obtain ⟨A3, hA3, cs3⟩ := l80_c (xs := xs) (V := A2) hs (k71 A2 S2).1 (k71 A2 S2).2 hX hX4 h3 (by rw [S2.1 248 (by unfold scr; omega)]; exact n248) eQ hQ eC hC hg t61 rfl best
  have S3 := cs_tr S2 cs3
  -- one turn halfway
  have ed : (iN C + iN 1) / iN 2 = iN ((C + 1) / 2) := by rw [iN_add, iN_div (by omega) (by omega) (by omega)]
  obtain ⟨B4, hB4, cc4⟩ := often_c (k := 0) (q := Q) (c := C) (t := (C + 1) / 2) (G := A3) (by omega) (k71 A3 S3).1 (k71 A3 S3).2 hX hX4 hQ (by omega) (by omega)
  have gh := hg ((C + 1) / 2)
  rw [gh.1, show iN 100 + iN (g ((C + 1) / 2)) - iN (g ((C + 1) / 2)) = iN 100 by rw [iN_add, iN_sub (by omega), Nat.add_sub_cancel], Int32.sub_self] at hB4
  obtain ⟨A4, eA4⟩ : ∃ A4, A4 = sI B4 0 16 0 := ⟨_, rfl⟩
  rw [← eA4, ← ed] at hB4
  have as4 : f_X7_asked A4 = some (iN 0) := by rw [eA4, asked_c, sI_eq]; rfl
  have S4 : cs V A4 := by rw [eA4]; exact cs_tr S3 (cs_cc cc4)
  -- the best way
  obtain ⟨x, y, B5, hB5, be, cc5⟩ := most_c (k := 0) (G := A4) (iN 500) (iN 649) (iN 0) (isSpan_1 (by omega) (by omega)) (in_1 (by omega) (by omega)) (by omega) (k71 A4 S4).1 (k71 A4 S4).2 hX hX4
  obtain ⟨q', i', m', hF, ex, ey⟩ := most_at hX hX4 h3 be
  obtain ⟨u1, u2, u3, u4, u5, u6, u7⟩ := hF
  have tu := tuN_r i'
  have tl : toldN q' i' m' = 10000 * q' + 100 * m' + tuN i' := rfl
  have e1 : toldN q' i' m' / 10000 = q' := by omega
  have e2 : toldN q' i' m' / 100 - toldN q' i' m' / 100 / 100 * 100 = m' := by omega
  have e3 : toldN q' i' m' - toldN q' i' m' / 100 * 100 = tuN i' := by omega
  have bt : toldN q' i' m' ≤ 400000 := by omega
  have d1 : iN (toldN q' i' m') / iN 10000 = iN q' := by rw [iN_div (by omega) (by omega) (by omega), e1]
  have d2 : iN (toldN q' i' m') / iN 100 - iN (toldN q' i' m') / iN 100 / iN 100 * iN 100 = iN m' := by
    rw [iN_div (by omega) (by omega) (by omega), iN_div (by omega) (by omega) (by omega), iN_mul, iN_sub (by omega), e2]
  have d3 : iN (toldN q' i' m') - iN (toldN q' i' m') / iN 100 * iN 100 = iN (tuN i') := by
    rw [iN_div (by omega) (by omega) (by omega), iN_mul, iN_sub (by omega), e3]
  obtain ⟨k5, b5, ek5⟩ := pink_n (okN_way (k := m') (q := iN q') (t := iN (tuN i')) (okN_bg hX.1)) (iN 500) (iN 649)
  have ek5 : pinkS (wayS (iN q') (iN (tuN i')) (bgS X) m') = iN k5 := ek5
  have nx : ¬ x = -iN 9 := by rw [ex]; exact ne_m9' (by omega)
  rw [if_neg nx, ex, ey, ek5] at hB5
  obtain ⟨A5, eA5⟩ : ∃ A5, A5 = sI B5 0 16 (iN k5) := ⟨_, rfl⟩
  rw [← eA5] at hB5
  have as5 : f_X7_asked A5 = some (iN k5) := by rw [eA5, asked_c, sI_eq]
  have S5 : cs V A5 := by rw [eA5]; exact cs_tr S4 (cs_cc cc5)
  obtain ⟨B6, hB6, cc6⟩ := way_c (k := 0) (q := q') (c := m') (t := tuN i') (G := A5) (by omega) (k71 A5 S5).1 (k71 A5 S5).2 hX hX4 (by omega) (by omega) (by omega)
  rw [ek5] at hB6
  obtain ⟨A6, eA6⟩ : ∃ A6, A6 = sI B6 0 16 (iN k5) := ⟨_, rfl⟩
  rw [← eA6] at hB6
  have hB6 : f_X7_way (iN 0) (iN (toldN q' i' m') / iN 10000) (iN (toldN q' i' m') / iN 100 - iN (toldN q' i' m') / iN 100 / iN 100 * iN 100) (iN (toldN q' i' m') - iN (toldN q' i' m') / iN 100 * iN 100) A5 = some (crustS (wayS (iN q') (iN (tuN i')) (bgS X) m'), A6) := by rw [d1, d2, d3]; exact hB6
  have as6 : f_X7_asked A6 = some (iN k5) := by rw [eA6, asked_c, sI_eq]
  have S6 : cs V A6 := by rw [eA6]; exact cs_tr S5 (cs_cc cc6)
  have cr6 := crust_0 (LF_way (t := tuN i') hX hX4 h3 (by omega : q' ≤ 30) m' (by omega))
  -- off
  obtain ⟨B7, hB7, cc7⟩ := off_c (k := 0) (q := Q) (t := 4) (w := 550) (G := A6) (by omega) (k71 A6 S6).1 (k71 A6 S6).2 hX hX4 hQ (by omega) (by omega) (S6.2 hV.z17)
  obtain ⟨t7, a7, b7, e7⟩ := fiA_at (F := offS (iN Q) (iN 4) (iN 550) X) (s0 := (-iN 9, iN 0)) 119
  have e7 : fiA (offS (iN Q) (iN 4) (iN 550) X) (-iN 9, iN 0) 121 = (iN t7, offS (iN Q) (iN 4) (iN 550) X t7) := e7
  rw [e7] at hB7
  dsimp only at hB7
  obtain ⟨A7, eA7⟩ : ∃ A7, A7 = sI B7 0 16 (offS (iN Q) (iN 4) (iN 550) X t7) := ⟨_, rfl⟩
  rw [← eA7] at hB7
  have as7 : f_X7_asked A7 = some (offS (iN Q) (iN 4) (iN 550) X t7) := by rw [eA7, asked_c, sI_eq]
  have S7 : cs V A7 := by rw [eA7]; exact cs_tr S6 (cs_cc cc7)
  have of0 : ¬ offS (iN Q) (iN 4) (iN 550) X t7 < iN 0 := fun z => by
    have z := t_lt.mp z
    have gr := grS_R (wf_way (k := t7) (t := iN 4) (wf_bg hX (mD_0 hX4)) (qR_N hQ.2)) 30
    rw [li (by omega)] at z
    unfold offS at z
    split at z
    · next c =>
      have c := t_lt.mp c
      rw [li (by omega)] at c
      rw [t_sub (by rw [li (by omega)]; omega) (by rw [li (by omega)]; omega), li (by omega)] at z
      omega
    · next c =>
      have c : ¬ (grS (wayS (iN Q) (iN 4) (bgS X) t7) 30).toInt < (iN 550).toInt := fun e => c (t_lt.mpr e)
      rw [li (by omega)] at c
      rw [t_sub (by rw [li (by omega)]; omega) (by rw [li (by omega)]; omega), li (by omega)] at z
      omega
  -- safe
  have sf : ∀ (q : Nat) (G : G_), cs V G → 2 ≤ q → q ≤ 30 → ∃ H, f_X7_safe (iN 0) (iN q) G = some (saZ q X, H) ∧ cs V H ∧ (saZ q X = -iN 9 ∨ ∃ j, 1 ≤ j ∧ j ≤ 200 ∧ saZ q X = iN j) := fun q G hG q1 q2 => by
    obtain ⟨A, ⟨x1, x2, x3⟩ | ⟨y, x1, x2, x3⟩⟩ := safe_c (k := 0) (q := q) (G := G) (by omega) (k71 G hG).1 (k71 G hG).2 hX hX4 ⟨q1, q2⟩
    · exact ⟨A, x1, cs_tr hG (cs_c0 x2), Or.inl x3⟩
    · exact ⟨_, x1, cs_tr hG (cs_cc x2), Or.inr x3⟩
  obtain ⟨A8, hA8, S8, r8⟩ := sf bb A7 S7 (by omega) (by omega)
  obtain ⟨A9, hA9, S9, r9⟩ := sf (bb + 1) A8 S8 (by omega) (by omega)
  rw [← iN_add] at hA9
  have t11 : ¬ saZ bb X < iN 0 → ¬ saZ (bb + 1) X < iN 1 ∧ ¬ saZ bb X < saZ (bb + 1) X := fun c => by
    rcases r8 with e | ⟨j, j1, j2, ej⟩
    · exact absurd (by rw [e]; decide) c
    · obtain ⟨i, i1, i2, ei⟩ := safe_mono hX hX4 h1 (by omega : 2 ≤ bb ∧ bb ≤ 9) j2 ej
      rw [ei, ej]
      exact ⟨of_eq_false (iN_lt_f (by omega) (by omega)), of_eq_false (iN_lt_f (by omega) (by omega))⟩
  -- same
  have sm : ∀ (u : Nat) (G : G_), u ≤ 2000 → cs V G → ∃ x H, f_X7_same (iN 0) (iN 0) (iN Q) (iN 3) (iN 300) (iN u) G = some (x, H) ∧ cs V H ∧ ¬ x < -iN 9 ∧ (u = 300 → ¬ iN 0 < x) := fun u G hu hG => by
    obtain ⟨A, ⟨x1, x2⟩ | ⟨i, j, y, i2, j2, ei, ej, x1, x2⟩⟩ := same_c (k := 0) (q := Q) (t := 3) (v := 300) (u := u) (G := G) (by omega) (k71 G hG).1 (k71 G hG).2 hX hX4 hQ (by omega) (by omega) hu
    · exact ⟨-iN 9, A, x1, cs_tr hG (cs_c0 x2), by decide, fun _ => by decide⟩
    · refine ⟨_, _, x1, cs_tr hG (cs_cc x2), ?_, fun e => ?_⟩
      · rw [ab_far (by rw [li (by omega)]; omega) (by rw [li (by omega)]; omega)]
        split
        · next c =>
          have c := (iN_lt (by omega) (by omega)).mp c
          rw [iN_sub (by omega)]
          intro z
          have z := t_lt.mp z
          rw [li (by omega), show (-iN 9).toInt = -9 from by decide] at z
          omega
        · next c =>
          have c : ¬ i < j := fun e => c ((iN_lt (by omega) (by omega)).mpr e)
          rw [iN_sub (by omega)]
          intro z
          have z := t_lt.mp z
          rw [li (by omega), show (-iN 9).toInt = -9 from by decide] at z
          omega
      · subst e
        have e := (iN_inj (by omega) (by omega)).mp (ei.symm.trans ej)
        subst e
        rw [Int32.sub_self]
        decide
  obtain ⟨x10, A10, hA10, S10, -, y10⟩ := sm 300 A9 (by omega) S9
  obtain ⟨x11, A11, hA11, S11, y11, -⟩ := sm 400 A10 (by omega) S10
  -- rule
  obtain ⟨B12, hB12, cc12⟩ := rule_c (k := 0) (q := Q) (t := 3) (v := 0) (G := A11) (by omega) (k71 A11 S11).1 (k71 A11 S11).2 hX hX4 hQ (by omega) (by omega)
  rw [rule_one hX hX4 h3 hQ.2] at hB12
  have q1 : ¬ iN t < iN 1 := of_eq_false (iN_lt_f (by omega) (by omega))
  have q2 : ¬ iN 60 < iN t := of_eq_false (iN_lt_f (by omega) (by omega))
  have q3 : ¬ iN (toldN q' i' m') < iN 0 := of_eq_false (iN_lt_f (by omega) (by omega))
  have q4 : ¬ iN t7 < iN 1 := of_eq_false (iN_lt_f (by omega) (by omega))
  have q5 : ¬ iN 120 < iN t7 := of_eq_false (iN_lt_f (by omega) (by omega))
  have q6 : iN k5 ≤ iN n := (iN_le (by omega) (by omega)).mpr b5
  have q7 : A6.1 248 0 = iN n := by rw [S6.1 248 (by unfold scr; omega)]; exact n248
  refine ⟨_, ways_ev c0 c1 eQ eC hA1 as1 q1 q2 hB2 cr as2 hA3 hB4 as4 hB5 as5 q3 hB6 cr6 as6 q7 q6 hB7 as7 (c6 A7) eB hA8 hA9 q4 q5 of0 t11 hA10 (y10 rfl) hA11 y11 hB12, cs_tr S11 (cs_cc cc12)⟩

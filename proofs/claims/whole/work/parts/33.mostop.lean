/-! most: the loops -/
def Ful (q i n : Nat) : Prop := q % 2 = 0 ∧ 14 ≤ q ∧ q ≤ 30 ∧ i < 5 ∧ n % 4 = 0 ∧ 4 ≤ n ∧ n ≤ 80
def PC (k i n : Nat) (q' i' n' : Nat) : Prop := Ful q' i' n' ∧ (q' < 14 + 2 * k ∨ (q' = 14 + 2 * k ∧ (i' < i ∨ (i' = i ∧ n' ≤ n))))
def PM (k m i : Nat) (q' i' n' : Nat) : Prop := Ful q' i' n' ∧ (q' < 14 + 2 * k ∨ (q' = 14 + 2 * k ∧ (n' < 4 + 4 * m ∨ (n' = 4 + 4 * m ∧ i' < i))))
def dishS (X : Nat → Int32) (q i n : Nat) : Nat → Int32 := wayS (iN q) (iN (tuN i)) (bgS X) n
def okS (X : Nat → Int32) (v : Int32) (q i n : Nat) : Prop := ¬ crustS (dishS X q i n) < v
def soS (X : Nat → Int32) (a b : Int32) (q i n : Nat) : Nat := ix (justS a b (dishS X q i n))
theorem soS_N {X : Nat → Int32} {n0 : Nat} (hs : okN X n0) (a b : Int32) (q i n : Nat) : justS a b (dishS X q i n) = iN (soS X a b q i n) ∧ soS X a b q i n ≤ 20 := by
  obtain ⟨z, h1, h2⟩ := just_N a b (okN_way (k := n) (q := iN q) (t := iN (tuN i)) (okN_bg hs))
  have h2 : justS a b (dishS X q i n) = iN z := h2
  unfold soS
  rw [h2, ix_iN (by omega)]
  exact ⟨rfl, h1⟩
theorem toldN_lt {q i n q' i' n' : Nat} (h : Ful q i n) (h' : Ful q' i' n') (hl : q < q' ∨ (q = q' ∧ (n < n' ∨ (n = n' ∧ i < i')))) : toldN q i n < toldN q' i' n' := by
  have a := tuN_r i
  have b := tuN_r i'
  obtain ⟨h1, h2, h3, h4, h5, h6, h7⟩ := h
  obtain ⟨g1, g2, g3, g4, g5, g6, g7⟩ := h'
  unfold toldN
  rcases hl with hl | ⟨rfl, hl | ⟨rfl, hl⟩⟩
  · omega
  · omega
  · have := tuN_lt hl g4
    omega
theorem op_most (a1 a2 a3 a4 : Int32) {G : G_} (h : RR G) : pOK (f_X7_most a1 a2 a3 a4) (f_X8_most a1 a2 a3 a4) G := by
  rcases slab_cases a1 G with ⟨e1, c1⟩ | ⟨k, hk, rfl, e1, c1, ho⟩
  · refine pOK_same (x := -iN 1) h (by unfold f_X7_most; rw [c1, bj1_s]; rfl) ?_
    rcases span_N a2 a3 with ⟨_, w8⟩ | ⟨_, w8, -⟩ <;> rcases in_NN 0 99 a4 with ⟨_, v8⟩ | ⟨_, v8, -⟩ <;> (unfold f_X8_most; simp (disch := omega) only [chk_t, beq_self_eq_true, nm_s, bj1_s, bj2_s, bj3_s, mo_1, mo_0, l_0, l_1, l_2, l_3, l_4, l_5, l_6, l_7, l_8, l_9, l_10, l_11, l_12, l_13, l_14, l_15, l_16, l_17, l_18, l_19, l_20, l_21, l_30, l_31, l_32, l_36, l_40, l_41, l_42, l_43, l_44, l_45, l_46, l_47, l_48, l_49, l_50, l_51, l_52, l_57, l_58, l_60, l_64, l_72, l_80, l_92, l_98, l_99, l_100, l_102, l_105, l_111, l_112, l_114, l_115, l_116, l_117, l_120, l_144, l_200, l_201, l_240, l_300, l_320, l_400, l_500, l_550, l_560, l_649, l_650, l_1000, l_1400, l_2000, l_4000, l_10000, iN_add, iN_sub, iN_mul, iN_le_t, iN_le_f, iN_lt_t, iN_lt_f, iN_eq_f, inb_iN, ix_iN, isZ_0, isZ_1, ↓reduceIte, eq_self, w8, v8, ns_bad2 e1, le_m1])
  · rcases span_N a2 a3 with ⟨w7, w8⟩ | ⟨w7, w8, -⟩
    · refine pOK_same (x := -iN 1) h ?_ ?_
      · unfold f_X7_most
        simp (disch := omega) only [chk_t, beq_self_eq_true, nm_s, bj1_s, bj2_s, bj3_s, mo_1, mo_0, l_0, l_1, l_2, l_3, l_4, l_5, l_6, l_7, l_8, l_9, l_10, l_11, l_12, l_13, l_14, l_15, l_16, l_17, l_18, l_19, l_20, l_21, l_30, l_31, l_32, l_36, l_40, l_41, l_42, l_43, l_44, l_45, l_46, l_47, l_48, l_49, l_50, l_51, l_52, l_57, l_58, l_60, l_64, l_72, l_80, l_92, l_98, l_99, l_100, l_102, l_105, l_111, l_112, l_114, l_115, l_116, l_117, l_120, l_144, l_200, l_201, l_240, l_300, l_320, l_400, l_500, l_550, l_560, l_649, l_650, l_1000, l_1400, l_2000, l_4000, l_10000, iN_add, iN_sub, iN_mul, iN_le_t, iN_le_f, iN_lt_t, iN_lt_f, iN_eq_f, inb_iN, ix_iN, isZ_0, isZ_1, ↓reduceIte, eq_self, c1, kd_b ho, w7]
      · unfold f_X8_most
        simp (disch := omega) only [chk_t, beq_self_eq_true, nm_s, bj1_s, bj2_s, bj3_s, mo_1, mo_0, l_0, l_1, l_2, l_3, l_4, l_5, l_6, l_7, l_8, l_9, l_10, l_11, l_12, l_13, l_14, l_15, l_16, l_17, l_18, l_19, l_20, l_21, l_30, l_31, l_32, l_36, l_40, l_41, l_42, l_43, l_44, l_45, l_46, l_47, l_48, l_49, l_50, l_51, l_52, l_57, l_58, l_60, l_64, l_72, l_80, l_92, l_98, l_99, l_100, l_102, l_105, l_111, l_112, l_114, l_115, l_116, l_117, l_120, l_144, l_200, l_201, l_240, l_300, l_320, l_400, l_500, l_550, l_560, l_649, l_650, l_1000, l_1400, l_2000, l_4000, l_10000, iN_add, iN_sub, iN_mul, iN_le_t, iN_le_f, iN_lt_t, iN_lt_f, iN_eq_f, inb_iN, ix_iN, isZ_0, isZ_1, ↓reduceIte, eq_self, w8, ns_bad1, le_m1]
    · rcases in_NN 0 99 a4 with ⟨v7, v8⟩ | ⟨v7, v8, -⟩
      · refine pOK_same (x := -iN 1) h ?_ ?_
        · unfold f_X7_most
          simp (disch := omega) only [chk_t, beq_self_eq_true, nm_s, bj1_s, bj2_s, bj3_s, mo_1, mo_0, l_0, l_1, l_2, l_3, l_4, l_5, l_6, l_7, l_8, l_9, l_10, l_11, l_12, l_13, l_14, l_15, l_16, l_17, l_18, l_19, l_20, l_21, l_30, l_31, l_32, l_36, l_40, l_41, l_42, l_43, l_44, l_45, l_46, l_47, l_48, l_49, l_50, l_51, l_52, l_57, l_58, l_60, l_64, l_72, l_80, l_92, l_98, l_99, l_100, l_102, l_105, l_111, l_112, l_114, l_115, l_116, l_117, l_120, l_144, l_200, l_201, l_240, l_300, l_320, l_400, l_500, l_550, l_560, l_649, l_650, l_1000, l_1400, l_2000, l_4000, l_10000, iN_add, iN_sub, iN_mul, iN_le_t, iN_le_f, iN_lt_t, iN_lt_f, iN_eq_f, inb_iN, ix_iN, isZ_0, isZ_1, ↓reduceIte, eq_self, c1, kd_b ho, w7, v7]
        · unfold f_X8_most
          simp (disch := omega) only [chk_t, beq_self_eq_true, nm_s, bj1_s, bj2_s, bj3_s, mo_1, mo_0, l_0, l_1, l_2, l_3, l_4, l_5, l_6, l_7, l_8, l_9, l_10, l_11, l_12, l_13, l_14, l_15, l_16, l_17, l_18, l_19, l_20, l_21, l_30, l_31, l_32, l_36, l_40, l_41, l_42, l_43, l_44, l_45, l_46, l_47, l_48, l_49, l_50, l_51, l_52, l_57, l_58, l_60, l_64, l_72, l_80, l_92, l_98, l_99, l_100, l_102, l_105, l_111, l_112, l_114, l_115, l_116, l_117, l_120, l_144, l_200, l_201, l_240, l_300, l_320, l_400, l_500, l_550, l_560, l_649, l_650, l_1000, l_1400, l_2000, l_4000, l_10000, iN_add, iN_sub, iN_mul, iN_le_t, iN_le_f, iN_lt_t, iN_lt_f, iN_eq_f, inb_iN, ix_iN, isZ_0, isZ_1, ↓reduceIte, eq_self, w8, v8, ns_bad1, le_m1]
      · obtain ⟨r1, r2, r3⟩ := h.1.2.2.1 k hk
        rcases r2 with r2 | ⟨r2, n0, hsl⟩
        · refine pOK_found (f := 1) (by omega) h ?_ ?_
          · unfold f_X7_most
            simp (disch := omega) only [chk_t, beq_self_eq_true, nm_s, bj1_s, bj2_s, bj3_s, mo_1, mo_0, l_0, l_1, l_2, l_3, l_4, l_5, l_6, l_7, l_8, l_9, l_10, l_11, l_12, l_13, l_14, l_15, l_16, l_17, l_18, l_19, l_20, l_21, l_30, l_31, l_32, l_36, l_40, l_41, l_42, l_43, l_44, l_45, l_46, l_47, l_48, l_49, l_50, l_51, l_52, l_57, l_58, l_60, l_64, l_72, l_80, l_92, l_98, l_99, l_100, l_102, l_105, l_111, l_112, l_114, l_115, l_116, l_117, l_120, l_144, l_200, l_201, l_240, l_300, l_320, l_400, l_500, l_550, l_560, l_649, l_650, l_1000, l_1400, l_2000, l_4000, l_10000, iN_add, iN_sub, iN_mul, iN_le_t, iN_le_f, iN_lt_t, iN_lt_f, iN_eq_f, inb_iN, ix_iN, isZ_0, isZ_1, ↓reduceIte, eq_self, c1, kd_b ho, w7, v7, r1, r2, found_ok]
          · unfold f_X8_most
            simp (disch := omega) only [chk_t, beq_self_eq_true, nm_s, bj1_s, bj2_s, bj3_s, mo_1, mo_0, l_0, l_1, l_2, l_3, l_4, l_5, l_6, l_7, l_8, l_9, l_10, l_11, l_12, l_13, l_14, l_15, l_16, l_17, l_18, l_19, l_20, l_21, l_30, l_31, l_32, l_36, l_40, l_41, l_42, l_43, l_44, l_45, l_46, l_47, l_48, l_49, l_50, l_51, l_52, l_57, l_58, l_60, l_64, l_72, l_80, l_92, l_98, l_99, l_100, l_102, l_105, l_111, l_112, l_114, l_115, l_116, l_117, l_120, l_144, l_200, l_201, l_240, l_300, l_320, l_400, l_500, l_550, l_560, l_649, l_650, l_1000, l_1400, l_2000, l_4000, l_10000, iN_add, iN_sub, iN_mul, iN_le_t, iN_le_f, iN_lt_t, iN_lt_f, iN_eq_f, inb_iN, ix_iN, isZ_0, isZ_1, ↓reduceIte, eq_self, w8, v8, ns_miss hk (show (fndC 1 G).1 131 k = iN 0 by rw [fndC_o (by omega) (by omega)]; exact r2), le_m3]
        · have hX := nx_sl hsl
          have hc := nx_c (G := G) r3
          have hX4 : newX k G 4 = iN 0 := nx_4
          have hNew := fun A => nx_new (k := k) (G := G) (A := A) hk
          generalize newX k G = X at *
          have wf0 := wf_bg hX (by unfold mD; rw [hX4]; decide)
          have hs1 : G.1 (71 + k) 1 = iN n0 := hc.1.trans hX.1.1
          have hs3 : G.1 (71 + k) 3 = X 2 := hc.2.2.1
          have wD : ∀ q i n, q ≤ 30 → wfD (dishS X q i n) n0 := fun q i n hq => wf_way wf0 (qR_N hq)
          have hso := soS_N hX.1 a2 a3
          have ht : ∀ i, 1 ≤ (iN (tuN i)).toInt := fun i => by have := tuN_r i; rw [li (by omega)]; omega
          -- the class
          have lIn : ∀ (kq i : Nat), kq < 9 → i < 5 → ∀ (x y : Int32) (H : G_), Best (okS X a4) (soS X a2 a3) (PC kq i 0) (x, y) → cD 17 (dishS X (14 + 2 * kq) i 0) H → cc G H → ∃ r, f_X7_most_l107_26 a2 a3 a4 (71 + k) (iN (14 + 2 * kq)) (iN i) FU x y (iN 1) H = some r ∧ Best (okS X a4) (soS X a2 a3) (PC kq i 80) (r.1, r.2.1) ∧ cc G r.2.2 := by
            intro kq i hkq hi x y H hB hcD hcc
            have tu := sTU_N hi
            have tr := tuN_r i
            refine loop_h (fun f v (s : Int32 × Int32 × G_) => f_X7_most_l107_26 a2 a3 a4 (71 + k) (iN (14 + 2 * kq)) (iN i) f s.1 s.2.1 v s.2.2) (fun j s => Best (okS X a4) (soS X a2 a3) (PC kq i (j - 1)) (s.1, s.2.1) ∧ cD 17 (dishS X (14 + 2 * kq) i (j - 1)) s.2.2 ∧ cc G s.2.2) _ 1 81 ?_ ?_ (by omega) (n := FU) (fu_lt (by omega)) (s := (x, y, H)) ⟨hB, hcD, hcc⟩
            · intro f j ⟨x, y, H⟩ h3 h4 ⟨i0, i1, i2⟩
              obtain ⟨n, rfl⟩ : ∃ n, j = n + 1 := ⟨j - 1, by omega⟩
              rw [show n + 1 - 1 = n by omega] at i0 i1
              have i0 : Best (okS X a4) (soS X a2 a3) (PC kq i n) (x, y) := i0
              obtain ⟨A, hA, cA, fA⟩ := goByWay_ok (o := 17) (k := n) (q := iN (14 + 2 * kq)) (t := iN (tuN i)) rfl (wD _ i n (by omega)) (qR_N (by omega)) (ht i) (way_43 wf0 (qR_N (by omega)) (bg_41 (by omega) (by omega))) i1
              have cA : cD 17 (dishS X (14 + 2 * kq) i (n + 1)) A := cA
              have ccA := cc_tr i2 (cc_fr fA (by omega) (by omega))
              have pc := ccrust_ok (o := 17) rfl cA
              have pj := cjust_ok (o := 17) (a := a2) (b := a3) rfl (wD (14 + 2 * kq) i (n + 1) (by omega)).1 cA
              rw [(hso _ _ _).1] at pj
              have hs20 := (hso (14 + 2 * kq) i (n + 1)).2
              have etold : 10000 * (14 + 2 * kq) + 100 * (n + 1) + tuN i = toldN (14 + 2 * kq) i (n + 1) := rfl
              have ediv : iN (n + 1) / iN 4 = iN ((n + 1) / 4) := iN_div (by omega) (by omega) (by omega)
              have e4 : (n + 1) / 4 * 4 ≤ n + 1 := by omega
              -- nothing told at this tick
              have none_ : (okS X a4 (14 + 2 * kq) i (n + 1) → (n + 1) % 4 ≠ 0) → Best (okS X a4) (soS X a2 a3) (PC kq i (n + 1)) (x, y) := by
                intro hno
                by_cases c4 : (n + 1) % 4 = 0
                · exact Best_no i0 (q0 := 14 + 2 * kq) (i0 := i) (n0 := n + 1) (fun q i' n' => by unfold PC Ful; omega) (fun ho => hno ho c4)
                · exact Best_iff i0 (fun q i' n' => by unfold PC Ful; omega)
              have ym1 : (y < -iN 1) = False := by
                rcases i0 with ⟨g1, -⟩ | ⟨p1, p2, p3, _, _, _, _, g5, _⟩
                · injection g1 with _ gy
                  rw [gy]
                  exact eq_false (by decide)
                · injection g5 with _ gy
                  rw [gy]
                  have := (hso p1 p2 p3).2
                  exact eq_false (fun e => by have := t_lt.mp e; rw [li (by omega), show (-iN 1).toInt = -1 from by decide] at this; omega)
              have m1lt : (-iN 1 < iN 0) = True := lt_m1
              by_cases c4 : (n + 1) % 4 = 0
              · have e0 : n + 1 - (n + 1) / 4 * 4 = 0 := by omega
                by_cases cv : crustS (dishS X (14 + 2 * kq) i (n + 1)) < a4
                · refine ⟨(x, y, A), ⟨none_ (fun ho => absurd cv ho), cA, ccA⟩, ?_⟩
                  show f_X7_most_l107_26 a2 a3 a4 (71 + k) (iN (14 + 2 * kq)) (iN i) (f + 1) x y (iN (n + 1)) H = f_X7_most_l107_26 a2 a3 a4 (71 + k) (iN (14 + 2 * kq)) (iN i) f x y (iN (n + 1 + 1)) A
                  conv => lhs; unfold f_X7_most_l107_26
                  simp (disch := omega) only [chk_t, beq_self_eq_true, nm_s, bj1_s, bj2_s, bj3_s, mo_1, mo_0, l_0, l_1, l_2, l_3, l_4, l_5, l_6, l_7, l_8, l_9, l_10, l_11, l_12, l_13, l_14, l_15, l_16, l_17, l_18, l_19, l_20, l_21, l_30, l_31, l_32, l_36, l_40, l_41, l_42, l_43, l_44, l_45, l_46, l_47, l_48, l_49, l_50, l_51, l_52, l_57, l_58, l_60, l_64, l_72, l_80, l_92, l_98, l_99, l_100, l_102, l_105, l_111, l_112, l_114, l_115, l_116, l_117, l_120, l_144, l_200, l_201, l_240, l_300, l_320, l_400, l_500, l_550, l_560, l_649, l_650, l_1000, l_1400, l_2000, l_4000, l_10000, iN_add, iN_sub, iN_mul, iN_le_t, iN_le_f, iN_lt_t, iN_lt_f, iN_eq_f, inb_iN, ix_iN, isZ_0, isZ_1, ↓reduceIte, eq_self, tu, hA, ediv, e0, pc, if_pos cv, ym1, m1lt]
                · have hB2 := Best_c i0 (q0 := 14 + 2 * kq) (i0 := i) (n0 := n + 1) (P' := PC kq i (n + 1)) (fun q i' n' => by unfold PC Ful; omega) cv (by omega) (by omega) (fun q i n => (hso q i n).2)
                  generalize hE : (if y < iN (soS X a2 a3 (14 + 2 * kq) i (n + 1)) then (iN (toldN (14 + 2 * kq) i (n + 1)), iN (soS X a2 a3 (14 + 2 * kq) i (n + 1))) else if iN (soS X a2 a3 (14 + 2 * kq) i (n + 1)) = y then (if x ≤ iN (toldN (14 + 2 * kq) i (n + 1)) then (x, y) else (iN (toldN (14 + 2 * kq) i (n + 1)), iN (soS X a2 a3 (14 + 2 * kq) i (n + 1)))) else (x, y)) = E at hB2
                  refine ⟨(E.1, E.2, A), ⟨hB2, cA, ccA⟩, ?_⟩
                  show f_X7_most_l107_26 a2 a3 a4 (71 + k) (iN (14 + 2 * kq)) (iN i) (f + 1) x y (iN (n + 1)) H = f_X7_most_l107_26 a2 a3 a4 (71 + k) (iN (14 + 2 * kq)) (iN i) f E.1 E.2 (iN (n + 1 + 1)) A
                  conv => lhs; unfold f_X7_most_l107_26
                  rw [← hE]
                  generalize soS X a2 a3 (14 + 2 * kq) i (n + 1) = so at *
                  have cv := eq_false cv
                  by_cases d1 : y < iN so
                  · simp (disch := omega) only [chk_t, beq_self_eq_true, nm_s, bj1_s, bj2_s, bj3_s, mo_1, mo_0, l_0, l_1, l_2, l_3, l_4, l_5, l_6, l_7, l_8, l_9, l_10, l_11, l_12, l_13, l_14, l_15, l_16, l_17, l_18, l_19, l_20, l_21, l_30, l_31, l_32, l_36, l_40, l_41, l_42, l_43, l_44, l_45, l_46, l_47, l_48, l_49, l_50, l_51, l_52, l_57, l_58, l_60, l_64, l_72, l_80, l_92, l_98, l_99, l_100, l_102, l_105, l_111, l_112, l_114, l_115, l_116, l_117, l_120, l_144, l_200, l_201, l_240, l_300, l_320, l_400, l_500, l_550, l_560, l_649, l_650, l_1000, l_1400, l_2000, l_4000, l_10000, iN_add, iN_sub, iN_mul, iN_le_t, iN_le_f, iN_lt_t, iN_lt_f, iN_eq_f, inb_iN, ix_iN, isZ_0, isZ_1, ↓reduceIte, eq_self, tu, hA, ediv, e0, pc, cv, pj, if_pos d1, etold]
                  · by_cases d2 : iN so = y
                    · by_cases d3 : x ≤ iN (toldN (14 + 2 * kq) i (n + 1))
                      · simp (disch := omega) only [chk_t, beq_self_eq_true, nm_s, bj1_s, bj2_s, bj3_s, mo_1, mo_0, l_0, l_1, l_2, l_3, l_4, l_5, l_6, l_7, l_8, l_9, l_10, l_11, l_12, l_13, l_14, l_15, l_16, l_17, l_18, l_19, l_20, l_21, l_30, l_31, l_32, l_36, l_40, l_41, l_42, l_43, l_44, l_45, l_46, l_47, l_48, l_49, l_50, l_51, l_52, l_57, l_58, l_60, l_64, l_72, l_80, l_92, l_98, l_99, l_100, l_102, l_105, l_111, l_112, l_114, l_115, l_116, l_117, l_120, l_144, l_200, l_201, l_240, l_300, l_320, l_400, l_500, l_550, l_560, l_649, l_650, l_1000, l_1400, l_2000, l_4000, l_10000, iN_add, iN_sub, iN_mul, iN_le_t, iN_le_f, iN_lt_t, iN_lt_f, iN_eq_f, inb_iN, ix_iN, isZ_0, isZ_1, ↓reduceIte, eq_self, tu, hA, ediv, e0, pc, cv, pj, if_neg d1, if_pos d2, if_pos d3, etold]
                      · simp (disch := omega) only [chk_t, beq_self_eq_true, nm_s, bj1_s, bj2_s, bj3_s, mo_1, mo_0, l_0, l_1, l_2, l_3, l_4, l_5, l_6, l_7, l_8, l_9, l_10, l_11, l_12, l_13, l_14, l_15, l_16, l_17, l_18, l_19, l_20, l_21, l_30, l_31, l_32, l_36, l_40, l_41, l_42, l_43, l_44, l_45, l_46, l_47, l_48, l_49, l_50, l_51, l_52, l_57, l_58, l_60, l_64, l_72, l_80, l_92, l_98, l_99, l_100, l_102, l_105, l_111, l_112, l_114, l_115, l_116, l_117, l_120, l_144, l_200, l_201, l_240, l_300, l_320, l_400, l_500, l_550, l_560, l_649, l_650, l_1000, l_1400, l_2000, l_4000, l_10000, iN_add, iN_sub, iN_mul, iN_le_t, iN_le_f, iN_lt_t, iN_lt_f, iN_eq_f, inb_iN, ix_iN, isZ_0, isZ_1, ↓reduceIte, eq_self, tu, hA, ediv, e0, pc, cv, pj, if_neg d1, if_pos d2, if_neg d3, etold]
                    · simp (disch := omega) only [chk_t, beq_self_eq_true, nm_s, bj1_s, bj2_s, bj3_s, mo_1, mo_0, l_0, l_1, l_2, l_3, l_4, l_5, l_6, l_7, l_8, l_9, l_10, l_11, l_12, l_13, l_14, l_15, l_16, l_17, l_18, l_19, l_20, l_21, l_30, l_31, l_32, l_36, l_40, l_41, l_42, l_43, l_44, l_45, l_46, l_47, l_48, l_49, l_50, l_51, l_52, l_57, l_58, l_60, l_64, l_72, l_80, l_92, l_98, l_99, l_100, l_102, l_105, l_111, l_112, l_114, l_115, l_116, l_117, l_120, l_144, l_200, l_201, l_240, l_300, l_320, l_400, l_500, l_550, l_560, l_649, l_650, l_1000, l_1400, l_2000, l_4000, l_10000, iN_add, iN_sub, iN_mul, iN_le_t, iN_le_f, iN_lt_t, iN_lt_f, iN_eq_f, inb_iN, ix_iN, isZ_0, isZ_1, ↓reduceIte, eq_self, tu, hA, ediv, e0, pc, cv, pj, if_neg d1, if_neg d2, etold]
              · have e0 : (iN (n + 1 - (n + 1) / 4 * 4) = iN 0) = False := iN_eq_f (by omega) (by omega) (by omega)
                refine ⟨(x, y, A), ⟨none_ (fun _ => c4), cA, ccA⟩, ?_⟩
                show f_X7_most_l107_26 a2 a3 a4 (71 + k) (iN (14 + 2 * kq)) (iN i) (f + 1) x y (iN (n + 1)) H = f_X7_most_l107_26 a2 a3 a4 (71 + k) (iN (14 + 2 * kq)) (iN i) f x y (iN (n + 1 + 1)) A
                conv => lhs; unfold f_X7_most_l107_26
                simp (disch := omega) only [chk_t, beq_self_eq_true, nm_s, bj1_s, bj2_s, bj3_s, mo_1, mo_0, l_0, l_1, l_2, l_3, l_4, l_5, l_6, l_7, l_8, l_9, l_10, l_11, l_12, l_13, l_14, l_15, l_16, l_17, l_18, l_19, l_20, l_21, l_30, l_31, l_32, l_36, l_40, l_41, l_42, l_43, l_44, l_45, l_46, l_47, l_48, l_49, l_50, l_51, l_52, l_57, l_58, l_60, l_64, l_72, l_80, l_92, l_98, l_99, l_100, l_102, l_105, l_111, l_112, l_114, l_115, l_116, l_117, l_120, l_144, l_200, l_201, l_240, l_300, l_320, l_400, l_500, l_550, l_560, l_649, l_650, l_1000, l_1400, l_2000, l_4000, l_10000, iN_add, iN_sub, iN_mul, iN_le_t, iN_le_f, iN_lt_t, iN_lt_f, iN_eq_f, inb_iN, ix_iN, isZ_0, isZ_1, ↓reduceIte, eq_self, tu, hA, ediv, e0, ym1, m1lt]
            · intro f ⟨x, y, H⟩ ⟨i0, i1, i2⟩
              refine ⟨(x, y, H), ?_, i0, i2⟩
              show f_X7_most_l107_26 a2 a3 a4 (71 + k) (iN (14 + 2 * kq)) (iN i) (f + 1) x y (iN 81) H = _
              unfold f_X7_most_l107_26
              simp (disch := omega) only [chk_t, beq_self_eq_true, nm_s, bj1_s, bj2_s, bj3_s, mo_1, mo_0, l_0, l_1, l_2, l_3, l_4, l_5, l_6, l_7, l_8, l_9, l_10, l_11, l_12, l_13, l_14, l_15, l_16, l_17, l_18, l_19, l_20, l_21, l_30, l_31, l_32, l_36, l_40, l_41, l_42, l_43, l_44, l_45, l_46, l_47, l_48, l_49, l_50, l_51, l_52, l_57, l_58, l_60, l_64, l_72, l_80, l_92, l_98, l_99, l_100, l_102, l_105, l_111, l_112, l_114, l_115, l_116, l_117, l_120, l_144, l_200, l_201, l_240, l_300, l_320, l_400, l_500, l_550, l_560, l_649, l_650, l_1000, l_1400, l_2000, l_4000, l_10000, iN_add, iN_sub, iN_mul, iN_le_t, iN_le_f, iN_lt_t, iN_lt_f, iN_eq_f, inb_iN, ix_iN, isZ_0, isZ_1, ↓reduceIte, eq_self]
          have lMid : ∀ (kq : Nat), kq < 9 → ∀ (x y : Int32) (H : G_), Best (okS X a4) (soS X a2 a3) (PC kq 0 0) (x, y) → cc G H → ∃ r, f_X7_most_l68_18 a2 a3 a4 (71 + k) (iN (14 + 2 * kq)) FU x y (iN 0) H = some r ∧ Best (okS X a4) (soS X a2 a3) (PC (kq + 1) 0 0) (r.1, r.2.1) ∧ cc G r.2.2 := by
            intro kq hkq x y H hB hcc
            refine loop_h (fun f v (s : Int32 × Int32 × G_) => f_X7_most_l68_18 a2 a3 a4 (71 + k) (iN (14 + 2 * kq)) f s.1 s.2.1 v s.2.2) (fun j s => Best (okS X a4) (soS X a2 a3) (PC kq j 0) (s.1, s.2.1) ∧ cc G s.2.2) _ 0 5 ?_ ?_ (by omega) (n := FU) (fu_lt (by omega)) (s := (x, y, H)) ⟨hB, hcc⟩
            · intro f i ⟨x, y, H⟩ h3 h4 ⟨i0, i2⟩
              have q1 : H.1 (71 + k) = G.1 (71 + k) := cc_at i2 (by omega)
              obtain ⟨A, hA, cA, fA⟩ := begin_ok (o := 17) (X := X) (G := H) rfl ho (by omega) hX.1 (by rw [q1]; exact hc.2.1) (by rw [q1]; exact hc.2.2.2) hX4
              have s1 : H.1 (71 + k) 1 = iN n0 := by rw [q1]; exact hs1
              have s3 : H.1 (71 + k) 3 = X 2 := by rw [q1]; exact hs3
              obtain ⟨⟨x', y', C⟩, hC, hB2, ccC⟩ := lIn kq i hkq h4 x y A i0 cA (cc_tr i2 (cc_fr fA (by omega) (by omega)))
              have hB2 : Best (okS X a4) (soS X a2 a3) (PC kq i 80) (x', y') := hB2
              refine ⟨(x', y', C), ⟨Best_iff hB2 (fun q i' n' => by unfold PC Ful; omega), ccC⟩, ?_⟩
              show f_X7_most_l68_18 a2 a3 a4 (71 + k) (iN (14 + 2 * kq)) (f + 1) x y (iN i) H = _
              conv => lhs; unfold f_X7_most_l68_18
              simp (disch := omega) only [chk_t, beq_self_eq_true, nm_s, bj1_s, bj2_s, bj3_s, mo_1, mo_0, l_0, l_1, l_2, l_3, l_4, l_5, l_6, l_7, l_8, l_9, l_10, l_11, l_12, l_13, l_14, l_15, l_16, l_17, l_18, l_19, l_20, l_21, l_30, l_31, l_32, l_36, l_40, l_41, l_42, l_43, l_44, l_45, l_46, l_47, l_48, l_49, l_50, l_51, l_52, l_57, l_58, l_60, l_64, l_72, l_80, l_92, l_98, l_99, l_100, l_102, l_105, l_111, l_112, l_114, l_115, l_116, l_117, l_120, l_144, l_200, l_201, l_240, l_300, l_320, l_400, l_500, l_550, l_560, l_649, l_650, l_1000, l_1400, l_2000, l_4000, l_10000, iN_add, iN_sub, iN_mul, iN_le_t, iN_le_f, iN_lt_t, iN_lt_f, iN_eq_f, inb_iN, ix_iN, isZ_0, isZ_1, ↓reduceIte, eq_self, s1, s3, hA, hC]
            · intro f ⟨x, y, H⟩ ⟨i0, i2⟩
              refine ⟨(x, y, H), ?_, Best_iff i0 (fun q i' n' => by unfold PC Ful; omega), i2⟩
              show f_X7_most_l68_18 a2 a3 a4 (71 + k) (iN (14 + 2 * kq)) (f + 1) x y (iN 5) H = _
              unfold f_X7_most_l68_18
              simp (disch := omega) only [chk_t, beq_self_eq_true, nm_s, bj1_s, bj2_s, bj3_s, mo_1, mo_0, l_0, l_1, l_2, l_3, l_4, l_5, l_6, l_7, l_8, l_9, l_10, l_11, l_12, l_13, l_14, l_15, l_16, l_17, l_18, l_19, l_20, l_21, l_30, l_31, l_32, l_36, l_40, l_41, l_42, l_43, l_44, l_45, l_46, l_47, l_48, l_49, l_50, l_51, l_52, l_57, l_58, l_60, l_64, l_72, l_80, l_92, l_98, l_99, l_100, l_102, l_105, l_111, l_112, l_114, l_115, l_116, l_117, l_120, l_144, l_200, l_201, l_240, l_300, l_320, l_400, l_500, l_550, l_560, l_649, l_650, l_1000, l_1400, l_2000, l_4000, l_10000, iN_add, iN_sub, iN_mul, iN_le_t, iN_le_f, iN_lt_t, iN_lt_f, iN_eq_f, inb_iN, ix_iN, isZ_0, isZ_1, ↓reduceIte, eq_self]
          have lOut : ∃ r, f_X7_most_l58_13 a2 a3 a4 (71 + k) FU (-iN 9) (-iN 1) (iN 14) G = some r ∧ Best (okS X a4) (soS X a2 a3) Ful (r.1, r.2.1) ∧ cc G r.2.2 := by
            refine loop_st (fun f v (s : Int32 × Int32 × G_) => f_X7_most_l58_13 a2 a3 a4 (71 + k) f s.1 s.2.1 v s.2.2) (fun j s => Best (okS X a4) (soS X a2 a3) (PC j 0 0) (s.1, s.2.1) ∧ cc G s.2.2) _ 14 2 9 ?_ ?_ (n := FU) (fu_lt (by omega)) (s := (-iN 9, -iN 1, G)) ⟨Or.inl ⟨rfl, fun q i n hp => by unfold PC Ful at hp; omega⟩, cc_refl⟩
            · intro f kq ⟨x, y, H⟩ h4 ⟨i0, i2⟩
              obtain ⟨⟨x', y', C⟩, hC, hB2, ccC⟩ := lMid kq h4 x y H i0 i2
              refine ⟨(x', y', C), ⟨hB2, ccC⟩, ?_⟩
              show f_X7_most_l58_13 a2 a3 a4 (71 + k) (f + 1) x y (iN (14 + 2 * kq)) H = f_X7_most_l58_13 a2 a3 a4 (71 + k) f x' y' (iN (14 + 2 * (kq + 1))) C
              conv => lhs; unfold f_X7_most_l58_13
              rw [show 14 + 2 * (kq + 1) = 14 + 2 * kq + 2 by omega]
              simp (disch := omega) only [chk_t, beq_self_eq_true, nm_s, bj1_s, bj2_s, bj3_s, mo_1, mo_0, l_0, l_1, l_2, l_3, l_4, l_5, l_6, l_7, l_8, l_9, l_10, l_11, l_12, l_13, l_14, l_15, l_16, l_17, l_18, l_19, l_20, l_21, l_30, l_31, l_32, l_36, l_40, l_41, l_42, l_43, l_44, l_45, l_46, l_47, l_48, l_49, l_50, l_51, l_52, l_57, l_58, l_60, l_64, l_72, l_80, l_92, l_98, l_99, l_100, l_102, l_105, l_111, l_112, l_114, l_115, l_116, l_117, l_120, l_144, l_200, l_201, l_240, l_300, l_320, l_400, l_500, l_550, l_560, l_649, l_650, l_1000, l_1400, l_2000, l_4000, l_10000, iN_add, iN_sub, iN_mul, iN_le_t, iN_le_f, iN_lt_t, iN_lt_f, iN_eq_f, inb_iN, ix_iN, isZ_0, isZ_1, ↓reduceIte, eq_self, hC]
            · intro f ⟨x, y, H⟩ ⟨i0, i2⟩
              refine ⟨(x, y, H), ?_, Best_iff i0 (fun q i' n' => by unfold PC Ful; omega), i2⟩
              show f_X7_most_l58_13 a2 a3 a4 (71 + k) (f + 1) x y (iN 32) H = _
              unfold f_X7_most_l58_13
              simp (disch := omega) only [chk_t, beq_self_eq_true, nm_s, bj1_s, bj2_s, bj3_s, mo_1, mo_0, l_0, l_1, l_2, l_3, l_4, l_5, l_6, l_7, l_8, l_9, l_10, l_11, l_12, l_13, l_14, l_15, l_16, l_17, l_18, l_19, l_20, l_21, l_30, l_31, l_32, l_36, l_40, l_41, l_42, l_43, l_44, l_45, l_46, l_47, l_48, l_49, l_50, l_51, l_52, l_57, l_58, l_60, l_64, l_72, l_80, l_92, l_98, l_99, l_100, l_102, l_105, l_111, l_112, l_114, l_115, l_116, l_117, l_120, l_144, l_200, l_201, l_240, l_300, l_320, l_400, l_500, l_550, l_560, l_649, l_650, l_1000, l_1400, l_2000, l_4000, l_10000, iN_add, iN_sub, iN_mul, iN_le_t, iN_le_f, iN_lt_t, iN_lt_f, iN_eq_f, inb_iN, ix_iN, isZ_0, isZ_1, ↓reduceIte, eq_self]
          obtain ⟨⟨x, y, C⟩, hC, hBC, ccC⟩ := lOut
          have hBC : Best (okS X a4) (soS X a2 a3) Ful (x, y) := hBC
          -- the reference
          have kM : ∀ H : G_, (∀ q, 50 ≤ q → H.1 q = G.1 q) → ∃ D' W', f_X8_most (iN k) a2 a3 a4 H = (if x = -iN 9 then some (-iN 9, stM 4 D' W' (LG 4 H)) else some (x, sI (stM 4 D' W' (LG 4 H)) 124 2 y)) := by
            intro H hH
            have hbM := bM_LG (m := 4) (G := H) (by omega)
            have mIn : ∀ (kq m : Nat), kq < 9 → m < 20 → ∀ (x y : Int32) (D' W' : Nat → Int32), Best (okS X a4) (soS X a2 a3) (PM kq m 0) (x, y) → okN D' n0 → bgS D' = bgS X → ∃ r, f_X8_most_l75_26 a2 a3 a4 (iN (14 + 2 * kq)) (iN (4 + 4 * m)) FU x y (iN 0) (stM 4 D' W' (LG 4 H)) = some r ∧ Best (okS X a4) (soS X a2 a3) (PM kq (m + 1) 0) (r.1, r.2.1) ∧ ∃ D2 W2, r.2.2 = stM 4 D2 W2 (LG 4 H) ∧ okN D2 n0 ∧ bgS D2 = bgS X := by
              intro kq m hkq hm x y D' W' hB hn' hbg
              refine loop_h (fun f v (s : Int32 × Int32 × G_) => f_X8_most_l75_26 a2 a3 a4 (iN (14 + 2 * kq)) (iN (4 + 4 * m)) f s.1 s.2.1 v s.2.2) (fun j s => Best (okS X a4) (soS X a2 a3) (PM kq m j) (s.1, s.2.1) ∧ ∃ D2 W2, s.2.2 = stM 4 D2 W2 (LG 4 H) ∧ okN D2 n0 ∧ bgS D2 = bgS X) _ 0 5 ?_ ?_ (by omega) (n := FU) (fu_lt (by omega)) (s := (x, y, stM 4 D' W' (LG 4 H))) ⟨hB, D', W', rfl, hn', hbg⟩
              · intro f i ⟨x, y, R⟩ h3 h4 ⟨i0, D2, W2, eR, g1, g2⟩
                have eR : R = _ := eR
                subst eR
                have i0 : Best (okS X a4) (soS X a2 a3) (PM kq m i) (x, y) := i0
                obtain ⟨W3, m1⟩ := mmakes_ok (D := D2) (W := W2) (q := iN (14 + 2 * kq)) (t := iN (tuN i)) (c := 4 + 4 * m) hbM g1 (ht i) (by omega)
                rw [g2] at m1
                have m1 : f_X8_makes (iN (14 + 2 * kq)) (iN (4 + 4 * m)) (iN (tuN i)) (stM 4 D2 W2 (LG 4 H)) = some (stM 4 (dishS X (14 + 2 * kq) i (4 + 4 * m)) W3 (LG 4 H)) := m1
                have wj := wD (14 + 2 * kq) i (4 + 4 * m) (by omega)
                have m2 := mcrust_ok (D := dishS X (14 + 2 * kq) i (4 + 4 * m)) (W := W3) hbM
                have m3 := mjust_ok (a := a2) (b := a3) (D := dishS X (14 + 2 * kq) i (4 + 4 * m)) (W := W3) hbM wj.1
                rw [(hso _ _ _).1] at m3
                have bg' : bgS (dishS X (14 + 2 * kq) i (4 + 4 * m)) = bgS X := bg_bg (fun p hp => way_X hX.1 hp)
                have etold : 10000 * (14 + 2 * kq) + 100 * (4 + 4 * m) + tuN i = toldN (14 + 2 * kq) i (4 + 4 * m) := rfl
                have tof := turnOf_N h4
                have hs20 := (hso (14 + 2 * kq) i (4 + 4 * m)).2
                have hPe : ∀ q' i' n', PM kq m (i + 1) q' i' n' ↔ PM kq m i q' i' n' ∨ (q' = 14 + 2 * kq ∧ i' = i ∧ n' = 4 + 4 * m) := fun q' i' n' => by unfold PM Ful; omega
                by_cases cv : crustS (dishS X (14 + 2 * kq) i (4 + 4 * m)) < a4
                · refine ⟨(x, y, stM 4 (dishS X (14 + 2 * kq) i (4 + 4 * m)) W3 (LG 4 H)), ⟨Best_no i0 hPe (fun ho => ho cv), _, W3, rfl, wj.1, bg'⟩, ?_⟩
                  show f_X8_most_l75_26 a2 a3 a4 (iN (14 + 2 * kq)) (iN (4 + 4 * m)) (f + 1) x y (iN i) _ = f_X8_most_l75_26 a2 a3 a4 (iN (14 + 2 * kq)) (iN (4 + 4 * m)) f x y (iN (i + 1)) _
                  conv => lhs; unfold f_X8_most_l75_26
                  simp (disch := omega) only [chk_t, beq_self_eq_true, nm_s, bj1_s, bj2_s, bj3_s, mo_1, mo_0, l_0, l_1, l_2, l_3, l_4, l_5, l_6, l_7, l_8, l_9, l_10, l_11, l_12, l_13, l_14, l_15, l_16, l_17, l_18, l_19, l_20, l_21, l_30, l_31, l_32, l_36, l_40, l_41, l_42, l_43, l_44, l_45, l_46, l_47, l_48, l_49, l_50, l_51, l_52, l_57, l_58, l_60, l_64, l_72, l_80, l_92, l_98, l_99, l_100, l_102, l_105, l_111, l_112, l_114, l_115, l_116, l_117, l_120, l_144, l_200, l_201, l_240, l_300, l_320, l_400, l_500, l_550, l_560, l_649, l_650, l_1000, l_1400, l_2000, l_4000, l_10000, iN_add, iN_sub, iN_mul, iN_le_t, iN_le_f, iN_lt_t, iN_lt_f, iN_eq_f, inb_iN, ix_iN, isZ_0, isZ_1, ↓reduceIte, eq_self, tof, m1, m2, if_pos cv]
                · have hB2 := Best_m i0 hPe cv (by omega) (by omega) (fun q i n => (hso q i n).2) (fun q' i' n' hp => toldN_lt hp.1 (show Ful (14 + 2 * kq) i (4 + 4 * m) by unfold Ful; omega) (by have := hp.2; omega))
                  generalize hE : (if iN (soS X a2 a3 (14 + 2 * kq) i (4 + 4 * m)) ≤ y then (x, y) else (iN (toldN (14 + 2 * kq) i (4 + 4 * m)), iN (soS X a2 a3 (14 + 2 * kq) i (4 + 4 * m)))) = E at hB2
                  refine ⟨(E.1, E.2, stM 4 (dishS X (14 + 2 * kq) i (4 + 4 * m)) W3 (LG 4 H)), ⟨hB2, _, W3, rfl, wj.1, bg'⟩, ?_⟩
                  show f_X8_most_l75_26 a2 a3 a4 (iN (14 + 2 * kq)) (iN (4 + 4 * m)) (f + 1) x y (iN i) _ = f_X8_most_l75_26 a2 a3 a4 (iN (14 + 2 * kq)) (iN (4 + 4 * m)) f E.1 E.2 (iN (i + 1)) _
                  conv => lhs; unfold f_X8_most_l75_26
                  rw [← hE]
                  generalize soS X a2 a3 (14 + 2 * kq) i (4 + 4 * m) = so at *
                  have cv := eq_false cv
                  by_cases d1 : iN so ≤ y
                  · simp (disch := omega) only [chk_t, beq_self_eq_true, nm_s, bj1_s, bj2_s, bj3_s, mo_1, mo_0, l_0, l_1, l_2, l_3, l_4, l_5, l_6, l_7, l_8, l_9, l_10, l_11, l_12, l_13, l_14, l_15, l_16, l_17, l_18, l_19, l_20, l_21, l_30, l_31, l_32, l_36, l_40, l_41, l_42, l_43, l_44, l_45, l_46, l_47, l_48, l_49, l_50, l_51, l_52, l_57, l_58, l_60, l_64, l_72, l_80, l_92, l_98, l_99, l_100, l_102, l_105, l_111, l_112, l_114, l_115, l_116, l_117, l_120, l_144, l_200, l_201, l_240, l_300, l_320, l_400, l_500, l_550, l_560, l_649, l_650, l_1000, l_1400, l_2000, l_4000, l_10000, iN_add, iN_sub, iN_mul, iN_le_t, iN_le_f, iN_lt_t, iN_lt_f, iN_eq_f, inb_iN, ix_iN, isZ_0, isZ_1, ↓reduceIte, eq_self, tof, m1, m2, cv, m3, if_pos d1]
                  · simp (disch := omega) only [chk_t, beq_self_eq_true, nm_s, bj1_s, bj2_s, bj3_s, mo_1, mo_0, l_0, l_1, l_2, l_3, l_4, l_5, l_6, l_7, l_8, l_9, l_10, l_11, l_12, l_13, l_14, l_15, l_16, l_17, l_18, l_19, l_20, l_21, l_30, l_31, l_32, l_36, l_40, l_41, l_42, l_43, l_44, l_45, l_46, l_47, l_48, l_49, l_50, l_51, l_52, l_57, l_58, l_60, l_64, l_72, l_80, l_92, l_98, l_99, l_100, l_102, l_105, l_111, l_112, l_114, l_115, l_116, l_117, l_120, l_144, l_200, l_201, l_240, l_300, l_320, l_400, l_500, l_550, l_560, l_649, l_650, l_1000, l_1400, l_2000, l_4000, l_10000, iN_add, iN_sub, iN_mul, iN_le_t, iN_le_f, iN_lt_t, iN_lt_f, iN_eq_f, inb_iN, ix_iN, isZ_0, isZ_1, ↓reduceIte, eq_self, tof, m1, m2, cv, m3, if_neg d1, etold]
              · intro f ⟨x, y, R⟩ ⟨i0, i2⟩
                refine ⟨(x, y, R), ?_, Best_iff i0 (fun q i' n' => by unfold PM Ful; omega), i2⟩
                show f_X8_most_l75_26 a2 a3 a4 (iN (14 + 2 * kq)) (iN (4 + 4 * m)) (f + 1) x y (iN 5) R = _
                unfold f_X8_most_l75_26
                simp (disch := omega) only [chk_t, beq_self_eq_true, nm_s, bj1_s, bj2_s, bj3_s, mo_1, mo_0, l_0, l_1, l_2, l_3, l_4, l_5, l_6, l_7, l_8, l_9, l_10, l_11, l_12, l_13, l_14, l_15, l_16, l_17, l_18, l_19, l_20, l_21, l_30, l_31, l_32, l_36, l_40, l_41, l_42, l_43, l_44, l_45, l_46, l_47, l_48, l_49, l_50, l_51, l_52, l_57, l_58, l_60, l_64, l_72, l_80, l_92, l_98, l_99, l_100, l_102, l_105, l_111, l_112, l_114, l_115, l_116, l_117, l_120, l_144, l_200, l_201, l_240, l_300, l_320, l_400, l_500, l_550, l_560, l_649, l_650, l_1000, l_1400, l_2000, l_4000, l_10000, iN_add, iN_sub, iN_mul, iN_le_t, iN_le_f, iN_lt_t, iN_lt_f, iN_eq_f, inb_iN, ix_iN, isZ_0, isZ_1, ↓reduceIte, eq_self]
            have mMid : ∀ (kq : Nat), kq < 9 → ∀ (x y : Int32) (D' W' : Nat → Int32), Best (okS X a4) (soS X a2 a3) (PM kq 0 0) (x, y) → okN D' n0 → bgS D' = bgS X → ∃ r, f_X8_most_l65_21 a2 a3 a4 (iN (14 + 2 * kq)) FU x y (iN 4) (stM 4 D' W' (LG 4 H)) = some r ∧ Best (okS X a4) (soS X a2 a3) (PM (kq + 1) 0 0) (r.1, r.2.1) ∧ ∃ D2 W2, r.2.2 = stM 4 D2 W2 (LG 4 H) ∧ okN D2 n0 ∧ bgS D2 = bgS X := by
              intro kq hkq x y D' W' hB hn' hbg
              refine loop_st (fun f v (s : Int32 × Int32 × G_) => f_X8_most_l65_21 a2 a3 a4 (iN (14 + 2 * kq)) f s.1 s.2.1 v s.2.2) (fun j s => Best (okS X a4) (soS X a2 a3) (PM kq j 0) (s.1, s.2.1) ∧ ∃ D2 W2, s.2.2 = stM 4 D2 W2 (LG 4 H) ∧ okN D2 n0 ∧ bgS D2 = bgS X) _ 4 4 20 ?_ ?_ (n := FU) (fu_lt (by omega)) (s := (x, y, stM 4 D' W' (LG 4 H))) ⟨hB, D', W', rfl, hn', hbg⟩
              · intro f m ⟨x, y, R⟩ h4 ⟨i0, D2, W2, eR, g1, g2⟩
                have eR : R = _ := eR
                subst eR
                obtain ⟨⟨x', y', R'⟩, hR, hB2, hD⟩ := mIn kq m hkq h4 x y D2 W2 i0 g1 g2
                refine ⟨(x', y', R'), ⟨hB2, hD⟩, ?_⟩
                show f_X8_most_l65_21 a2 a3 a4 (iN (14 + 2 * kq)) (f + 1) x y (iN (4 + 4 * m)) _ = f_X8_most_l65_21 a2 a3 a4 (iN (14 + 2 * kq)) f x' y' (iN (4 + 4 * (m + 1))) R'
                conv => lhs; unfold f_X8_most_l65_21
                rw [show 4 + 4 * (m + 1) = 4 + 4 * m + 4 by omega]
                simp (disch := omega) only [chk_t, beq_self_eq_true, nm_s, bj1_s, bj2_s, bj3_s, mo_1, mo_0, l_0, l_1, l_2, l_3, l_4, l_5, l_6, l_7, l_8, l_9, l_10, l_11, l_12, l_13, l_14, l_15, l_16, l_17, l_18, l_19, l_20, l_21, l_30, l_31, l_32, l_36, l_40, l_41, l_42, l_43, l_44, l_45, l_46, l_47, l_48, l_49, l_50, l_51, l_52, l_57, l_58, l_60, l_64, l_72, l_80, l_92, l_98, l_99, l_100, l_102, l_105, l_111, l_112, l_114, l_115, l_116, l_117, l_120, l_144, l_200, l_201, l_240, l_300, l_320, l_400, l_500, l_550, l_560, l_649, l_650, l_1000, l_1400, l_2000, l_4000, l_10000, iN_add, iN_sub, iN_mul, iN_le_t, iN_le_f, iN_lt_t, iN_lt_f, iN_eq_f, inb_iN, ix_iN, isZ_0, isZ_1, ↓reduceIte, eq_self, hR]
              · intro f ⟨x, y, R⟩ ⟨i0, i2⟩
                refine ⟨(x, y, R), ?_, Best_iff i0 (fun q i' n' => by unfold PM Ful; omega), i2⟩
                show f_X8_most_l65_21 a2 a3 a4 (iN (14 + 2 * kq)) (f + 1) x y (iN 84) R = _
                unfold f_X8_most_l65_21
                simp (disch := omega) only [chk_t, beq_self_eq_true, nm_s, bj1_s, bj2_s, bj3_s, mo_1, mo_0, l_0, l_1, l_2, l_3, l_4, l_5, l_6, l_7, l_8, l_9, l_10, l_11, l_12, l_13, l_14, l_15, l_16, l_17, l_18, l_19, l_20, l_21, l_30, l_31, l_32, l_36, l_40, l_41, l_42, l_43, l_44, l_45, l_46, l_47, l_48, l_49, l_50, l_51, l_52, l_57, l_58, l_60, l_64, l_72, l_80, l_92, l_98, l_99, l_100, l_102, l_105, l_111, l_112, l_114, l_115, l_116, l_117, l_120, l_144, l_200, l_201, l_240, l_300, l_320, l_400, l_500, l_550, l_560, l_649, l_650, l_1000, l_1400, l_2000, l_4000, l_10000, iN_add, iN_sub, iN_mul, iN_le_t, iN_le_f, iN_lt_t, iN_lt_f, iN_eq_f, inb_iN, ix_iN, isZ_0, isZ_1, ↓reduceIte, eq_self]
            have mOut : ∃ r, f_X8_most_l55_16 a2 a3 a4 FU (-iN 9) (-iN 1) (iN 14) (stM 4 X (WM H) (LG 4 H)) = some r ∧ Best (okS X a4) (soS X a2 a3) Ful (r.1, r.2.1) ∧ ∃ D2 W2, r.2.2 = stM 4 D2 W2 (LG 4 H) := by
              refine loop_st (fun f v (s : Int32 × Int32 × G_) => f_X8_most_l55_16 a2 a3 a4 f s.1 s.2.1 v s.2.2) (fun j s => Best (okS X a4) (soS X a2 a3) (PM j 0 0) (s.1, s.2.1) ∧ ∃ D2 W2, s.2.2 = stM 4 D2 W2 (LG 4 H) ∧ okN D2 n0 ∧ bgS D2 = bgS X) _ 14 2 9 ?_ ?_ (n := FU) (fu_lt (by omega)) (s := (-iN 9, -iN 1, stM 4 X (WM H) (LG 4 H))) ⟨Or.inl ⟨rfl, fun q i n hp => by unfold PM Ful at hp; omega⟩, X, WM H, rfl, hX.1, rfl⟩
              · intro f kq ⟨x, y, R⟩ h4 ⟨i0, D2, W2, eR, g1, g2⟩
                have eR : R = _ := eR
                subst eR
                obtain ⟨⟨x', y', R'⟩, hR, hB2, hD⟩ := mMid kq h4 x y D2 W2 i0 g1 g2
                refine ⟨(x', y', R'), ⟨hB2, hD⟩, ?_⟩
                show f_X8_most_l55_16 a2 a3 a4 (f + 1) x y (iN (14 + 2 * kq)) _ = f_X8_most_l55_16 a2 a3 a4 f x' y' (iN (14 + 2 * (kq + 1))) R'
                conv => lhs; unfold f_X8_most_l55_16
                rw [show 14 + 2 * (kq + 1) = 14 + 2 * kq + 2 by omega]
                simp (disch := omega) only [chk_t, beq_self_eq_true, nm_s, bj1_s, bj2_s, bj3_s, mo_1, mo_0, l_0, l_1, l_2, l_3, l_4, l_5, l_6, l_7, l_8, l_9, l_10, l_11, l_12, l_13, l_14, l_15, l_16, l_17, l_18, l_19, l_20, l_21, l_30, l_31, l_32, l_36, l_40, l_41, l_42, l_43, l_44, l_45, l_46, l_47, l_48, l_49, l_50, l_51, l_52, l_57, l_58, l_60, l_64, l_72, l_80, l_92, l_98, l_99, l_100, l_102, l_105, l_111, l_112, l_114, l_115, l_116, l_117, l_120, l_144, l_200, l_201, l_240, l_300, l_320, l_400, l_500, l_550, l_560, l_649, l_650, l_1000, l_1400, l_2000, l_4000, l_10000, iN_add, iN_sub, iN_mul, iN_le_t, iN_le_f, iN_lt_t, iN_lt_f, iN_eq_f, inb_iN, ix_iN, isZ_0, isZ_1, ↓reduceIte, eq_self, hR]
              · intro f ⟨x, y, R⟩ ⟨i0, D2, W2, eR, _⟩
                refine ⟨(x, y, R), ?_, Best_iff i0 (fun q i' n' => by unfold PM Ful; omega), D2, W2, eR⟩
                show f_X8_most_l55_16 a2 a3 a4 (f + 1) x y (iN 32) R = _
                unfold f_X8_most_l55_16
                simp (disch := omega) only [chk_t, beq_self_eq_true, nm_s, bj1_s, bj2_s, bj3_s, mo_1, mo_0, l_0, l_1, l_2, l_3, l_4, l_5, l_6, l_7, l_8, l_9, l_10, l_11, l_12, l_13, l_14, l_15, l_16, l_17, l_18, l_19, l_20, l_21, l_30, l_31, l_32, l_36, l_40, l_41, l_42, l_43, l_44, l_45, l_46, l_47, l_48, l_49, l_50, l_51, l_52, l_57, l_58, l_60, l_64, l_72, l_80, l_92, l_98, l_99, l_100, l_102, l_105, l_111, l_112, l_114, l_115, l_116, l_117, l_120, l_144, l_200, l_201, l_240, l_300, l_320, l_400, l_500, l_550, l_560, l_649, l_650, l_1000, l_1400, l_2000, l_4000, l_10000, iN_add, iN_sub, iN_mul, iN_le_t, iN_le_f, iN_lt_t, iN_lt_f, iN_eq_f, inb_iN, ix_iN, isZ_0, isZ_1, ↓reduceIte, eq_self]
            obtain ⟨⟨x', y', R⟩, hR, hB2, D2, W2, eR⟩ := mOut
            have hB2 : Best (okS X a4) (soS X a2 a3) Ful (x', y') := hB2
            have eR : R = _ := eR
            subst eR
            have eu := Best_u hB2 hBC
            injection eu with eu1 eu2
            subst eu1 eu2
            refine ⟨D2, W2, ?_⟩
            have r2' : H.1 131 k = iN 1 := by rw [hH 131 (by omega)]; exact r2
            unfold f_X8_most f_X8_tells
            simp (disch := omega) only [chk_t, beq_self_eq_true, nm_s, bj1_s, bj2_s, bj3_s, mo_1, mo_0, l_0, l_1, l_2, l_3, l_4, l_5, l_6, l_7, l_8, l_9, l_10, l_11, l_12, l_13, l_14, l_15, l_16, l_17, l_18, l_19, l_20, l_21, l_30, l_31, l_32, l_36, l_40, l_41, l_42, l_43, l_44, l_45, l_46, l_47, l_48, l_49, l_50, l_51, l_52, l_57, l_58, l_60, l_64, l_72, l_80, l_92, l_98, l_99, l_100, l_102, l_105, l_111, l_112, l_114, l_115, l_116, l_117, l_120, l_144, l_200, l_201, l_240, l_300, l_320, l_400, l_500, l_550, l_560, l_649, l_650, l_1000, l_1400, l_2000, l_4000, l_10000, iN_add, iN_sub, iN_mul, iN_le_t, iN_le_f, iN_lt_t, iN_lt_f, iN_eq_f, inb_iN, ix_iN, isZ_0, isZ_1, ↓reduceIte, eq_self, w8, v8, ns_ok hk r2', le_00, hNew H hH, hR]
          have hC7 : f_X7_most (iN k) a2 a3 a4 G = (if x = -iN 9 then some (-iN 9, C) else some (x, sI C 0 16 y)) := by
            unfold f_X7_most f_X7_told
            simp (disch := omega) only [chk_t, beq_self_eq_true, nm_s, bj1_s, bj2_s, bj3_s, mo_1, mo_0, l_0, l_1, l_2, l_3, l_4, l_5, l_6, l_7, l_8, l_9, l_10, l_11, l_12, l_13, l_14, l_15, l_16, l_17, l_18, l_19, l_20, l_21, l_30, l_31, l_32, l_36, l_40, l_41, l_42, l_43, l_44, l_45, l_46, l_47, l_48, l_49, l_50, l_51, l_52, l_57, l_58, l_60, l_64, l_72, l_80, l_92, l_98, l_99, l_100, l_102, l_105, l_111, l_112, l_114, l_115, l_116, l_117, l_120, l_144, l_200, l_201, l_240, l_300, l_320, l_400, l_500, l_550, l_560, l_649, l_650, l_1000, l_1400, l_2000, l_4000, l_10000, iN_add, iN_sub, iN_mul, iN_le_t, iN_le_f, iN_lt_t, iN_lt_f, iN_eq_f, inb_iN, ix_iN, isZ_0, isZ_1, ↓reduceIte, eq_self, c1, kd_b ho, w7, v7, r1, r2, hC]
          by_cases d : x = -iN 9
          · obtain ⟨D', W', k1⟩ := kM C (fun q hq => ccC.1 q (by omega))
            exact pOK_none h (hC7.trans (if_pos d)) ccC (k1.trans (if_pos d)) (mf_st mf_LG)
          · obtain ⟨D', W', k1⟩ := kM (sI C 0 16 y) (cc_50 ccC)
            exact pOK_tell h (hC7.trans (if_neg d)) ccC (k1.trans (if_neg d)) (mf_st mf_LG)

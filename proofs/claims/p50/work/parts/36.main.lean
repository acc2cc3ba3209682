/-! the law's loop over the ticks -/
theorem go_43 {n mm k : Nat} {D : Nat → Int32} (hg : gD D n mm) (h : D 43 = iN 0) : goS D k 43 = iN k := by
  induction k with
  | zero => exact h
  | succ k ih =>
    have hg' := gD_go (k := k) hg
    have hm : mm ≤ 12 := by
      obtain ⟨-, a, g, hp⟩ := hg
      exact hp.2.1
    obtain ⟨k', q', w1, -, e⟩ := go1_tick (h := 3000) hg' (fun i hi b hb _ => by omega)
    show go1 (goS D k) 43 = _
    rw [e 43 (by omega) (by omega), tick_43 w1.1, once_p (by omega) (by omega) (by omega) (by omega), ih, iN_add]
theorem pair_s {s w s' n mm m' : Nat} {D E : Nat → Int32} {W : G_} (hO : DS n mm D W) (hQ : DS n m' E (swG W)) (hs : s < 2) (hs' : s' < 2) (hw : w ≤ 3) : ∃ C V, f_X7_skin (iN s) (iN w) W = some (iN 1, C) ∧ f_L_tells (iN 1) C = some (skinS s w D) ∧ f_X7_skin (iN s') (iN w) (swG C) = some (iN 1, swG V) ∧ f_L_tells (iN 1) (swG V) = some (skinS s' w E) ∧ DS n mm D V ∧ DS n m' E (swG V) ∧ (∀ q, q ≠ 0 → q ≠ 124 → V.1 q = W.1 q) := by
  obtain ⟨C, eC⟩ : ∃ C, C = sI W 0 16 (skinS s w D) := ⟨_, rfl⟩
  have hC : DS n m' E (swG C) := DS_lw hQ (by rw [eC]; exact (call_o (fun q hq => sI_p (by omega))).1)
  refine ⟨C, swG (sI (swG C) 0 16 (skinS s' w E)), by rw [eC]; exact ski hO hs hw, by rw [eC]; exact tells_c, by rw [swG_swG]; exact ski hC hs' hw, by rw [swG_swG]; exact tells_c, ?_, ?_, fun q q1 q2 => ?_⟩
  · exact DS_fr hO (fun q q1 q2 => by rw [swsI (by omega), eC, sI_p (by omega)])
  · rw [swG_swG]
    exact DS_as hC
  · rw [swsI q2, eC, sI_p q1]
theorem pair_go {t n mm m' : Nat} {D E : Nat → Int32} {W : G_} (hO : DS n mm D W) (hQ : DS n m' E (swG W)) (h1 : D 43 = iN t) (h2 : E 43 = iN t) (h3 : go1 D 43 = iN (t + 1)) (h4 : go1 E 43 = iN (t + 1)) (ht : t < 300) : ∃ C V, f_X7_go (iN 1) W = some (iN (t + 1), C) ∧ f_X7_go (iN 1) (swG C) = some (iN (t + 1), swG V) ∧ DS n mm (go1 D) V ∧ DS n m' (go1 E) (swG V) ∧ (∀ q, 16 ≤ q → q < 124 ∨ 140 ≤ q → V.1 q = W.1 q) := by
  have c1 : D 43 + iN 1 ≤ iN 300 := by rw [h1, iN_add]; exact (iN_le (by omega) (by omega)).mpr (by omega)
  have c2 : E 43 + iN 1 ≤ iN 300 := by rw [h2, iN_add]; exact (iN_le (by omega) (by omega)).mpr (by omega)
  obtain ⟨C, hC, cC, fC⟩ := go_c (c := 1) hO.1 hO.2.1 hO.2.2 (by omega) c1
  have wC := call_o (G := W) (A := C) (fun q hq => fC.1.1 q (by omega))
  have qC := DS_lw hQ wC.1
  obtain ⟨B, hB, cB, fB⟩ := go_c (c := 1) (G := swG C) qC.1 qC.2.1 qC.2.2 (by omega) c2
  have wB := call_q (G := C) (A := B) (fun q hq => fB.1.1 q (by omega))
  have oC : DS n mm (go1 D) C := ⟨fC.2.trans hO.1, gD_go1 hO.2.1, cC⟩
  have e1 : goS D 1 43 = iN (t + 1) := h3
  have e2 : goS E 1 43 = iN (t + 1) := h4
  rw [e1] at hC
  rw [e2] at hB
  refine ⟨C, swG B, hC, by rw [swG_swG]; exact hB, DS_lw oC wB.1, by rw [swG_swG]; exact ⟨fB.2.trans qC.1, gD_go1 qC.2.1, cB⟩, fun q q1 q2 => ?_⟩
  by_cases c : q < 124
  · rw [wB.1 q c, fC.1.1 q (by omega)]
  · by_cases c3 : q < 248
    · rw [sw_mid (by omega) c3, fB.1.1 _ (by omega), sw_lo (by omega), show q - 124 + 124 = q by omega, fC.1.1 q (by omega)]
    · rw [wB.2 q (by omega), fC.1.1 q (by omega)]
theorem l299_c {u6 : Int32} {h n mm T : Nat} {D0 E0 : Nat → Int32} {G : G_} (eu : u6 = iN T) (hT : T ≤ 200) (hmm : mm ≤ 11) (h0 : G.1 248 0 = iN n) (hD : DS n mm D0 G) (hE : DS n (mm + 1) E0 (swG G)) (hM : ∀ t, MR n (goS D0 (t + 1)) (goS E0 (t + 1))) (hL : LF h 0 D0 n) (hQ : HQ h mm D0) (hh : 200 ≤ h ∧ h ≤ 3000) (hJ : MJ D0 n G) (d43 : D0 43 = iN 0) (e43 : E0 43 = iN 0) : ∃ A, f_L_law_l299_11 u6 (iN h) FU (iN 0) (iN 0) G = some A ∧ DS n mm (goS D0 T) A ∧ DS n (mm + 1) (goS E0 T) (swG A) ∧ (∀ q, 16 ≤ q → q < 124 ∨ 140 ≤ q → q ≠ 251 → q ≠ 252 → A.1 q = G.1 q) := by
  subst eu
  have gDD := hD.2.1
  have gEE := hE.2.1
  have hn := hD.2.1.1.1
  have hLt := fun k => LF_go hh gDD (by omega : mm ≤ 12) hQ hL k
  obtain ⟨A, hA, i1, i2, i3⟩ := loop_h (fun n v (s : Int32 × G_) => f_L_law_l299_11 (iN T) (iN h) n s.1 v s.2) (fun t s => s.1.toInt ≤ (goS D0 t 50).toInt + (goS D0 t 51).toInt ∧ DS n mm (goS D0 t) s.2 ∧ DS n (mm + 1) (goS E0 t) (swG s.2) ∧ MJ (goS D0 t) n s.2 ∧ (∀ q, 16 ≤ q → q < 124 ∨ 140 ≤ q → q ≠ 251 → q ≠ 252 → s.2.1 q = G.1 q)) (fun H => DS n mm (goS D0 T) H ∧ DS n (mm + 1) (goS E0 T) (swG H) ∧ (∀ q, 16 ≤ q → q < 124 ∨ 140 ≤ q → q ≠ 251 → q ≠ 252 → H.1 q = G.1 q)) 0 T (by
    intro f t ⟨v8, H⟩ ht1 ht2 ⟨g1, g2, g3, g4, g5⟩
    obtain ⟨C, V, x1, x2, x3, x4, x5⟩ := pair_go (t := t) g2 g3 (go_43 gDD d43) (go_43 gEE e43) (go_43 (k := t + 1) gDD d43) (go_43 (k := t + 1) gEE e43) (by omega)
    have lf := hLt (t + 1) (by omega)
    have mo := (LF_go1 hh (gD_go (k := t) gDD) (HQ_go gDD (by omega) hQ) (hLt t (by omega)) (by omega)).2
    have mr := hM t
    have J : MJ (go1 (goS D0 t)) n V := fun i hi => by
      have a := g4 i hi
      have b := mo.1 i hi
      rw [x5 251 (by omega) (by omega), x5 252 (by omega) (by omega)]
      exact ⟨by have := a.1; omega, by have := a.2; omega⟩
    have v0 : V.1 248 0 = iN n := by
      rw [x5 248 (by omega) (by omega)]
      rw [show (v8, H).2 = H from rfl] at *
      rw [g5 248 (by omega) (by omega) (by omega) (by omega)]
      exact h0
    obtain ⟨K, y1, y2, y3⟩ := l335_c (u6 := iN T) (v8 := v8) (v9 := iN t) v0 x3 x4 mr lf hh.2 J
    have kD : DS n mm (goS D0 (t + 1)) K := DS_fr x3 (fun q q1 q2 => y3 q (by omega) (by omega) (by omega) (by omega))
    have kE : DS n (mm + 1) (goS E0 (t + 1)) (swG K) := DS_fr x4 (fun q q1 q2 => by
      rw [sw_lo (by omega), sw_lo (by omega)]
      exact y3 _ (by omega) (by omega) (by omega) (by omega))
    have z1 := ski kD (s := 0) (w := 2) (by omega) (by omega)
    have z2 := ski (DS_as (x := skinS 0 2 (goS D0 (t + 1))) kD) (s := 1) (w := 2) (by omega) (by omega)
    rw [sI_sI] at z2
    obtain ⟨K1, eK1⟩ : ∃ K1, K1 = sI K 0 16 (skinS 1 2 (goS D0 (t + 1))) := ⟨_, rfl⟩
    have tK1 : f_L_tells (iN 1) K1 = some (skinS 1 2 (goS D0 (t + 1))) := by rw [eK1]; exact tells_c
    have k1D : DS n mm (goS D0 (t + 1)) K1 := by rw [eK1]; exact DS_as kD
    have k1E : DS n (mm + 1) (goS E0 (t + 1)) (swG K1) := DS_lw kE (by rw [eK1]; exact (call_o (fun q hq => sI_p (by omega))).1)
    obtain ⟨C2, V2, p1, p2, p3, p4, p5, p6, p7⟩ := pair_s (s := 0) (w := 0) (s' := 1) k1D k1E (by omega) (by omega) (by omega)
    obtain ⟨C3, V3, r1, r2, r3, r4, r5, r6, r7⟩ := pair_s (s := 1) (w := 1) (s' := 0) p5 p6 (by omega) (by omega) (by omega)
    obtain ⟨C4, V4, s1, s2, s3, s4, s5, s6, s7⟩ := pair_s (s := 0) (w := 2) (s' := 1) r5 r6 (by omega) (by omega) (by omega)
    obtain ⟨C5, V5, u1, u2, u3, u4, u5, u6, u7⟩ := pair_s (s := 0) (w := 3) (s' := 0) s5 s6 (by omega) (by omega) (by omega)
    have m0 : skinS 1 0 (goS E0 (t + 1)) = skinS 0 0 (goS D0 (t + 1)) := MR_kind mr
    have m1 : skinS 0 1 (goS E0 (t + 1)) = skinS 1 1 (goS D0 (t + 1)) := mr.2.2.2.2.2.1.1
    have m2 : skinS 1 2 (goS E0 (t + 1)) = skinS 0 2 (goS D0 (t + 1)) := mr.2.2.2.2.2.2.1.2
    have m3 : ¬ skinS 0 3 (goS D0 (t + 1)) = skinS 0 3 (goS E0 (t + 1)) := by
      show ¬ (if goS D0 (t + 1) 44 = iN 0 then iN 1 else iN 0) = (if goS E0 (t + 1) 44 = iN 0 then iN 1 else iN 0)
      rcases mr.2.2.2.2.1 with ⟨a, b⟩ | ⟨a, b⟩
      · rw [a, b]
        decide
      · rw [a, b]
        decide
    rw [m0] at p4
    rw [m1] at r4
    rw [m2] at s4
    have b1 := lf.2.2.2.2.2 0 (by omega)
    have b2 := lf.2.2.2.2.2 1 (by omega)
    have b3 := mo.2 0 (by omega)
    have b4 := mo.2 1 (by omega)
    have b1 : 0 ≤ (goS D0 (t + 1) 50).toInt ∧ (goS D0 (t + 1) 50).toInt ≤ 20 * ((0 + (t + 1) : Nat) : Int) := b1
    have b2 : 0 ≤ (goS D0 (t + 1) 51).toInt ∧ (goS D0 (t + 1) 51).toInt ≤ 20 * ((0 + (t + 1) : Nat) : Int) := b2
    have g1 : v8.toInt ≤ (goS D0 t 50).toInt + (goS D0 t 51).toInt := g1
    have eb : (skinS 0 2 (goS D0 (t + 1)) + skinS 1 2 (goS D0 (t + 1))).toInt = (goS D0 (t + 1) 50).toInt + (goS D0 (t + 1) 51).toInt := by
      show (goS D0 (t + 1) 50 + goS D0 (t + 1) 51).toInt = _
      rw [t_add (by omega) (by omega)]
    have cb : ¬ skinS 0 2 (goS D0 (t + 1)) + skinS 1 2 (goS D0 (t + 1)) < v8 := fun x => by
      have x := t_lt.mp x
      rw [eb] at x
      have b3 : (goS D0 t 50).toInt ≤ (goS D0 (t + 1) 50).toInt := b3
      have b4 : (goS D0 t 51).toInt ≤ (goS D0 (t + 1) 51).toInt := b4
      omega
    refine ⟨(skinS 0 2 (goS D0 (t + 1)) + skinS 1 2 (goS D0 (t + 1)), V5), ⟨by show _ ≤ _; rw [eb]; exact Int.le_refl _, u5, u6, fun i hi => ?_, fun q q1 q2 q3 q4 => ?_⟩, ?_⟩
    · show (V5.1 251 i).toInt ≤ _ ∧ _ ≤ (V5.1 252 i).toInt
      rw [u7 _ (by omega) (by omega), s7 _ (by omega) (by omega), r7 _ (by omega) (by omega), p7 _ (by omega) (by omega), u7 _ (by omega) (by omega), s7 _ (by omega) (by omega), r7 _ (by omega) (by omega), p7 _ (by omega) (by omega), eK1, sI_p (by omega), sI_p (by omega), (y2 i hi).1, (y2 i hi).2]
      exact ⟨Int.le_refl _, Int.le_refl _⟩
    · show V5.1 q = _
      rw [u7 _ (by omega) (by omega), s7 _ (by omega) (by omega), r7 _ (by omega) (by omega), p7 _ (by omega) (by omega), eK1, sI_p (by omega), y3 q (by omega) (by omega) q3 q4, x5 q q1 q2]
      exact g5 q q1 q2 q3 q4
    · show f_L_law_l299_11 (iN T) (iN h) (f + 1) v8 (iN t) H = f_L_law_l299_11 (iN T) (iN h) f (skinS 0 2 (goS D0 (t + 1)) + skinS 1 2 (goS D0 (t + 1))) (iN (t + 1)) V5
      have x1 : f_X7_go (iN 1) H = some (iN (t + 1), C) := x1
      conv => lhs; unfold f_L_law_l299_11
      simp (maxSteps := 4000000) (disch := omega) only [chk_t, beq_self_eq_true, nm_s, bj1_s, bj2_s, bj3_s, mo_1, mo_0, l_0, l_1, l_2, l_3, l_4, l_5, l_6, l_7, l_8, l_9, l_10, l_11, l_12, l_13, l_14, l_15, l_16, l_17, l_18, l_19, l_20, l_21, l_24, l_30, l_31, l_32, l_36, l_40, l_41, l_42, l_43, l_44, l_45, l_46, l_47, l_48, l_49, l_50, l_51, l_52, l_57, l_58, l_60, l_61, l_64, l_72, l_80, l_92, l_98, l_99, l_100, l_102, l_105, l_111, l_112, l_114, l_115, l_116, l_117, l_120, l_144, l_200, l_201, l_240, l_300, l_320, l_400, l_500, l_512, l_550, l_560, l_649, l_650, l_1000, l_1032, l_1400, l_2000, l_4000, l_10000, l_268435455, iN_add, iN_sub, iN_mul, iN_le_t, iN_le_f, iN_lt_t, iN_lt_f, iN_eq_f, inb_iN, ix_iN, isZ_0, isZ_1, ↓reduceIte, eq_self, x1, x2, swG_swG, y1, z1, tells_c, z2, ← eK1, tK1, if_neg cb, p1, p2, p3, p4, r1, r2, r3, r4, s1, s2, s3, s4, u1, u2, u3, u4, if_neg m3]) (by
    intro f ⟨v8, H⟩ ⟨g1, g2, g3, g4, g5⟩
    refine ⟨H, ?_, g2, g3, g5⟩
    show f_L_law_l299_11 (iN T) (iN h) (f + 1) v8 (iN T) H = _
    unfold f_L_law_l299_11
    simp (disch := omega) only [chk_t, beq_self_eq_true, nm_s, bj1_s, bj2_s, bj3_s, mo_1, mo_0, l_0, l_1, l_2, l_3, l_4, l_5, l_6, l_7, l_8, l_9, l_10, l_11, l_12, l_13, l_14, l_15, l_16, l_17, l_18, l_19, l_20, l_21, l_24, l_30, l_31, l_32, l_36, l_40, l_41, l_42, l_43, l_44, l_45, l_46, l_47, l_48, l_49, l_50, l_51, l_52, l_57, l_58, l_60, l_61, l_64, l_72, l_80, l_92, l_98, l_99, l_100, l_102, l_105, l_111, l_112, l_114, l_115, l_116, l_117, l_120, l_144, l_200, l_201, l_240, l_300, l_320, l_400, l_500, l_512, l_550, l_560, l_649, l_650, l_1000, l_1032, l_1400, l_2000, l_4000, l_10000, l_268435455, iN_add, iN_sub, iN_mul, iN_le_t, iN_le_f, iN_lt_t, iN_lt_f, iN_eq_f, inb_iN, ix_iN, isZ_0, isZ_1, ↓reduceIte, eq_self]) (by omega) (n := FU) (fu_lt (by omega)) (s := (iN 0, G)) ⟨by
      have b1 := hL.2.2.2.2.2 0 (by omega)
      have b2 := hL.2.2.2.2.2 1 (by omega)
      show (iN 0).toInt ≤ (D0 50).toInt + (D0 51).toInt
      rw [li (by omega)]
      have b1 : 0 ≤ (D0 50).toInt ∧ _ := b1
      have b2 : 0 ≤ (D0 51).toInt ∧ _ := b2
      have b1 := b1.1
      have b2 := b2.1
      omega, hD, hE, hJ, fun _ _ _ _ _ => rfl⟩
  exact ⟨A, hA, i1, i2, i3⟩

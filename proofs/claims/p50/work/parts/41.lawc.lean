/-! behind the loop: the other dish at once, its slice, what is lost -/
theorem G8_slab : ∀ k, k < 4 → 1 ≤ k → G8.1 (71 + k) 0 = iN 0 := by decide +kernel
theorem G8_plan : ∀ k, k < 4 → 1 ≤ k → G8.1 (75 + 4 * k) 3 = iN 0 := by decide +kernel
theorem G8_row : ∀ r, r < 6 → G8.1 (51 + 2 * r) 1 = -iN 1 := by decide +kernel
theorem G8_text : ∀ t, t < 3 → G8.1 (63 + 2 * t) 1 = -iN 1 := by decide +kernel
theorem G8_17 : isZ (G8.1 17 7) = true := by decide +kernel
theorem xplan_c {k m : Nat} {s : Nat → Nat × Nat × Nat} {G : G_} (hk : k < 4) (hm : m ≤ 12) (h : TX 80 (plW s m) G) (hs : ∀ i, i < m → stg (s i)) (hT : tsN s m ≤ 200) : ∃ E, f_X7_plan (iN k) (iN 3) G = some (iN m, E) ∧ (∀ q, q ≠ 39 → (q < 41 ∨ 44 < q) → (q < 75 + 4 * k ∨ 75 + 4 * k + 4 ≤ q) → E.1 q = G.1 q) := by
  obtain ⟨D, d1, d2, d3, d4, d5⟩ := rdplan_c h hm hs hT
  obtain ⟨q1, ho⟩ := planAt_t hk G
  obtain ⟨E, e1, e2, e3, e4, e5, e6, e7⟩ := pbecome_ok (o := 75 + 4 * k) (a := 41) (G := D) ho rfl (by omega) d3.2.1 hm
  have o69 : kd 69 = 6 := rfl
  have tC : f_X7_textAt (iN 3) G = some (some 69) := (textAt_t (k := 3) (by omega) G).1
  have hC := tthere_t o69 h.1 (by omega)
  refine ⟨E, ?_, fun q g1 g2 g3 => by rw [e6 q g3, d4 q g1 g2]⟩
  unfold f_X7_plan
  simp (maxSteps := 4000000) (disch := omega) only [chk_t, beq_self_eq_true, nm_s, bj1_s, bj2_s, bj3_s, mo_1, mo_0, l_0, l_1, l_2, l_3, l_4, l_5, l_6, l_7, l_8, l_9, l_10, l_11, l_12, l_13, l_14, l_15, l_16, l_17, l_18, l_19, l_20, l_21, l_24, l_30, l_31, l_32, l_36, l_40, l_41, l_42, l_43, l_44, l_45, l_46, l_47, l_48, l_49, l_50, l_51, l_52, l_57, l_58, l_60, l_61, l_64, l_72, l_80, l_92, l_98, l_99, l_100, l_102, l_105, l_111, l_112, l_114, l_115, l_116, l_117, l_120, l_144, l_200, l_201, l_240, l_300, l_320, l_400, l_500, l_512, l_550, l_560, l_649, l_650, l_1000, l_1032, l_1400, l_2000, l_4000, l_10000, l_268435455, iN_add, iN_sub, iN_mul, iN_le_t, iN_le_f, iN_lt_t, iN_lt_f, iN_eq_f, inb_iN, ix_iN, isZ_0, isZ_1, ↓reduceIte, eq_self, tC, kd_b o69, q1, kd_b ho, hC, d1, d2, e1, e3]
theorem SL_px {k n m m' : Nat} {f : Nat → Nat} {s s' : Nat → Nat × Nat × Nat} {G : G_} (h : SL k n (px f m s) G) : SL k n (px f m' s') G := by
  have e : ∀ p, p < 4 → px f m' s' p = px f m s p := fun p hp => by rw [px_lo hp, px_lo hp]
  obtain ⟨h1, ⟨a, b, c, d⟩, ⟨x, y⟩, z⟩ := h
  refine ⟨h1, ⟨?_, ?_, ?_, ?_⟩, ⟨?_, y⟩, ?_⟩
  · rw [e 0 (by omega)]; exact a
  · rw [e 1 (by omega)]; exact b
  · rw [e 2 (by omega)]; exact c
  · rw [e 3 (by omega)]; exact d
  · rw [e 0 (by omega)]; exact x
  · rw [e 1 (by omega)]; exact z
/-- what the law's second half starts from -/
def LC (f : Nat → Nat) (m : Nat) (s : Nat → Nat × Nat × Nat) (V : G_) : Prop := (RW f m s V) ∧ (SL 0 (f 0) (px f m s) V) ∧ (PL 0 m (px f m s) V) ∧ (dga (f 0) m (goS (bgS (px f m s)) (tsN s m)) V) ∧ (isZ (V.1 17 7) = true) ∧ (∀ k, 1 ≤ k → k < 4 → V.1 (71 + k) 0 = iN 0) ∧ (∀ k, 1 ≤ k → k < 4 → V.1 (75 + 4 * k) 3 = iN 0) ∧ (SL 0 (f 0) (px f m s) (swG V)) ∧ (PL 0 m (px f m s) (swG V))
theorem LC.rw_ {f : Nat → Nat} {m : Nat} {s : Nat → Nat × Nat × Nat} {V : G_} (q_ : LC f m s V) : RW f m s V := q_.1
theorem LC.sl {f : Nat → Nat} {m : Nat} {s : Nat → Nat × Nat × Nat} {V : G_} (q_ : LC f m s V) : SL 0 (f 0) (px f m s) V := q_.2.1
theorem LC.pl {f : Nat → Nat} {m : Nat} {s : Nat → Nat × Nat × Nat} {V : G_} (q_ : LC f m s V) : PL 0 m (px f m s) V := q_.2.2.1
theorem LC.dg_ {f : Nat → Nat} {m : Nat} {s : Nat → Nat × Nat × Nat} {V : G_} (q_ : LC f m s V) : dga (f 0) m (goS (bgS (px f m s)) (tsN s m)) V := q_.2.2.2.1
theorem LC.z17 {f : Nat → Nat} {m : Nat} {s : Nat → Nat × Nat × Nat} {V : G_} (q_ : LC f m s V) : isZ (V.1 17 7) = true := q_.2.2.2.2.1
theorem LC.ns {f : Nat → Nat} {m : Nat} {s : Nat → Nat × Nat × Nat} {V : G_} (q_ : LC f m s V) : ∀ k, 1 ≤ k → k < 4 → V.1 (71 + k) 0 = iN 0 := q_.2.2.2.2.2.1
theorem LC.np {f : Nat → Nat} {m : Nat} {s : Nat → Nat × Nat × Nat} {V : G_} (q_ : LC f m s V) : ∀ k, 1 ≤ k → k < 4 → V.1 (75 + 4 * k) 3 = iN 0 := q_.2.2.2.2.2.2.1
theorem LC.qsl {f : Nat → Nat} {m : Nat} {s : Nat → Nat × Nat × Nat} {V : G_} (q_ : LC f m s V) : SL 0 (f 0) (px f m s) (swG V) := q_.2.2.2.2.2.2.2.1
theorem LC.qpl {f : Nat → Nat} {m : Nat} {s : Nat → Nat × Nat × Nat} {V : G_} (q_ : LC f m s V) : PL 0 m (px f m s) (swG V) := q_.2.2.2.2.2.2.2.2
/-- the two worlds that differ in what is of no use -/
def scr (q : Nat) : Prop := q = 0 ∨ (17 ≤ q ∧ q ≤ 49)
def cs (G A : G_) : Prop := (∀ q, ¬ scr q → A.1 q = G.1 q) ∧ (isZ (G.1 17 7) = true → isZ (A.1 17 7) = true)
theorem cs_refl {G : G_} : cs G G := ⟨fun _ _ => rfl, id⟩
theorem cs_tr {G A B : G_} (h : cs G A) (h2 : cs A B) : cs G B := ⟨fun q hq => (h2.1 q hq).trans (h.1 q hq), fun e => h2.2 (h.2 e)⟩
theorem cs_cc {G A : G_} {x : Int32} (h : cc G A) : cs G (sI A 0 16 x) := ⟨fun q hq => by
  unfold scr at hq
  rw [sI_p (by omega)]
  exact h.1 q (by omega), fun e => by rw [sI_p (by omega)]; exact h.2.2 e⟩
theorem cs_c0 {G A : G_} (h : cc G A) : cs G A := ⟨fun q hq => by
  unfold scr at hq
  exact h.1 q (by omega), h.2.2⟩
theorem cs_as {G : G_} {x : Int32} : cs G (sI G 0 16 x) := cs_cc cc_refl
theorem dga_fr {n mm : Nat} {D : Nat → Int32} {G A : G_} (h : dga n mm D G) (e : dge G A) : dga n mm D A := ⟨DS_dge h.ds e, fun k hk => by rw [e.1 _ (by omega)]; exact h.pl k hk, fun r hr => by
    rw [dge_row e hr]
    exact h.rw_ r hr, by rw [e.2]; exact h.r4, fun t ht => by rw [e.1 _ (by omega)]; exact h.tx t ht⟩
theorem dge_cs {G A : G_} (h : cs G A) : dge G A := ⟨fun q hq => h.1 q (by unfold scr; omega), by rw [h.1 59 (by unfold scr; omega)]⟩
theorem LC_cs {f : Nat → Nat} {m : Nat} {s : Nat → Nat × Nat × Nat} {V A : G_} (h : LC f m s V) (e : cs V A) : LC f m s A := by
  have l : lw (swG V) (swG A) := fun q hq => by rw [sw_lo hq, sw_lo hq]; exact e.1 _ (by unfold scr; omega)
  exact ⟨RW_hg h.rw_ (fun q hq => e.1 q (by unfold scr; omega)), SL_fr h.sl (e.1 _ (by unfold scr; omega)), PL_fr h.pl (fun q h1 h2 => e.1 q (by unfold scr; omega)), dga_fr h.dg_ (dge_cs e), e.2 h.z17, fun k h1 h2 => by rw [e.1 _ (by unfold scr; omega)]; exact h.ns k h1 h2, fun k h1 h2 => by rw [e.1 _ (by unfold scr; omega)]; exact h.np k h1 h2, SL_lw (by omega) h.qsl l, PL_lw (by omega) h.qpl l⟩
set_option maxHeartbeats 4000000 in
theorem lawC_c {sl : Nat} {xs : Nat → Int32} {f : Nat → Nat} {m h : Nat} {s : Nat → Nat × Nat × Nat} {G1 : G_} (B : LB f m s h G1) : ∃ w V, f_L_lawC sl xs (iN (tsN s m)) (iN h) (z0 252 (z0 251 G1)) = (bj2 (f_L_ways sl xs 248 V) fun x193 G192 => if x193 = iN 0 then none else some (w, G192)) ∧ LC f m s V ∧ f_X7_digest V = some w := by
  have hf := B.hf
  have hf3 := hf.2.2.2.2
  have hf1 := hf.2.2.1
  have m1 := B.m1
  have m6 := B.m6
  have hT : tsN s m ≤ 108 := by have := ts_le B.h18 m; omega
  have hq30 : ∀ i, (s i).2.1 ≤ 30 := fun i => by
    obtain ⟨g1, g2, g3, g4, g5, g6⟩ := B.hs i
    by_cases c : (s i).1 ≤ 3
    · exact (g3 c).2
    · rw [g4 (by omega)]
      omega
  obtain ⟨X, eX⟩ : ∃ X, X = px f m s := ⟨_, rfl⟩
  obtain ⟨Y, eY⟩ : ∃ Y, Y = px f (m + 1) (trN s) := ⟨_, rfl⟩
  obtain ⟨n, en⟩ : ∃ n, n = f 0 := ⟨_, rfl⟩
  have bn : 3 ≤ n ∧ n ≤ 20 := by rw [en]; exact ⟨hf.1, hf.2.1⟩
  have sX := B.sl
  have pX := B.pl
  have dX := B.ds
  have sY := B.qsl
  have dY := B.qds
  have RX := B.rw_
  have trXY : trX m X Y := by rw [eX, eY]; exact px_tr
  have hQ : HQ h m (bgS X) := by rw [eX]; exact px_hq (by omega) (fun i _ => hq30 i) B.hq
  have X1 : (X 1).toInt = f 1 := by rw [eX, px_lo (by omega), li (by omega)]
  have X3 : (X 3).toInt = f 3 := by rw [eX, px_lo (by omega), li (by omega)]
  have tX : tkS X = iN (tsN s m) := by rw [eX]; exact px_tk (by omega)
  rw [← eX, ← en] at sX dX
  rw [← eX] at pX
  rw [← eY, ← en] at sY dY
  have hc := B.hc
  have hL : LF h 0 (bgS X) n := LF_bg sX.2.2 (by rw [mD_N pX.2.2.1 (by omega)]; omega) (by rw [X3]; omega) B.hh.2 (by rw [X1]; omega)
  have gX := dX.2.1
  have gY := dY.2.1
  have mirror : ∀ t, MR n (goS (bgS X) (t + 1)) (goS (bgS Y) (t + 1)) := fun t => by
    rw [go_tr (mm := m) (by omega) gY trXY.2.2.1 trXY.2.2.2.1 t]
    exact (QR_go gX (QR_bg sX.2.2.1 (by omega) trXY) (by omega)).1
  -- the rows
  obtain ⟨Z, eZ⟩ : ∃ Z, Z = z0 252 (z0 251 G1) := ⟨_, rfl⟩
  have kZ : ∀ q, q ≠ 251 → q ≠ 252 → Z.1 q = G1.1 q := fun q h1 h2 => by
    rw [eZ]
    funext j
    show (if q = 252 then 0 else if q = 251 then 0 else G1.1 q j) = _
    rw [if_neg h2, if_neg h1]
  have z251 : ∀ i, Z.1 251 i = iN 0 := fun i => by rw [eZ]; rfl
  obtain ⟨A1, h1, f1, k1⟩ := l272_c (u6 := iN (tsN s m)) (u7 := iN h) (n := n) (G := Z) (by rw [kZ 248 (by omega) (by omega), en]; exact RX.1 0 (by omega)) bn.2
  have K1 : ∀ q, q ≠ 251 → q ≠ 252 → A1.1 q = G1.1 q := fun q g1 g2 => by rw [k1 q g2, kZ q g1 g2]
  have d1 : DS n m (bgS X) A1 := DS_fr dX (fun q q1 q2 => K1 q (by omega) (by omega))
  have e1 : DS n (m + 1) (bgS Y) (swG A1) := DS_fr dY (fun q q1 q2 => by rw [sw_lo (by omega), sw_lo (by omega)]; exact K1 _ (by omega) (by omega))
  have J1 : MJ (bgS X) n A1 := fun i hi => by
    have a := hL.2.1 i hi
    have b := hL.2.2.1 i hi
    have c := hL.2.2.2.1 i hi
    rw [k1 251 (by omega), z251, f1 i hi, li (by omega), li (by omega)]
    omega
  obtain ⟨A2, h2, d2, e2, k2⟩ := l299_c (u6 := iN (tsN s m)) (T := tsN s m) rfl (by omega) (by omega) (by rw [K1 248 (by omega) (by omega), en]; exact RX.1 0 (by omega)) d1 e1 mirror hL hQ B.hh J1 (bg_41 (by omega) (by omega)) (bg_41 (by omega) (by omega))
  have K2 : ∀ q, 16 ≤ q → q < 124 ∨ 140 ≤ q → q ≠ 251 → q ≠ 252 → A2.1 q = G1.1 q := fun q g1 g2 g3 g4 => by rw [k2 q g1 g2 g3 g4, K1 q g3 g4]
  have R2 : RW f m s A2 := ⟨fun i hi => by rw [K2 248 (by omega) (by omega) (by omega) (by omega)]; exact RX.1 i hi, stR_fr RX.2.1 (K2 249 (by omega) (by omega) (by omega) (by omega)), stR_fr RX.2.2 (K2 250 (by omega) (by omega) (by omega) (by omega))⟩
  have s2 : SL 0 n X A2 := SL_fr sX (K2 _ (by omega) (by omega) (by omega) (by omega))
  have p2 : PL 0 m X A2 := PL_fr pX (fun q q1 q2 => K2 q (by omega) (by omega) (by omega) (by omega))
  have q2 : SL 0 n X (swG A2) := by
    have h : SL 0 n Y (swG A2) := SL_fr sY (by rw [sw_lo (by omega), sw_lo (by omega)]; exact K2 _ (by omega) (by omega) (by omega) (by omega))
    rw [eX]
    rw [eY] at h
    exact SL_px h
  have x2 : TX 80 (plW (trN s) (m + 1)) (swG A2) := TX_fr B.qtx (by rw [sw_lo (by omega), sw_lo (by omega)]; exact K2 _ (by omega) (by omega) (by omega) (by omega)) (by rw [sw_lo (by omega), sw_lo (by omega)]; exact K2 _ (by omega) (by omega) (by omega) (by omega))
  have C2 : CL A2 := ⟨fun q hq => by
    have hq' := hq
    unfold clq at hq
    rw [K2 q (by omega) (by omega) (by omega) (by omega)]
    exact B.cl.1 q hq', by rw [K2 69 (by omega) (by omega) (by omega) (by omega)]; exact B.cl.2⟩
  have hsT : ∀ i, i < m + 1 → stg (trN s i) := fun i hi => by
    unfold trN
    split
    · exact ⟨by show 1 ≤ 5; omega, by show 5 ≤ 6; omega, fun h => absurd h (by show ¬ 5 ≤ 3; omega), fun _ => rfl, fun h => absurd h (by show ¬ 5 ≤ 4; omega), fun _ => rfl⟩
    · exact B.hs _
  -- q's plans
  obtain ⟨A3, h3, k3⟩ := xplan_c (k := 0) (m := m + 1) (s := trN s) (G := swG A2) (by omega) (by omega) x2 hsT (by have := trN_ts s m; omega)
  have w3 := call_q (G := A2) (A := A3) (fun q hq => k3 q (by omega) (by omega) (by omega))
  have R3 := RW_hg R2 w3.2
  have e250 : (swG A3).1 250 0 = iN (m + 1) := R3.2.2.1
  obtain ⟨A4, h4, t4, a4, b4, c4, v4, k4, -⟩ := plan_c (k := 0) (a2 := 249) (m := m) (s := s) (G := A3) (by omega) (by omega) (by omega) (stR_fr R3.2.1 (by rw [sw_hi (by omega)])) (fun i _ => B.hs i) (by omega)
  have w4 := call_q (G := swG A3) (A := A4) (fun q hq => by rw [swG_swG]; exact k4 q (by omega) (by omega) (by omega) (by omega) (by omega))
  have R4 := RW_hg R3 w4.2
  have l4 : lw A2 (swG A4) := lw_tr w3.1 w4.1
  have s4 : SL 0 n X A4 := SL_fr q2 (by rw [k4 _ (by omega) (by omega) (by omega) (by omega) (by omega), k3 _ (by omega) (by omega) (by omega)])
  have p4 : PL 0 m X A4 := by rw [eX]; exact ⟨a4, cPl_of (by omega) b4 c4 v4, px_pl (by omega) (fun i _ => B.hs i) (by omega)⟩
  obtain ⟨A5, h5, g5, t5, k5, -⟩ := dish_c (s := 0) (p := 0) (G := A4) (by omega) s4.1 s4.2.1 s4.2.2 (by omega) p4.1 p4.2.1 p4.2.2
  rw [tX] at h5
  have D5 : DS n m (bgS X) A5 := ⟨t5, gX, g5⟩
  have z43 : bgS X 43 = iN 0 := bg_41 (by omega) (by omega)
  obtain ⟨A6, h6, g6, f6⟩ := go_c (c := tsN s m) (G := A5) D5.1 gX g5 (by omega) (by rw [z43, iN_add]; exact (iN_le (by omega) (by omega)).mpr (by omega))
  rw [go_43 gX z43] at h6
  obtain ⟨D, eD⟩ : ∃ D, D = goS (bgS X) (tsN s m) := ⟨_, rfl⟩
  rw [← eD] at g6 d2
  have gD' : gD D n m := by rw [eD]; exact gD_go gX
  have D6 : DS n m D A6 := ⟨f6.2.trans t5, gD', g6⟩
  obtain ⟨A7, h7, a7, b7, k7, -⟩ := slice_c (r := 0) (G := A6) (by omega) D6.1 D6.2.1 D6.2.2
  have D7 : DS n m D A7 := DS_fr D6 (fun q q1 q2 => k7 q (by omega) (by omega))
  have k47 : ∀ q, 16 ≤ q → q ≠ 51 → q ≠ 52 → A7.1 q = A4.1 q := fun q g1 g2 g3 => by rw [k7 q (by omega) (by omega), f6.1.1 q (by omega), k5 q (by omega)]
  have w7 := call_q (G := swG A4) (A := A7) (fun q hq => by rw [swG_swG]; exact k47 q (by omega) (by omega) (by omega))
  have R7 := RW_hg R4 w7.2
  have l7 : lw A2 (swG A7) := lw_tr l4 w7.1
  have s7 : SL 0 n X A7 := SL_fr s4 (k47 _ (by omega) (by omega) (by omega))
  have p7 : PL 0 m X A7 := PL_fr p4 (fun q q1 q2 => k47 q (by omega) (by omega) (by omega))
  have od7 := DS_lw d2 l7
  obtain ⟨A8, h8, a8, b8, k8, -⟩ := slice_c (r := 0) (G := swG A7) (by omega) od7.1 od7.2.1 od7.2.2
  have w8 := call_o (G := swG A7) (A := A8) (fun q hq => k8 q (by omega) (by omega))
  rw [swG_swG] at w8
  have R8 := RW_hg R7 w8.2
  have D8 : DS n m D (swG A8) := DS_lw D7 w8.1
  have s8 : SL 0 n X (swG A8) := SL_lw (by omega) s7 w8.1
  have p8 : PL 0 m X (swG A8) := PL_lw (by omega) p7 w8.1
  have o8 : ∀ q, 5 ≤ q → q < 124 → q ≠ 51 → q ≠ 52 → A8.1 q = A2.1 q := fun q g1 g2 g3 g4 => by rw [k8 q (by omega) (by omega), l7 q g2]
  have hLD := LF_go B.hh gX (by omega) hQ hL (tsN s m) (by omega)
  rw [← eD] at hLD
  have jn := just_all hLD
  have h9 := just_c (a := 0) (b := 4000) (G := swG A8) D8.1 D8.2.1 D8.2.2 (by omega) (by omega)
  rw [jn] at h9
  obtain ⟨A9, eA9⟩ : ∃ A9, A9 = swG (sI (swG A8) 0 16 (juicesS D)) := ⟨_, rfl⟩
  have k9 : ∀ q, q ≠ 124 → A9.1 q = A8.1 q := fun q hq => by rw [eA9]; exact swsI hq
  have sw9 : swG A9 = sI (swG A8) 0 16 (juicesS D) := by rw [eA9, swG_swG]
  have as9 : f_X7_asked (swG A9) = some (juicesS D) := by rw [sw9, asked_c, sI_eq]
  have n9 : A9.1 248 0 = iN n := by rw [k9 248 (by omega), en]; exact R8.1 0 (by omega)
  have D9 : DS n m D A9 := DS_fr d2 (fun q q1 q2 => by rw [k9 q (by omega), o8 q (by omega) (by omega) (by omega) (by omega)])
  have h10 := just_c (a := 0) (b := 4000) (G := A9) D9.1 D9.2.1 D9.2.2 (by omega) (by omega)
  rw [jn] at h10
  obtain ⟨A10, eA10⟩ : ∃ A10, A10 = sI A9 0 16 (juicesS D) := ⟨_, rfl⟩
  rw [← eA10] at h10
  have as10 : f_X7_asked A10 = some (juicesS D) := by rw [eA10, asked_c, sI_eq]
  have n10 : A10.1 248 0 = iN n := by rw [eA10, sI_p (by omega)]; exact n9
  have k10 : ∀ q, q ≠ 0 → q ≠ 124 → A10.1 q = A8.1 q := fun q q1 q2 => by rw [eA10, sI_p q1, k9 q q2]
  have o10 : ∀ q, 5 ≤ q → q < 124 → q ≠ 51 → q ≠ 52 → A10.1 q = A2.1 q := fun q g1 g2 g3 g4 => by rw [k10 q (by omega) (by omega), o8 q g1 g2 g3 g4]
  have s10 : SL 0 n X A10 := SL_fr s2 (o10 _ (by omega) (by omega) (by omega) (by omega))
  have p10 : PL 0 m X A10 := PL_fr p2 (fun q q1 q2 => o10 q (by omega) (by omega) (by omega) (by omega))
  have D10 : DS n m D A10 := DS_fr d2 (fun q q1 q2 => o10 q (by omega) (by omega) (by omega) (by omega))
  have c10 : ∀ q, clq q → q ≠ 51 → q ≠ 52 → A10.1 q = G8.1 q := fun q hq g1 g2 => by
    have hq' := hq
    unfold clq at hq
    rw [o10 q (by omega) (by omega) g1 g2]
    exact C2.1 q hq'
  have ns10 : ∀ k, 1 ≤ k → k < 4 → A10.1 (71 + k) 0 = iN 0 := fun k g1 g2 => by rw [c10 _ (by unfold clq; omega) (by omega) (by omega)]; exact G8_slab k g2 g1
  have np10 : ∀ k, 1 ≤ k → k < 4 → A10.1 (75 + 4 * k) 3 = iN 0 := fun k g1 g2 => by rw [c10 _ (by unfold clq; omega) (by omega) (by omega)]; exact G8_plan k g2 g1
  have r10 : A10.1 51 1 = iN n := by rw [k10 51 (by omega) (by omega)]; exact a8
  have mkD : ∀ p, 50 ≤ p → mkS X p = D p := fun p hp => by rw [mk_hi tX (by omega) hp, eD]
  have W10 : WH n m X A10 := ⟨s10, p10, ns10, np10, r10, fun i hi => by
    rw [k10 52 (by omega) (by omega)]
    have := b8 i (by omega)
    rw [if_pos hi] at this
    refine Eq.trans this ?_
    unfold colS
    rw [mkD _ (by omega)]⟩
  have dg10 : dga n m D A10 := ⟨D10, fun k hk => by
      by_cases c : k = 0
      · subst c
        exact Or.inr ⟨m, by omega, p10.2.1.1.trans p10.2.2.1⟩
      · exact Or.inl (np10 k (by omega) hk), fun r hr => by
      by_cases c : r = 0
      · subst c
        exact Or.inr ⟨n, by omega, r10⟩
      · left
        rw [c10 _ (by unfold clq; omega) (by omega) (by omega)]
        exact G8_row r hr, by rw [c10 59 (by unfold clq; omega) (by omega) (by omega)]; exact G8_row 4 (by omega), fun t ht => by
      by_cases c : t = 3
      · subst c
        refine Or.inr ⟨80, by omega, ?_⟩
        rw [o10 _ (by omega) (by omega) (by omega) (by omega)]
        exact C2.2
      · left
        rw [c10 _ (by unfold clq; omega) (by omega) (by omega)]
        exact G8_text t (by omega)⟩
  have R10 : RW f m s A10 := RW_hg R8 (fun q hq => k10 q (by omega) (by omega))
  have l10 : lw (swG A9) (swG A10) := by rw [eA10]; exact (call_o (fun q hq => sI_p (by omega))).1
  have qs10 : SL 0 n X (swG A10) := by
    refine SL_lw (by omega) ?_ l10
    rw [sw9]
    exact SL_fr s8 (sI_p (by omega))
  have qp10 : PL 0 m X (swG A10) := by
    refine PL_lw (by omega) ?_ l10
    rw [sw9]
    exact PL_fr p8 (fun q q1 q2 => sI_p (by omega))
  have L10 : LC f m s A10 := by
    refine ⟨R10, ?_, ?_, ?_, ?_, ns10, np10, ?_, ?_⟩
    · rw [← eX, ← en]; exact s10
    · rw [← eX]; exact p10
    · rw [← eX, ← en, ← eD]; exact dg10
    · rw [c10 17 (by unfold clq; omega) (by omega) (by omega)]; exact G8_17
    · rw [← eX, ← en]; exact qs10
    · rw [← eX]; exact qp10
  -- told from its slice
  obtain ⟨H11, h11, cc11⟩ := which_c W10
  obtain ⟨A11, eA11⟩ : ∃ A11, A11 = sI H11 0 16 (iN 0) := ⟨_, rfl⟩
  rw [← eA11] at h11
  have as11 : f_X7_asked A11 = some (iN 0) := by rw [eA11, asked_c, sI_eq]
  have S11 : cs A10 A11 := by rw [eA11]; exact cs_cc cc11
  obtain ⟨H12, h12, cc12⟩ := odds_c (WH_fr W10 (A := A11) (fun q q1 q2 => S11.1 q (by unfold scr; omega)))
  obtain ⟨A12, eA12⟩ : ∃ A12, A12 = sJ (sJ H12 0 17 1) 0 18 1 := ⟨_, rfl⟩
  rw [← eA12] at h12
  have up12 : f_X7_upper A12 = some 1 := by rw [eA12, upper_c]; rfl
  have S12 : cs A10 A12 := by
    rw [eA12]
    exact cs_tr S11 ⟨(cs_c0 cc12).1, (cs_c0 cc12).2⟩
  have L12 := LC_cs L10 S12
  -- what is lost
  have D12 : DS n m D A12 := DS_fr D10 (fun q q1 q2 => S12.1 q (by unfold scr; omega))
  obtain ⟨H13, h13, cc13⟩ := cut_c (c := 7) (G := A12) D12.1 D12.2.1 D12.2.2 (by omega)
  obtain ⟨A13, eA13⟩ : ∃ A13, A13 = sI H13 0 16 (lossS (restS D 7)) := ⟨_, rfl⟩
  rw [← eA13] at h13
  have as13 : f_X7_asked A13 = some (lossS (restS D 7)) := by rw [eA13, asked_c, sI_eq]
  have S13 : cs A10 A13 := by
    rw [eA13]
    exact cs_tr S12 (cs_cc cc13)
  have s13 : SL 0 n X A13 := SL_fr s10 (S13.1 _ (by unfold scr; omega))
  have p13 : PL 0 m X A13 := PL_fr p10 (fun q q1 q2 => S13.1 q (by unfold scr; omega))
  obtain ⟨H14, h14, cc14⟩ := rest_c (k := 0) (p := 0) (G := A13) (by omega) s13.1 s13.2.1 s13.2.2 (by omega) p13.1 p13.2.1 p13.2.2
  have wfm := wf_mk s13.2.2 p13.2.2
  have jbm := jB_mk s13.2.2 p13.2.2
  have lr : ∀ j, lossS (restS (mkS X) j) = iN (ix (lossS (restS (mkS X) j))) ∧ ix (lossS (restS (mkS X) j)) ≤ 2000 := fun j => by
    obtain ⟨k, hk, ek⟩ := loss_R (wf_rest (k := j) wfm) (jB_rest (k := j) wfm jbm)
    rw [ek, ix_iN (by omega)]
    exact ⟨rfl, hk⟩
  obtain ⟨t, ht, et, mt⟩ := mnA_min (F := fun j => lossS (restS (mkS X) j)) (g := fun j => ix (lossS (restS (mkS X) j))) (fun j => (lr j).1) (fun j => by have := (lr j).2; omega) 31 (by omega)
  have et : mnA (fun j => lossS (restS (mkS X) j)) 1 (iN 0, lossS (mkS X)) 31 = (iN t, iN (ix (lossS (restS (mkS X) t)))) := et
  have mt : ∀ s, s < 31 → ix (lossS (restS (mkS X) t)) ≤ ix (lossS (restS (mkS X) s)) := mt
  rw [et] at h14
  obtain ⟨A14, eA14⟩ : ∃ A14, A14 = sI H14 0 16 (iN (ix (lossS (restS (mkS X) t)))) := ⟨_, rfl⟩
  have h14 : f_X7_rest (iN 0) (iN 0) A13 = some (iN t, A14) := by rw [eA14]; exact h14
  have as14 : f_X7_asked A14 = some (iN (ix (lossS (restS (mkS X) t)))) := by rw [eA14, asked_c, sI_eq]
  have S14 : cs A10 A14 := by
    rw [eA14]
    exact cs_tr S13 (cs_cc cc14)
  have D14 : DS n m D A14 := DS_fr D10 (fun q q1 q2 => S14.1 q (by unfold scr; omega))
  obtain ⟨H15, h15, cc15⟩ := rise_c (G := A14) D14.1 D14.2.1 D14.2.2
  obtain ⟨A15, eA15⟩ : ∃ A15, A15 = sI H15 0 16 (riA (fun k => midW (restS D k)) 60) := ⟨_, rfl⟩
  rw [← eA15] at h15
  have S15 : cs A10 A15 := by
    rw [eA15]
    exact cs_tr S14 (cs_cc cc15)
  have L15 := LC_cs L10 S15
  have S1215 : dge A12 A15 := ⟨fun q hq => by rw [S15.1 q (by unfold scr; omega), S12.1 q (by unfold scr; omega)], by rw [S15.1 59 (by unfold scr; omega), S12.1 59 (by unfold scr; omega)]⟩
  obtain ⟨w, dw1, dw2⟩ := lk_digest L12.dg_ S1215
  -- the comparisons
  have nD0 : mkS X 0 = D 0 := by
    rw [mk_lo s13.2.2 p13.2.2 (by omega), eD, go_lo gX (by omega), bg_lo (by omega)]
  have lossD : lossS D = lossS (mkS X) := loss_hi (fun p hp => by
    rcases hp with rfl | hp
    · exact nD0.symm
    · exact (mkD p hp).symm)
  have le := loss_le hLD.1 hLD.2.2.2.1
  obtain ⟨kl, bl, ekl⟩ := loss_R (wf_rest (k := 7) hLD.1) (jB_rest (k := 7) hLD.1 hLD.2.2.2.1)
  obtain ⟨k0, b0, ek0⟩ := loss_R hLD.1 hLD.2.2.2.1
  have l0 := (lr 0).1
  have l0 : lossS (mkS X) = iN (ix (lossS (restS (mkS X) 0))) := l0
  have e0 : ix (lossS (restS (mkS X) 0)) = k0 := by
    show ix (lossS (mkS X)) = k0
    rw [← lossD, ek0, ix_iN (by omega)]
  have m0 := mt 0 (by omega)
  rw [e0] at m0
  have c1 : ¬ lossS D < iN 0 := by rw [ek0]; exact of_eq_false (iN_lt_f (by omega) (by omega))
  have c2 : ¬ juicesS D < lossS D := fun x => by have := t_lt.mp x; omega
  have c3 : ¬ lossS (restS D 7) < iN 0 := by rw [ekl]; exact of_eq_false (iN_lt_f (by omega) (by omega))
  have c4 := rise_0 hLD.1 60
  have c5 : ¬ lossS D < iN (ix (lossS (restS (mkS X) t))) := by rw [ek0]; exact of_eq_false (iN_lt_f (by omega) (by omega))
  have c6 : t = 0 → iN (ix (lossS (restS (mkS X) t))) = lossS D := fun e => by
    rw [e, e0, ek0]
  have c7 : (s (m - 1)).1 ≤ 4 → iN (ix (lossS (restS (mkS X) t))) ≤ lossS (restS D 7) := fun hl => by
    have pg := PG_all (s := s) B.hs gX (by omega) (fun i hi => by rw [bg_lo (by omega), bg_lo (by omega), eX]; exact ⟨px_k, px_l⟩) ⟨0, 0, pl_bg p13.2.2, rfl⟩ (tsN s m) (Nat.le_refl _)
    rw [← eD] at pg
    have eo := PG_end B.hs m1 hl (fun i hi => by rw [eD, go_lo gX (by omega), bg_lo (by omega), eX]; exact px_l) pg
    have em : mkS X = D := by
      unfold mkS
      rw [tX, ix_iN (by omega), ← eD, eo]
    have a := mt 7 (by omega)
    have b := (lr 7).1
    rw [em] at a b ⊢
    rw [b]
    exact (iN_le (by have := (lr t).2; rw [em] at this; omega) (by have := (lr 7).2; rw [em] at this; omega)).mpr a
  have l249 : A15.1 249 0 = iN m := L15.rw_.2.1.1
  have lk_ : A15.1 249 (1 + 3 * (m - 1)) = iN (s (m - 1)).1 := (L15.rw_.2.1.2 (m - 1) (by omega)).1
  have sg := B.hs (m - 1)
  refine ⟨w, A15, ?_, L15, dw2⟩
  rw [← eZ]
  refine lawC_ev (n := n) (m := m) h1 h2 h3 e250 h4 h5 h6 h7 h8 h9 eA9 n9 as9 h10 n10 as10 h11 as11 h12 up12 dw1 h13 as13 h14 as14 h15 c1 c2 c3 c4 (of_eq_false (iN_lt_f (by omega) (by omega))) (of_eq_false (iN_lt_f (by omega) (by omega))) c5 (fun e => ?_) dw2 l249 ⟨m1, m6⟩ lk_ (fun e => ?_)
  · exact c6 ((iN_inj (by omega) (by omega)).mp e)
  · have b6 := sg.2.1
    exact c7 (by
      by_cases c : (s (m - 1)).1 ≤ 4
      · exact c
      · exact absurd ((iN_le (by omega) (by omega)).mpr (by omega)) e)

/-! the law's salts() -/
theorem salts_ev {m T t : Nat} {one other crust : Int32} {V A1 Z B1 B2 A3 A4 A5 A6 A7 A8 A9 A10 A11 : G_} {kd_ x : Int32}
  (h1 : f_X7_salt (iN 0) (iN 0) V = some (iN t, A1)) (a1 : f_X7_asked A1 = some crust)
  (eZ : Z = z0 253 A1)
  (h2 : f_L_copy 248 253 (iN 8) Z = some B1) (eB : B2 = sI B1 253 2 (iN t))
  (ht : t ≤ 50)
  (h3 : f_L_slab (iN 1) 253 (swG B2) = some (iN 1, A3))
  (h4 : f_X7_dish (iN 1) (iN 0) A3 = some (iN T, A4))
  (t4 : f_L_ticks 249 (swG A4) = some (iN T))
  (h5 : f_X7_go (iN T) A4 = some (iN T, A5))
  (t5 : f_L_ticks 249 (swG A5) = some (iN T))
  (h6 : f_X7_skin (iN 0) (iN 2) A5 = some (iN 1, A6)) (t6 : f_L_tells (iN 1) A6 = some one)
  (h7 : f_X7_skin (iN 1) (iN 2) A6 = some (iN 1, A7)) (t7 : f_L_tells (iN 1) A7 = some other)
  (h8 : f_X7_thick (iN 0) (iN 0) (iN 0) (iN 4000) (swG A7) = some (iN 18, A8)) (t8 : f_X7_asked A8 = some (iN 3))
  (l249 : A8.1 249 0 = iN m) (hm : 1 ≤ m ∧ m ≤ 6) (lk_ : A8.1 249 (1 + 3 * (m - 1)) = kd_)
  (cr : crust = if other ≤ one then other else one)
  (h9 : f_X7_order (iN 1) (iN 4) A8 = some (x, A9)) (t9 : ¬ x < iN 0)
  (h10 : f_X7_at (iN 4) (iN 0) A9 = some (iN 1, A10)) (t10 : f_X7_asked A10 = some (iN 0))
  (h11 : f_X7_tear (iN 4) A10 = some (iN 1, A11)) : f_L_salts V = some (iN 1, A11) := by
  have i40 : inb (iN 0) 40 = true := by decide
  have i2 : inb (iN 2) 8 = true := by decide
  have x0 : ix (iN 0) = 0 := by decide
  have x2 : ix (iN 2) = 2 := by decide
  have o1 : ¬ iN 1 = iN 0 := by decide
  have im : iN 1 + iN 3 * (iN m - iN 1) = iN (1 + 3 * (m - 1)) := by rw [iN_sub hm.1, iN_mul, iN_add]
  have i40m : inb (iN (1 + 3 * (m - 1))) 40 = true := inb_iN (by omega) (by omega)
  have xm : ix (iN (1 + 3 * (m - 1))) = 1 + 3 * (m - 1) := ix_iN (by omega)
  have q1 : ¬ iN t < iN 0 := of_eq_false (iN_lt_f (by omega) (by omega))
  have q2 : ¬ iN 50 < iN t := of_eq_false (iN_lt_f (by omega) (by omega))
  have j : f_L_salts_j156_q40 (iN 18) A8 = some (iN 1, A11) := by
    unfold f_L_salts_j156_q40
    simp only [l_0, l_1, l_2, l_3, l_4, l_5, l_6, l_7, l_8, l_9, l_10, l_11, l_12, l_13, l_14, l_15, l_16, l_17, l_18, l_19, l_20, l_21, l_24, l_30, l_31, l_32, l_36, l_40, l_41, l_42, l_43, l_44, l_45, l_46, l_47, l_48, l_49, l_50, l_51, l_52, l_57, l_58, l_60, l_61, l_64, l_72, l_80, l_92, l_98, l_99, l_100, l_102, l_105, l_111, l_112, l_114, l_115, l_116, l_117, l_120, l_144, l_200, l_201, l_240, l_300, l_320, l_400, l_500, l_512, l_550, l_560, l_649, l_650, l_1000, l_1032, l_1400, l_2000, l_4000, l_10000, l_268435455, isZ_1, chk_t]
    rw [if_pos trivial, t8, bj1_s, if_pos rfl, h9, bj2_s, if_neg t9, h10, bj2_s, if_pos rfl, t10, bj1_s, if_pos rfl, h11, bj2_s, if_pos rfl]
  have e : (if other ≤ one then some other else some one) = some crust := by
    rw [cr]
    split <;> rfl
  have b : f_L_saltsB (iN t) crust Z = some (iN 1, A11) := by
    unfold f_L_saltsB
    simp only [l_0, l_1, l_2, l_3, l_4, l_5, l_6, l_7, l_8, l_9, l_10, l_11, l_12, l_13, l_14, l_15, l_16, l_17, l_18, l_19, l_20, l_21, l_24, l_30, l_31, l_32, l_36, l_40, l_41, l_42, l_43, l_44, l_45, l_46, l_47, l_48, l_49, l_50, l_51, l_52, l_57, l_58, l_60, l_61, l_64, l_72, l_80, l_92, l_98, l_99, l_100, l_102, l_105, l_111, l_112, l_114, l_115, l_116, l_117, l_120, l_144, l_200, l_201, l_240, l_300, l_320, l_400, l_500, l_512, l_550, l_560, l_649, l_650, l_1000, l_1032, l_1400, l_2000, l_4000, l_10000, l_268435455, x0, x2, i40, i2, chk_t]
    rw [h2, bj1_s, nm_s, ← eB, if_neg q1, if_neg q2, h3, bj2_s, nm_s, if_neg o1, swG_swG, h4, bj2_s, nm_s, t4, bj1_s, if_pos rfl, bj1_s, swG_swG, h5, bj2_s, nm_s, t5, bj1_s, if_pos rfl, swG_swG, h6, bj2_s, nm_s, swG_swG, t6, bj1_s, h7, bj2_s, nm_s, swG_swG, t7, bj1_s, h8, bj2_s, l249, im, i40m, chk_t, xm, lk_, j, e, bj1_s, if_pos rfl]
    split <;> rfl
  have a : f_L_saltsA V = some (iN t, crust, A1) := by
    unfold f_L_saltsA
    simp only [l_0, l_1, l_2, l_3, l_4, l_5, l_6, l_7, l_8, l_9, l_10, l_11, l_12, l_13, l_14, l_15, l_16, l_17, l_18, l_19, l_20, l_21, l_24, l_30, l_31, l_32, l_36, l_40, l_41, l_42, l_43, l_44, l_45, l_46, l_47, l_48, l_49, l_50, l_51, l_52, l_57, l_58, l_60, l_61, l_64, l_72, l_80, l_92, l_98, l_99, l_100, l_102, l_105, l_111, l_112, l_114, l_115, l_116, l_117, l_120, l_144, l_200, l_201, l_240, l_300, l_320, l_400, l_500, l_512, l_550, l_560, l_649, l_650, l_1000, l_1032, l_1400, l_2000, l_4000, l_10000, l_268435455]
    rw [h1, bj2_s, a1, bj1_s]
  unfold f_L_salts
  rw [a, bj3_s, ← eZ, b]
theorem tk_eq' {E X : Nat → Int32} (hm : mD X ≤ 12) (h : ∀ p, 4 ≤ p → p < 41 → E p = X p) : tkS E = tkS X := by
  unfold tkS
  rw [mD_of (h 4 (by omega) (by omega))]
  exact sumS_congr (fun i hi => h _ (by omega) (by omega))
theorem LF_mk {n m T : Nat} {X : Nat → Int32} (hX : slR X n) (hP : plR X m) (h3 : 0 ≤ (X 3).toInt ∧ (X 3).toInt ≤ 9) (hT : T ≤ 200) : LF 3000 (0 + T) (goS (bgS X) T) n := by
  have b := hX.2
  have hg := gD_bg hX hP
  have hm := hP.2.1
  exact LF_go (by omega) hg hm (fun i hi b hb _ => by omega) (LF_bg hX (by rw [mD_N hP.1 hm]; exact hm) h3 (by omega) (by omega)) T (by omega)
theorem crust_N {h c n : Nat} {D : Nat → Int32} (hl : LF h c D n) (hc : c ≤ 999) : ∃ k, k ≤ 100000 ∧ crustS D = iN k := by
  have a := hl.2.2.2.2.2 0 (by omega)
  have b := hl.2.2.2.2.2 1 (by omega)
  have a : 0 ≤ (D 50).toInt ∧ (D 50).toInt ≤ 20 * (c : Int) := a
  have b : 0 ≤ (D 51).toInt ∧ (D 51).toInt ≤ 20 * (c : Int) := b
  unfold crustS
  split
  · refine ⟨ix (D 50), ?_, iN_ex a.1⟩
    have := ix_t a.1
    omega
  · refine ⟨ix (D 51), ?_, iN_ex b.1⟩
    have := ix_t b.1
    omega
theorem crust_mk {X : Nat → Int32} {T : Nat} (e : tkS X = iN T) (hT : T ≤ 200) : crustS (mkS X) = crustS (goS (bgS X) T) := by
  unfold crustS
  rw [mk_hi e hT (by omega), mk_hi e hT (by omega)]
theorem px_hi {f f' : Nat → Nat} {m p : Nat} {s : Nat → Nat × Nat × Nat} (h : 4 ≤ p) : px f' m s p = px f m s p := by
  unfold px
  have c : ¬ p < 4 := by omega
  rw [if_neg c, if_neg c]
theorem PL_px {p mm : Nat} {f f' : Nat → Nat} {s : Nat → Nat × Nat × Nat} {G : G_} (h : PL p mm (px f mm s) G) : PL p mm (px f' mm s) G := ⟨h.1, cPl_keep h.2.2 (fun q h1 _ => px_hi h1) h.2.1, pl_keep h.2.2 (fun q h1 _ => px_hi h1)⟩
def fsN (f : Nat → Nat) (t i : Nat) : Nat := if i = 2 then t else f i
theorem px_fs {f : Nat → Nat} {t m : Nat} {s : Nat → Nat × Nat × Nat} : px (fsN f t) m s = up (px f m s) 2 (iN t) := by
  funext p
  by_cases c : p = 2
  · subst c
    rw [up_eq, px_lo (by omega)]
    rfl
  · rw [up_ne c]
    by_cases c2 : p < 4
    · rw [px_lo c2, px_lo c2]
      unfold fsN
      rw [if_neg c]
    · exact px_hi (by omega)
set_option maxHeartbeats 4000000 in
theorem salts_c {m h : Nat} {f : Nat → Nat} {s : Nat → Nat × Nat × Nat} {G1 V : G_} (B : LB f m s h G1) (hV : LC f m s V) : ∃ H, f_L_salts V = some (iN 1, H) ∧ dge V H := by
  have hf := B.hf
  have m1 := B.m1
  have m6 := B.m6
  have f3 := hf.2.2.2.2
  have hT : tsN s m ≤ 108 := by have := ts_le B.h18 m; omega
  obtain ⟨X, eX⟩ : ∃ X, X = px f m s := ⟨_, rfl⟩
  obtain ⟨n, en⟩ : ∃ n, n = f 0 := ⟨_, rfl⟩
  obtain ⟨T, eT⟩ : ∃ T, T = tsN s m := ⟨_, rfl⟩
  have sV := hV.sl
  have pV := hV.pl
  have qpV := hV.qpl
  rw [← eX, ← en] at sV
  rw [← eX] at pV qpV
  rw [← eT] at hT
  have hX := sV.2.2
  have hP := pV.2.2
  have hX4 := hP.1
  have tX : tkS X = iN T := by rw [eX, eT]; exact px_tk (by omega)
  have h3 : 0 ≤ (X 3).toInt ∧ (X 3).toInt ≤ 9 := by
    rw [eX, px_lo (by omega), li (by omega)]
    omega
  -- salt
  have lf2 : ∀ x, LF 3000 (0 + T) (goS (bgS (up X 2 x)) T) n ∧ tkS (up X 2 x) = iN T := fun x => by
    have e2 : tkS (up X 2 x) = iN T := by rw [tk_2 hX4 (by omega)]; exact tX
    refine ⟨LF_mk (X := up X 2 x) ⟨okN_keep hX.1 (up_ne (by omega)), by rw [up_ne (by omega)]; exact hX.2⟩ (pl_keep hP (fun p h1 _ => up_ne (by omega))) (by rw [up_ne (by omega)]; exact h3) (by omega), e2⟩
  obtain ⟨g, eg⟩ : ∃ g : Nat → Nat, g = fun j => ix (crustS (mkS (up X 2 (iN j)))) := ⟨_, rfl⟩
  have hg : ∀ j, crustS (mkS (up X 2 (iN j))) = iN (g j) ∧ g j ≤ 100000 := fun j => by
    obtain ⟨a, b⟩ := lf2 (iN j)
    obtain ⟨k, hk, ek⟩ := crust_N a (by omega)
    rw [eg]
    show crustS (mkS (up X 2 (iN j))) = iN (ix (crustS (mkS (up X 2 (iN j))))) ∧ ix (crustS (mkS (up X 2 (iN j)))) ≤ 100000
    rw [crust_mk b (by omega), ek, ix_iN (by omega)]
    exact ⟨rfl, hk⟩
  obtain ⟨t, -, t61, et, best⟩ := mxA_max (F := fun j => crustS (mkS (up X 2 (iN j)))) (g := g) (a := 0) (x0 := iN 0) (fun j => (hg j).1) (fun j => (hg j).2) 61 (by omega)
  have t50 : t ≤ 50 := by
    by_cases c : t ≤ 50
    · exact c
    · have e := crust_2 (X := X) (a := iN t) (b := iN 50) hX4 (by omega) (wet_50 (by omega) (by omega))
      rw [(hg t).1, (hg 50).1] at e
      have e := (iN_inj (by have := (hg t).2; omega) (by have := (hg 50).2; omega)).mp e
      exact (best 50 (by omega) (by omega)).2 e.symm
  obtain ⟨B1, hB1, cc1⟩ := salt_c (k := 0) (p := 0) (G := V) (by omega) sV.1 sV.2.1 hX (by omega) pV.1 pV.2.1 hP
  rw [et] at hB1
  dsimp only at hB1
  obtain ⟨A1, eA1⟩ : ∃ A1, A1 = sI B1 0 16 (iN (g t)) := ⟨_, rfl⟩
  rw [← eA1] at hB1
  have as1 : f_X7_asked A1 = some (iN (g t)) := by rw [eA1, asked_c, sI_eq]
  have S1 : cs V A1 := by rw [eA1]; exact cs_cc cc1
  obtain ⟨Z, eZ⟩ : ∃ Z, Z = z0 253 A1 := ⟨_, rfl⟩
  have kZ : ∀ q, q ≠ 253 → Z.1 q = A1.1 q := fun q hq => by
    rw [eZ]
    funext j
    show (if q = 253 then 0 else A1.1 q j) = _
    rw [if_neg hq]
  obtain ⟨C1, hC1, v1, k1, -⟩ := copy_c (a0 := 248) (a1 := 253) (G := Z) (by omega)
  obtain ⟨C2, eC2⟩ : ∃ C2, C2 = sI C1 253 2 (iN t) := ⟨_, rfl⟩
  have k2 : ∀ q, q ≠ 253 → C2.1 q = A1.1 q := fun q hq => by rw [eC2, sI_p hq, k1 q hq, kZ q hq]
  have r2 : ∀ i, i < 4 → (swG C2).1 253 i = iN (fsN f t i) := fun i hi => by
    rw [sw_hi (by omega), eC2, sI_v]
    unfold fsN
    by_cases c : i = 2
    · rw [if_pos c, if_pos c]
    · rw [if_neg c, if_neg c, v1 i (by omega), kZ 248 (by omega), S1.1 248 (by unfold scr; omega)]
      exact hV.rw_.1 i hi
  have ok' : slOK (fsN f t) := ⟨hf.1, hf.2.1, hf.2.2.1, by show t ≤ 60; omega, hf.2.2.2.2⟩
  obtain ⟨A3, h3', -, s3, v3, k3, -⟩ := slab_c (k := 1) (a2 := 253) (f := fsN f t) (G := swG C2) (by omega) (by omega) r2 ok'
  obtain ⟨X', eX'⟩ : ∃ X', X' = px (fsN f t) m s := ⟨_, rfl⟩
  have uX : X' = up X 2 (iN t) := by rw [eX', eX, px_fs]
  have S3 : SL 1 n X' A3 := by
    rw [eX', en]
    exact ⟨s3, cSl_of v3, px_sl ok'⟩
  have P3 : PL 0 m X' A3 := by
    rw [eX']
    refine PL_px (f := f) ?_
    rw [← eX]
    refine PL_fr qpV (fun q g1 g2 => ?_)
    rw [k3 q (by omega) (by omega) (by omega) (by omega) (by omega), sw_lo (by omega), sw_lo (by omega), k2 _ (by omega), S1.1 _ (by unfold scr; omega)]
  obtain ⟨A4, h4, g4, t4, k4, -⟩ := dish_c (s := 1) (p := 0) (G := A3) (by omega) S3.1 S3.2.1 S3.2.2 (by omega) P3.1 P3.2.1 P3.2.2
  have tX' : tkS X' = iN T := by rw [uX]; exact (lf2 (iN t)).2
  rw [tX'] at h4
  have gX' := gD_bg S3.2.2 P3.2.2
  have z43 : bgS X' 43 = iN 0 := bg_41 (by omega) (by omega)
  obtain ⟨A5, h5, g5, f5⟩ := go_c (c := T) (G := A4) t4 gX' g4 (by omega) (by rw [z43, iN_add]; exact (iN_le (by omega) (by omega)).mpr (by omega))
  rw [go_43 gX' z43] at h5
  have D5 : DS n m (goS (bgS X') T) A5 := ⟨f5.2.trans t4, gD_go gX', g5⟩
  have k5 : ∀ q, 16 ≤ q → q ≠ 39 → q ≠ 40 → q ≠ 69 → q ≠ 70 → q ≠ 72 → A5.1 q = (swG C2).1 q := fun q g1 g2 g3 g4 g5 g6 => by rw [f5.1.1 q (by omega), k4 q (by omega), k3 q g2 g3 g4 g5 g6]
  have R4 : stR 249 m s (swG A4) := stR_fr hV.rw_.2.1 (by rw [sw_hi (by omega), k4 249 (by omega), k3 249 (by omega) (by omega) (by omega) (by omega) (by omega), sw_hi (by omega), k2 249 (by omega), S1.1 249 (by unfold scr; omega)])
  have R5 : stR 249 m s (swG A5) := stR_fr hV.rw_.2.1 (by rw [sw_hi (by omega), k5 249 (by omega) (by omega) (by omega) (by omega) (by omega) (by omega), sw_hi (by omega), k2 249 (by omega), S1.1 249 (by unfold scr; omega)])
  have T4 := ticks_c R4 (by omega)
  have T5 := ticks_c R5 (by omega)
  rw [← eT] at T4 T5
  obtain ⟨A6, eA6⟩ : ∃ A6, A6 = sI A5 0 16 (skinS 0 2 (goS (bgS X') T)) := ⟨_, rfl⟩
  have h6 := ski D5 (s := 0) (w := 2) (by omega) (by omega)
  rw [← eA6] at h6
  have t6 : f_L_tells (iN 1) A6 = some (skinS 0 2 (goS (bgS X') T)) := by rw [eA6]; exact tells_c
  have D6 : DS n m (goS (bgS X') T) A6 := by rw [eA6]; exact DS_as D5
  obtain ⟨A7, eA7⟩ : ∃ A7, A7 = sI A6 0 16 (skinS 1 2 (goS (bgS X') T)) := ⟨_, rfl⟩
  have h7 := ski D6 (s := 1) (w := 2) (by omega) (by omega)
  rw [← eA7] at h7
  have t7 : f_L_tells (iN 1) A7 = some (skinS 1 2 (goS (bgS X') T)) := by rw [eA7]; exact tells_c
  have k7 : ∀ q, 16 ≤ q → q ≠ 39 → q ≠ 40 → q ≠ 69 → q ≠ 70 → q ≠ 72 → A7.1 q = (swG C2).1 q := fun q g1 g2 g3 g4 g5 g6 => by rw [eA7, sI_p (by omega), eA6, sI_p (by omega)]; exact k5 q g1 g2 g3 g4 g5 g6
  have o7 : ∀ q, q < 124 → (swG A7).1 q = A1.1 q := fun q hq => by
    rw [sw_lo hq, k7 _ (by omega) (by omega) (by omega) (by omega) (by omega) (by omega), sw_mid (by omega) (by omega), show q + 124 - 124 = q by omega, k2 q (by omega)]
  have S7 : cs V A1 := S1
  have s7 : SL 0 n X (swG A7) := SL_fr sV (by rw [o7 _ (by omega)]; exact S1.1 _ (by unfold scr; omega))
  have p7 : PL 0 m X (swG A7) := PL_fr pV (fun q g1 g2 => by rw [o7 _ (by omega)]; exact S1.1 _ (by unfold scr; omega))
  -- thick
  obtain ⟨B8, hB8, cc8⟩ := thick_c (k := 0) (p := 0) (a := 0) (b := 4000) (G := swG A7) (by omega) s7.1 s7.2.1 hX (by omega) p7.1 p7.2.1 hP (by omega) (by omega)
  rw [thA_one (fun j j1 j2 => by
    have hX' : slR (up X 0 (iN j)) j := ⟨⟨up_eq, j1, by omega⟩, by rw [up_ne (by omega)]; exact hX.2⟩
    have hP' : plR (up X 0 (iN j)) m := pl_keep hP (fun p h1 _ => up_ne (by omega))
    have e2 : tkS (up X 0 (iN j)) = iN T := by
      rw [← tX]
      exact tk_eq' (by rw [mD_N hX4 (by omega)]; omega) (fun p h1 _ => up_ne (by omega))
    have l := LF_mk (T := T) hX' hP' (by rw [up_ne (by omega)]; exact h3) (by omega)
    have mm := midM_0 l
    have em : midM (mkS (up X 0 (iN j))) = midM (goS (bgS (up X 0 (iN j))) T) := by
      unfold midM
      rw [okN_n (wf_mk hX' hP').1, okN_n l.1.1, mk_hi e2 (by omega) (by omega)]
    show inS (iN 0) (iN 4000) (midM (mkS (up X 0 (iN j)))) = iN 1
    rw [em]
    exact in_all mm)] at hB8
  dsimp only at hB8
  obtain ⟨A8, eA8⟩ : ∃ A8, A8 = sI B8 0 16 (iN 3) := ⟨_, rfl⟩
  rw [← eA8] at hB8
  have as8 : f_X7_asked A8 = some (iN 3) := by rw [eA8, asked_c, sI_eq]
  have S8 : cs (swG A7) A8 := by rw [eA8]; exact cs_cc cc8
  have o8 : ∀ q, q < 124 → ¬ scr q → A8.1 q = V.1 q := fun q g1 g2 => by rw [S8.1 q g2, o7 q g1, S1.1 q g2]
  have s8 : SL 0 n X A8 := SL_fr sV (o8 _ (by omega) (by unfold scr; omega))
  have p8 : PL 0 m X A8 := PL_fr pV (fun q g1 g2 => o8 q (by omega) (by unfold scr; omega))
  have R8 : stR 249 m s A8 := stR_fr R5 (by rw [S8.1 249 (by unfold scr; omega), sw_hi (by omega), sw_hi (by omega), eA7, sI_p (by omega), eA6, sI_p (by omega)])
  have z8 : isZ (A8.1 17 7) = true := S8.2 (by rw [o7 17 (by omega)]; exact S1.2 hV.z17)
  -- order
  obtain ⟨x, A9, h9, x9, v9, w9, k9⟩ := order_c s8 p8 z8
  have h10 := at_c (r := 4) (z := 1) (k := 0) (G := A9) (by omega) v9 (by omega) (by omega)
  have w9' : A9.1 (51 + 2 * 4 + 1) 0 = iN 0 := w9
  rw [w9'] at h10
  obtain ⟨A10, eA10⟩ : ∃ A10, A10 = sI A9 0 16 (iN 0) := ⟨_, rfl⟩
  rw [← eA10] at h10
  have as10 : f_X7_asked A10 = some (iN 0) := by rw [eA10, asked_c, sI_eq]
  have v10 : A10.1 59 1 = iN 1 := by rw [eA10, sI_p (by omega)]; exact v9
  have h11 := tear_c (r := 4) (z := 1) (G := A10) (by omega) v10 (by omega)
  have cr : iN (g t) = if skinS 1 2 (goS (bgS X') T) ≤ skinS 0 2 (goS (bgS X') T) then skinS 1 2 (goS (bgS X') T) else skinS 0 2 (goS (bgS X') T) := by
    rw [← (hg t).1, ← uX, crust_mk tX' (by omega)]
    show (if goS (bgS X') T 50 < goS (bgS X') T 51 then goS (bgS X') T 50 else goS (bgS X') T 51) = if goS (bgS X') T 51 ≤ goS (bgS X') T 50 then goS (bgS X') T 51 else goS (bgS X') T 50
    by_cases c : goS (bgS X') T 50 < goS (bgS X') T 51
    · rw [if_pos c, if_neg (fun e => by have := t_lt.mp c; have := t_le.mp e; omega)]
    · have c' : ¬ (goS (bgS X') T 50).toInt < (goS (bgS X') T 51).toInt := fun e => c (t_lt.mpr e)
      rw [if_neg c, if_pos (t_le.mpr (by omega))]
  have x0 : ¬ iN x < iN 0 := of_eq_false (iN_lt_f (by omega) (by omega))
  refine ⟨_, salts_ev (m := m) (T := T) hB1 as1 eZ hC1 eC2 t50 h3' h4 T4 h5 T5 h6 t6 h7 t7 hB8 as8 R8.1 ⟨m1, m6⟩ rfl cr h9 x0 h10 as10 h11, fun q hq => ?_, ?_⟩
  · rw [sI_p (by omega), eA10, sI_p (by omega), k9 q (by unfold scr; omega) (by omega) (by omega), o8 q (by omega) (by unfold scr; omega)]
  · rw [show (51 + 2 * 4) = 59 from rfl, sI_eq]
    exact hV.dg_.r4.symm

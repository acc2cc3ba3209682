/-! two blocks of places and the law's rows -/
theorem sw_lo {G : G_} {q : Nat} (h : q < 124) : (swG G).1 q = G.1 (q + 124) := by
  show G.1 (swp q) = _
  unfold swp
  rw [if_pos h]
theorem sw_mid {G : G_} {q : Nat} (h : 124 ≤ q) (h2 : q < 248) : (swG G).1 q = G.1 (q - 124) := by
  show G.1 (swp q) = _
  unfold swp
  rw [if_neg (by omega), if_pos h2]
theorem sw_hi {G : G_} {q : Nat} (h : 248 ≤ q) : (swG G).1 q = G.1 q := by
  show G.1 (swp q) = _
  unfold swp
  rw [if_neg (by omega), if_neg (by omega)]
def lw (G A : G_) : Prop := ∀ q, q < 124 → A.1 q = G.1 q
def hg (G A : G_) : Prop := ∀ q, 248 ≤ q → A.1 q = G.1 q
theorem lw_tr {G A B : G_} (h : lw G A) (h2 : lw A B) : lw G B := fun q hq => (h2 q hq).trans (h q hq)
theorem hg_tr {G A B : G_} (h : hg G A) (h2 : hg A B) : hg G B := fun q hq => (h2 q hq).trans (h q hq)
theorem lw_refl {G : G_} : lw G G := fun _ _ => rfl
theorem hg_refl {G : G_} : hg G G := fun _ _ => rfl
theorem call_o {G A : G_} (h : ∀ q, 124 ≤ q → A.1 q = G.1 q) : lw (swG G) (swG A) ∧ hg G A := by
  refine ⟨fun q hq => ?_, fun q hq => h q (by omega)⟩
  rw [sw_lo hq, sw_lo hq]
  exact h _ (by omega)
theorem call_q {G A : G_} (h : ∀ q, 124 ≤ q → A.1 q = (swG G).1 q) : lw G (swG A) ∧ hg G (swG A) := by
  refine ⟨fun q hq => ?_, fun q hq => ?_⟩
  · rw [sw_lo hq, h _ (by omega), sw_mid (by omega) (by omega)]
    rw [show q + 124 - 124 = q by omega]
  · rw [sw_hi hq, h q (by omega), sw_hi hq]
def SL (k n : Nat) (X : Nat → Int32) (G : G_) : Prop := G.1 (71 + k) 0 = iN 1 ∧ cSl (71 + k) X G ∧ slR X n
def PL (p mm : Nat) (X : Nat → Int32) (G : G_) : Prop := G.1 (75 + 4 * p) 3 = iN 1 ∧ cPl (75 + 4 * p) X G ∧ plR X mm
def DS (n mm : Nat) (D : Nat → Int32) (G : G_) : Prop := G.1 5 7 = iN 1 ∧ gD D n mm ∧ cD 5 D G
theorem SL_fr {k n : Nat} {X : Nat → Int32} {G A : G_} (h : SL k n X G) (e : A.1 (71 + k) = G.1 (71 + k)) : SL k n X A := ⟨by rw [e]; exact h.1, cSl_cc h.2.1 e, h.2.2⟩
theorem PL_fr {p mm : Nat} {X : Nat → Int32} {G A : G_} (h : PL p mm X G) (e : ∀ q, 75 + 4 * p ≤ q → q < 75 + 4 * p + 4 → A.1 q = G.1 q) : PL p mm X A := ⟨by rw [e _ (by omega) (by omega)]; exact h.1, cPl_cc h.2.1 e, h.2.2⟩
theorem DS_fr {n mm : Nat} {D : Nat → Int32} {G A : G_} (h : DS n mm D G) (e : ∀ q, 5 ≤ q → q < 16 → A.1 q = G.1 q) : DS n mm D A := ⟨by rw [e 5 (by omega) (by omega)]; exact h.1, h.2.1, cD_fr h.2.2 (fun q h1 h2 => e q h1 (by omega))⟩
theorem SL_lw {k n : Nat} {X : Nat → Int32} {G A : G_} (hk : k < 4) (h : SL k n X G) (e : lw G A) : SL k n X A := SL_fr h (e _ (by omega))
theorem PL_lw {p mm : Nat} {X : Nat → Int32} {G A : G_} (hp : p < 4) (h : PL p mm X G) (e : lw G A) : PL p mm X A := PL_fr h (fun q h1 h2 => e q (by omega))
theorem DS_lw {n mm : Nat} {D : Nat → Int32} {G A : G_} (h : DS n mm D G) (e : lw G A) : DS n mm D A := DS_fr h (fun q h1 h2 => e q (by omega))
/-- a SLAB and its STEPS as one row -/
def px (f : Nat → Nat) (m : Nat) (s : Nat → Nat × Nat × Nat) (p : Nat) : Int32 := if p < 4 then iN (f p) else if p = 4 then iN m else if (p - 5) % 3 = 0 then iN (s ((p - 5) / 3)).1 else if (p - 5) % 3 = 1 then iN (s ((p - 5) / 3)).2.1 else iN (s ((p - 5) / 3)).2.2
theorem px_lo {f : Nat → Nat} {m p : Nat} {s : Nat → Nat × Nat × Nat} (h : p < 4) : px f m s p = iN (f p) := if_pos h
theorem px_4 {f : Nat → Nat} {m : Nat} {s : Nat → Nat × Nat × Nat} : px f m s 4 = iN m := rfl
theorem px_k {f : Nat → Nat} {m i : Nat} {s : Nat → Nat × Nat × Nat} : px f m s (5 + 3 * i) = iN (s i).1 := by
  unfold px
  rw [if_neg (by omega), if_neg (by omega), if_pos (by omega), show (5 + 3 * i - 5) / 3 = i by omega]
theorem px_q {f : Nat → Nat} {m i : Nat} {s : Nat → Nat × Nat × Nat} : px f m s (5 + 3 * i + 1) = iN (s i).2.1 := by
  unfold px
  rw [if_neg (by omega), if_neg (by omega), if_neg (by omega), if_pos (by omega), show (5 + 3 * i + 1 - 5) / 3 = i by omega]
theorem px_l {f : Nat → Nat} {m i : Nat} {s : Nat → Nat × Nat × Nat} : px f m s (5 + 3 * i + 2) = iN (s i).2.2 := by
  unfold px
  rw [if_neg (by omega), if_neg (by omega), if_neg (by omega), if_neg (by omega), show (5 + 3 * i + 2 - 5) / 3 = i by omega]
theorem px_sl {f : Nat → Nat} {m : Nat} {s : Nat → Nat × Nat × Nat} (h : slOK f) : slR (px f m s) (f 0) := by
  obtain ⟨h0, h1, h2, h3, h4⟩ := h
  refine ⟨⟨px_lo (by omega), h0, h1⟩, ?_, ?_⟩
  · rw [px_lo (by omega), li (by omega)]
    omega
  · rw [px_lo (by omega), li (by omega)]
    omega
theorem px_tk {f : Nat → Nat} {m : Nat} {s : Nat → Nat × Nat × Nat} (hm : m ≤ 12) : tkS (px f m s) = iN (tsN s m) := by
  unfold tkS
  rw [mD_N px_4 hm]
  exact sumS_ts (fun i hi => px_l)
theorem px_pl {f : Nat → Nat} {m : Nat} {s : Nat → Nat × Nat × Nat} (hm : m ≤ 12) (hs : ∀ i, i < m → stg (s i)) (hT : tsN s m ≤ 200) : plR (px f m s) m := by
  refine ⟨px_4, hm, fun i hi => ?_, tsN s m, hT, px_tk hm⟩
  obtain ⟨g1, g2, g3, g4, g5, g6⟩ := hs i hi
  refine ⟨_, _, _, px_k, px_q, px_l, g1, g2, ?_, ?_, fun h => (g5 h).1⟩
  · by_cases c : (s i).1 ≤ 3
    · exact (g3 c).2
    · rw [g4 (by omega)]
      omega
  · by_cases c : (s i).1 ≤ 4
    · exact (g5 c).2
    · rw [g6 (by omega)]
      omega
theorem px_tr {f : Nat → Nat} {m : Nat} {s : Nat → Nat × Nat × Nat} : trX m (px f m s) (px f (m + 1) (trN s)) := by
  refine ⟨fun p hp => by rw [px_lo hp, px_lo hp], px_4, px_4, px_k (i := 0), fun i hi => ?_⟩
  have e : trN s (i + 1) = s i := if_neg (by omega)
  rw [px_k, px_q, px_l, px_k, px_q, px_l, e]
  exact ⟨rfl, rfl, rfl⟩
theorem px_hq {f : Nat → Nat} {m h : Nat} {s : Nat → Nat × Nat × Nat} (hm : m ≤ 12) (hq : ∀ i, i < m → (s i).2.1 ≤ 30) (hh : ∀ i, i < m → 100 * (s i).2.1 ≤ h) : HQ h m (bgS (px f m s)) := fun i hi b hb e => by
  rw [bg_lo (by omega), px_q] at e
  have := hq i hi
  have := (iN_inj (by omega) (by omega)).mp e
  have := hh i hi
  omega
/-- the law's rows of numbers -/
def RW (f : Nat → Nat) (m : Nat) (s : Nat → Nat × Nat × Nat) (G : G_) : Prop := (∀ i, i < 4 → G.1 248 i = iN (f i)) ∧ stR 249 m s G ∧ stR 250 (m + 1) (trN s) G
theorem RW_hg {f : Nat → Nat} {m : Nat} {s : Nat → Nat × Nat × Nat} {G A : G_} (h : RW f m s G) (e : hg G A) : RW f m s A := ⟨fun i hi => by rw [e 248 (by omega)]; exact h.1 i hi, stR_fr h.2.1 (e 249 (by omega)), stR_fr h.2.2 (e 250 (by omega))⟩
/-- what has not been touched yet -/
def clq (q : Nat) : Prop := q = 17 ∨ (51 ≤ q ∧ q ≤ 68) ∨ (72 ≤ q ∧ q ≤ 74) ∨ (79 ≤ q ∧ q ≤ 123)
def CL (G : G_) : Prop := (∀ q, clq q → G.1 q = G8.1 q) ∧ G.1 69 1 = iN 80
def GL : G_ := z0 250 (z0 249 (z0 248 G8))
theorem GL_z {p : Nat} (h : p = 248 ∨ p = 249 ∨ p = 250) (i : Nat) : GL.1 p i = iN 0 := by
  rcases h with rfl | rfl | rfl <;> rfl
theorem GL_o {q : Nat} (h : q < 248) : GL.1 q = G8.1 q := by
  funext j
  show (if q = 250 then 0 else if q = 249 then 0 else if q = 248 then 0 else G8.1 q j) = _
  rw [if_neg (by omega), if_neg (by omega), if_neg (by omega)]
theorem cSl_of {k : Nat} {f : Nat → Nat} {m : Nat} {s : Nat → Nat × Nat × Nat} {A : G_} (v : ∀ j, j < 4 → A.1 (71 + k) (j + 1) = iN (f j)) : cSl (71 + k) (px f m s) A := ⟨(v 0 (by omega)).trans (px_lo (by omega)).symm, (v 1 (by omega)).trans (px_lo (by omega)).symm, (v 2 (by omega)).trans (px_lo (by omega)).symm, (v 3 (by omega)).trans (px_lo (by omega)).symm⟩
theorem cPl_of {p : Nat} {f : Nat → Nat} {m : Nat} {s : Nat → Nat × Nat × Nat} {A : G_} (hm : m ≤ 12) (h4 : A.1 p 4 = iN m) (h5 : A.1 p 5 = iN (tsN s m)) (v : ∀ j, j < m → A.1 (p + 1) j = iN (s j).1 ∧ A.1 (p + 2) j = iN (s j).2.1 ∧ A.1 (p + 3) j = iN (s j).2.2) : cPl p (px f m s) A := by
  refine ⟨h4, h5.trans (px_tk hm).symm, fun i hi => ?_⟩
  rw [mD_N px_4 hm] at hi
  rw [px_k, px_q, px_l]
  exact v i hi
def LB (f : Nat → Nat) (m : Nat) (s : Nat → Nat × Nat × Nat) (h : Nat) (G : G_) : Prop := (slOK f) ∧ (1 ≤ m) ∧ (m ≤ 6) ∧ (∀ i, stg (s i)) ∧ (∀ i, (s i).2.2 ≤ 18) ∧ (200 ≤ h ∧ h ≤ 3000) ∧ (10 * f 1 ≤ h) ∧ (∀ i, i < m → 100 * (s i).2.1 ≤ h) ∧ (RW f m s G) ∧ (SL 0 (f 0) (px f m s) G) ∧ (PL 0 m (px f m s) G) ∧ (DS (f 0) m (bgS (px f m s)) G) ∧ (CL G) ∧ (SL 0 (f 0) (px f (m + 1) (trN s)) (swG G)) ∧ (DS (f 0) (m + 1) (bgS (px f (m + 1) (trN s))) (swG G)) ∧ (TX 80 (plW (trN s) (m + 1)) (swG G))
theorem LB.hf {f : Nat → Nat} {m : Nat} {s : Nat → Nat × Nat × Nat} {h : Nat} {G : G_} (q_ : LB f m s h G) : slOK f := q_.1
theorem LB.m1 {f : Nat → Nat} {m : Nat} {s : Nat → Nat × Nat × Nat} {h : Nat} {G : G_} (q_ : LB f m s h G) : 1 ≤ m := q_.2.1
theorem LB.m6 {f : Nat → Nat} {m : Nat} {s : Nat → Nat × Nat × Nat} {h : Nat} {G : G_} (q_ : LB f m s h G) : m ≤ 6 := q_.2.2.1
theorem LB.hs {f : Nat → Nat} {m : Nat} {s : Nat → Nat × Nat × Nat} {h : Nat} {G : G_} (q_ : LB f m s h G) : ∀ i, stg (s i) := q_.2.2.2.1
theorem LB.h18 {f : Nat → Nat} {m : Nat} {s : Nat → Nat × Nat × Nat} {h : Nat} {G : G_} (q_ : LB f m s h G) : ∀ i, (s i).2.2 ≤ 18 := q_.2.2.2.2.1
theorem LB.hh {f : Nat → Nat} {m : Nat} {s : Nat → Nat × Nat × Nat} {h : Nat} {G : G_} (q_ : LB f m s h G) : 200 ≤ h ∧ h ≤ 3000 := q_.2.2.2.2.2.1
theorem LB.hc {f : Nat → Nat} {m : Nat} {s : Nat → Nat × Nat × Nat} {h : Nat} {G : G_} (q_ : LB f m s h G) : 10 * f 1 ≤ h := q_.2.2.2.2.2.2.1
theorem LB.hq {f : Nat → Nat} {m : Nat} {s : Nat → Nat × Nat × Nat} {h : Nat} {G : G_} (q_ : LB f m s h G) : ∀ i, i < m → 100 * (s i).2.1 ≤ h := q_.2.2.2.2.2.2.2.1
theorem LB.rw_ {f : Nat → Nat} {m : Nat} {s : Nat → Nat × Nat × Nat} {h : Nat} {G : G_} (q_ : LB f m s h G) : RW f m s G := q_.2.2.2.2.2.2.2.2.1
theorem LB.sl {f : Nat → Nat} {m : Nat} {s : Nat → Nat × Nat × Nat} {h : Nat} {G : G_} (q_ : LB f m s h G) : SL 0 (f 0) (px f m s) G := q_.2.2.2.2.2.2.2.2.2.1
theorem LB.pl {f : Nat → Nat} {m : Nat} {s : Nat → Nat × Nat × Nat} {h : Nat} {G : G_} (q_ : LB f m s h G) : PL 0 m (px f m s) G := q_.2.2.2.2.2.2.2.2.2.2.1
theorem LB.ds {f : Nat → Nat} {m : Nat} {s : Nat → Nat × Nat × Nat} {h : Nat} {G : G_} (q_ : LB f m s h G) : DS (f 0) m (bgS (px f m s)) G := q_.2.2.2.2.2.2.2.2.2.2.2.1
theorem LB.cl {f : Nat → Nat} {m : Nat} {s : Nat → Nat × Nat × Nat} {h : Nat} {G : G_} (q_ : LB f m s h G) : CL G := q_.2.2.2.2.2.2.2.2.2.2.2.2.1
theorem LB.qsl {f : Nat → Nat} {m : Nat} {s : Nat → Nat × Nat × Nat} {h : Nat} {G : G_} (q_ : LB f m s h G) : SL 0 (f 0) (px f (m + 1) (trN s)) (swG G) := q_.2.2.2.2.2.2.2.2.2.2.2.2.2.1
theorem LB.qds {f : Nat → Nat} {m : Nat} {s : Nat → Nat × Nat × Nat} {h : Nat} {G : G_} (q_ : LB f m s h G) : DS (f 0) (m + 1) (bgS (px f (m + 1) (trN s))) (swG G) := q_.2.2.2.2.2.2.2.2.2.2.2.2.2.2.1
theorem LB.qtx {f : Nat → Nat} {m : Nat} {s : Nat → Nat × Nat × Nat} {h : Nat} {G : G_} (q_ : LB f m s h G) : TX 80 (plW (trN s) (m + 1)) (swG G) := q_.2.2.2.2.2.2.2.2.2.2.2.2.2.2.2
theorem lawB_c {sl : Nat} {xs : Nat → Int32} (hs : sl ≤ 260) : ∃ f m s h G1, f_L_lawB sl xs GL = some (iN (tsN s m), iN h, G1) ∧ LB f m s h G1 := by
  have hf := nuS_ok sl xs 10
  obtain ⟨A1, h1, f1, k1, -⟩ := num_c (sl := sl) (xs := xs) (a := 10) (a2 := 248) (G := GL) (by omega) hs
  generalize nuS sl xs 10 = f at *
  obtain ⟨m, A2, h2, m1, m6, r2, k2, -⟩ := plans_c (sl := sl) (xs := xs) (a3 := 249) (a := 20) (G := A1) hs (by omega)
  have sg : ∀ i, stg (plS sl xs 20 i) ∧ (plS sl xs 20 i).2.2 ≤ 18 := fun i => stN_g _
  generalize plS sl xs 20 = s at *
  have hsg := fun i => (sg i).1
  have h18 := fun i => (sg i).2
  have e20 := r2.1
  have hT : tsN s m ≤ 108 := by have := ts_le h18 m; omega
  have hsT : ∀ i, i < m + 1 → stg (trN s i) := fun i hi => by
    unfold trN
    split
    · exact ⟨by show 1 ≤ 5; omega, by show 5 ≤ 6; omega, fun h => absurd h (by show ¬ 5 ≤ 3; omega), fun _ => rfl, fun h => absurd h (by show ¬ 5 ≤ 4; omega), fun _ => rfl⟩
    · exact hsg _
  have tT := trN_ts s m
  obtain ⟨A3, eA3⟩ : ∃ A3, A3 = sI (sI A2 250 0 (iN (m + 1))) 250 1 (iN 5) := ⟨_, rfl⟩
  have k3 : ∀ q, q ≠ 250 → A3.1 q = A2.1 q := fun q hq => by rw [eA3, sI_p hq, sI_p hq]
  have g250 : ∀ i, A2.1 250 i = iN 0 := fun i => by rw [k2 250 (by omega), k1 250 (by omega)]; exact GL_z (by omega) i
  obtain ⟨A4, h4, r4, k4, -⟩ := l68_c (m := m) (s := s) (G := A3) (stR_fr r2 (k3 249 (by omega))) m6 (by rw [eA3, sI_v, if_neg (by omega), sI_v, if_pos rfl]) (by rw [eA3, sI_v, if_pos rfl]) (fun i h1 h2 => by rw [eA3, sI_v, if_neg (by omega), sI_v, if_neg (by omega)]; exact g250 i)
  have r4d : stR 249 m s A4 := stR_fr r2 (by rw [k4 249 (by omega), k3 249 (by omega)])
  have f4 : ∀ i, i < 4 → A4.1 248 i = iN (f i) := fun i hi => by rw [k4 248 (by omega), k3 248 (by omega), k2 248 (by omega)]; exact f1 i hi
  have R4 : RW f m s A4 := ⟨f4, r4d, r4⟩
  have C4 : ∀ q, q < 248 → A4.1 q = G8.1 q := fun q hq => by rw [k4 q (by omega), k3 q (by omega), k2 q (by omega), k1 q (by omega), GL_o hq]
  -- the slab, twice
  obtain ⟨A5, h5, -, s5, v5, k5, -⟩ := slab_c (k := 0) (a2 := 248) (f := f) (G := A4) (by omega) (by omega) f4 hf
  have w5 := call_o (G := A4) (A := A5) (fun q hq => k5 q (by omega) (by omega) (by omega) (by omega) (by omega))
  have R5 := RW_hg R4 w5.2
  have S5 : SL 0 (f 0) (px f m s) A5 := ⟨s5, cSl_of v5, px_sl hf⟩
  obtain ⟨A6, h6, -, s6, v6, k6, -⟩ := slab_c (k := 0) (a2 := 248) (f := f) (G := swG A5) (by omega) (by omega) (fun i hi => by rw [sw_hi (by omega)]; exact R5.1 i hi) hf
  have w6 := call_q (G := A5) (A := A6) (fun q hq => k6 q (by omega) (by omega) (by omega) (by omega) (by omega))
  have R6 := RW_hg R5 w6.2
  have S6 := SL_lw (by omega) S5 w6.1
  have Q6 : SL 0 (f 0) (px f (m + 1) (trN s)) (swG (swG A6)) := by rw [swG_swG]; exact ⟨s6, cSl_of v6, px_sl hf⟩
  -- the plans
  obtain ⟨A7, h7, t7, a7, b7, c7, d7, k7, -⟩ := plan_c (k := 0) (a2 := 249) (m := m) (s := s) (G := swG A6) (by omega) (by omega) (by omega) R6.2.1 (fun i _ => hsg i) (by omega)
  have w7 := call_o (G := swG A6) (A := A7) (fun q hq => k7 q (by omega) (by omega) (by omega) (by omega) (by omega))
  have R7 := RW_hg R6 w7.2
  have S7 : SL 0 (f 0) (px f m s) A7 := SL_fr S6 (k7 _ (by omega) (by omega) (by omega) (by omega) (by omega))
  have P7 : PL 0 m (px f m s) A7 := ⟨a7, cPl_of (by omega) b7 c7 d7, px_pl (by omega) (fun i _ => hsg i) (by omega)⟩
  have Q7 := SL_lw (by omega) Q6 w7.1
  obtain ⟨A8, h8, t8, a8, b8, c8, d8, k8, -⟩ := plan_c (k := 0) (a2 := 250) (m := m + 1) (s := trN s) (G := swG A7) (by omega) (by omega) (by omega) (stR_fr R7.2.2 (sw_hi (by omega))) hsT (by omega)
  have w8 := call_q (G := A7) (A := A8) (fun q hq => k8 q (by omega) (by omega) (by omega) (by omega) (by omega))
  have R8 := RW_hg R7 w8.2
  have S8 := SL_lw (by omega) S7 w8.1
  have P8 := PL_lw (by omega) P7 w8.1
  have Q8 : SL 0 (f 0) (px f (m + 1) (trN s)) (swG (swG A8)) := by rw [swG_swG]; exact SL_fr Q7 (k8 _ (by omega) (by omega) (by omega) (by omega) (by omega))
  have QP8 : PL 0 (m + 1) (px f (m + 1) (trN s)) (swG (swG A8)) := by rw [swG_swG]; exact ⟨a8, cPl_of (by omega) b8 c8 d8, px_pl (by omega) hsT (by omega)⟩
  -- the dishes
  obtain ⟨A9, h9, d9, t9, k9, -⟩ := dish_c (s := 0) (p := 0) (G := swG A8) (by omega) S8.1 S8.2.1 S8.2.2 (by omega) P8.1 P8.2.1 P8.2.2
  have w9 := call_o (G := swG A8) (A := A9) (fun q hq => k9 q (by omega))
  have R9 := RW_hg R8 w9.2
  have S9 : SL 0 (f 0) (px f m s) A9 := SL_fr S8 (k9 _ (by omega))
  have P9 : PL 0 m (px f m s) A9 := PL_fr P8 (fun q h1 h2 => k9 q (by omega))
  have D9 : DS (f 0) m (bgS (px f m s)) A9 := ⟨t9, gD_bg S8.2.2 P8.2.2, d9⟩
  have Q9 := SL_lw (by omega) Q8 w9.1
  have QP9 := PL_lw (by omega) QP8 w9.1
  obtain ⟨A10, h10, d10, t10, k10, -⟩ := dish_c (s := 0) (p := 0) (G := swG A9) (by omega) Q9.1 Q9.2.1 Q9.2.2 (by omega) QP9.1 QP9.2.1 QP9.2.2
  have w10 := call_q (G := A9) (A := A10) (fun q hq => k10 q (by omega))
  have R10 := RW_hg R9 w10.2
  have S10 := SL_lw (by omega) S9 w10.1
  have P10 := PL_lw (by omega) P9 w10.1
  have D10 := DS_lw D9 w10.1
  have Q10 : SL 0 (f 0) (px f (m + 1) (trN s)) (swG (swG A10)) := by rw [swG_swG]; exact SL_fr Q9 (k10 _ (by omega))
  have QD10 : DS (f 0) (m + 1) (bgS (px f (m + 1) (trN s))) (swG (swG A10)) := by rw [swG_swG]; exact ⟨t10, gD_bg Q9.2.2 QP9.2.2, d10⟩
  have X10 : TX 80 (plW (trN s) (m + 1)) (swG (swG A10)) := by
    rw [swG_swG]
    refine TX_fr t8 ?_ ?_
    · rw [k10 69 (by omega), w9.1 69 (by omega), swG_swG]
    · rw [k10 70 (by omega), w9.1 70 (by omega), swG_swG]
  rw [px_tk (by omega)] at h9
  rw [px_tk (by omega), tT] at h10
  -- what was not touched
  have C5 : ∀ q, clq q → A5.1 q = G8.1 q := fun q hq => by
    unfold clq at hq
    rw [k5 q (by omega) (by omega) (by omega) (by omega) (by omega), C4 q (by omega)]
  have C7 : ∀ q, clq q → A7.1 q = G8.1 q := fun q hq => by
    have hq' := hq
    unfold clq at hq
    rw [k7 q (by omega) (by omega) (by omega) (by omega) (by omega), w6.1 q (by omega), C5 q hq']
  have C10 : CL (swG A10) := by
    refine ⟨fun q hq => ?_, ?_⟩
    · have hq' := hq
      unfold clq at hq
      rw [w10.1 q (by omega), k9 q (by omega), w8.1 q (by omega), C7 q hq']
    · rw [w10.1 69 (by omega), k9 69 (by omega), w8.1 69 (by omega)]
      exact t7.1
  have T9 := ticks_c R9.2.1 (by omega)
  have T10 := ticks_c R10.2.1 (by omega)
  have hq30 : ∀ i, (s i).2.1 ≤ 30 := fun i => by
    obtain ⟨g1, g2, g3, g4, g5, g6⟩ := hsg i
    by_cases c : (s i).1 ≤ 3
    · exact (g3 c).2
    · rw [g4 (by omega)]
      omega
  obtain ⟨z, hz, z1, z2, z3⟩ := l182_c (x := iN (tsN s m)) (h0 := 200) R10.2.1 m6 (fun i _ => hq30 i) (by omega)
  have f0 := R10.1 1 (by omega)
  have hf1 := hf.2.2.1
  have main : ∀ h, (if iN 10 * iN (f 1) ≤ iN z then some (iN z) else some (iN 10 * iN (f 1))) = some (iN h) → f_L_lawB sl xs GL = some (iN (tsN s m), iN h, swG A10) := by
    intro h eh
    unfold f_L_lawB
    simp (disch := omega) only [chk_t, beq_self_eq_true, nm_s, bj1_s, bj2_s, bj3_s, mo_1, mo_0, l_0, l_1, l_2, l_3, l_4, l_5, l_6, l_7, l_8, l_9, l_10, l_11, l_12, l_13, l_14, l_15, l_16, l_17, l_18, l_19, l_20, l_21, l_24, l_30, l_31, l_32, l_36, l_40, l_41, l_42, l_43, l_44, l_45, l_46, l_47, l_48, l_49, l_50, l_51, l_52, l_57, l_58, l_60, l_61, l_64, l_72, l_80, l_92, l_98, l_99, l_100, l_102, l_105, l_111, l_112, l_114, l_115, l_116, l_117, l_120, l_144, l_200, l_201, l_240, l_300, l_320, l_400, l_500, l_512, l_550, l_560, l_649, l_650, l_1000, l_1032, l_1400, l_2000, l_4000, l_10000, l_268435455, iN_add, iN_sub, iN_mul, iN_le_t, iN_le_f, iN_lt_t, iN_lt_f, iN_eq_f, inb_iN, ix_iN, isZ_0, isZ_1, ↓reduceIte, eq_self] at eh
    simp (maxSteps := 4000000) (disch := omega) only [chk_t, beq_self_eq_true, nm_s, bj1_s, bj2_s, bj3_s, mo_1, mo_0, l_0, l_1, l_2, l_3, l_4, l_5, l_6, l_7, l_8, l_9, l_10, l_11, l_12, l_13, l_14, l_15, l_16, l_17, l_18, l_19, l_20, l_21, l_24, l_30, l_31, l_32, l_36, l_40, l_41, l_42, l_43, l_44, l_45, l_46, l_47, l_48, l_49, l_50, l_51, l_52, l_57, l_58, l_60, l_61, l_64, l_72, l_80, l_92, l_98, l_99, l_100, l_102, l_105, l_111, l_112, l_114, l_115, l_116, l_117, l_120, l_144, l_200, l_201, l_240, l_300, l_320, l_400, l_500, l_512, l_550, l_560, l_649, l_650, l_1000, l_1032, l_1400, l_2000, l_4000, l_10000, l_268435455, iN_add, iN_sub, iN_mul, iN_le_t, iN_le_f, iN_lt_t, iN_lt_f, iN_eq_f, inb_iN, ix_iN, isZ_0, isZ_1, ↓reduceIte, eq_self, h1, h2, e20, ← eA3, h4, h5, h6, h7, h8, h9, h10, T9, T10, hz, f0, eh]
  by_cases c : 10 * f 1 ≤ z
  · refine ⟨f, m, s, z, swG A10, main z (by rw [iN_mul, if_pos ((iN_le (by omega) (by omega)).mpr c)]), hf, m1, m6, hsg, h18, by omega, c, z3, R10, S10, P10, D10, C10, Q10, QD10, X10⟩
  · refine ⟨f, m, s, 10 * f 1, swG A10, main (10 * f 1) (by rw [iN_mul, if_neg (fun e => c ((iN_le (by omega) (by omega)).mp e))]), hf, m1, m6, hsg, h18, by omega, Nat.le_refl _, fun i hi => by have := z3 i hi; omega, R10, S10, P10, D10, C10, Q10, QD10, X10⟩

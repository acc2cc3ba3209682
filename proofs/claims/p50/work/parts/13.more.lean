/-! count -/
def sumA (s0 : Int32) (f : Nat → Int32) : Nat → Int32
  | 0 => s0
  | n + 1 => sumA s0 f n + f n
theorem loop_sumA (L : Nat → Int32 → Int32 → Option Int32) (f : Nat → Int32) (b : Nat) (s0 : Int32)
    (step : ∀ n k s, k < b → L (n + 1) s (iN k) = L n (s + f k) (iN (k + 1)))
    (done : ∀ n s, L (n + 1) s (iN b) = some s) {n : Nat} (hb : b < n) : L n s0 (iN 0) = some (sumA s0 f b) := by
  have key := loop_cl (fun n v s => L n s v) (sumA s0 f) 0 b (some (sumA s0 f b)) (fun n k _ h => step n k _ h) (fun n => done n _) (Nat.zero_le b) (n := n) (by omega)
  exact key
theorem sumA_0 (s0 : Int32) (f : Nat → Int32) (b : Nat) (h : ∀ i, i < b → f i = iN 0) : sumA s0 f b = s0 := by
  induction b with
  | zero => rfl
  | succ b ih =>
    show sumA s0 f b + f b = s0
    rw [ih (fun i hi => h i (by omega)), h b (by omega)]
    exact Int32.add_zero _
theorem sumA_z (f : Nat → Int32) (b : Nat) : sumA (iN 0) f b = sumS f b := by
  induction b with
  | zero => rfl
  | succ b ih =>
    show sumA (iN 0) f b + f b = sumS f b + f b
    rw [ih]
def b0 (x : Int32) : Int32 := if x = iN 0 then iN 0 else iN 1
def bn (x : Int32) : Int32 := if x < iN 0 then iN 0 else iN 1
def skS (a : Nat) (D : Nat → Int32) (s : Nat) : Int32 := iN (isS (ix (kindS s D)) a)
def c1S (w : Nat) (G : G_) (k : Nat) : Int32 := if w = 0 then b0 (G.1 131 k) else if w = 1 then b0 (G.1 133 k) else if w = 5 then (if k = 0 then iN 0 else b0 (G.1 138 k)) else if w = 7 then bn (G.1 129 k) else iN 0
def c2S (w : Nat) (G : G_) (k : Nat) : Int32 := if w = 6 then bn (G.1 126 k) else iN 0
theorem w8 {w : Nat} (h : w ≤ 7) : w = 0 ∨ w = 1 ∨ w = 2 ∨ w = 3 ∨ w = 4 ∨ w = 5 ∨ w = 6 ∨ w = 7 := by omega
theorem isS_01 (k a : Nat) : isS k a = 0 ∨ isS k a = 1 := by
  unfold isS
  split <;> omega
theorem skS_01 (a : Nat) (D : Nat → Int32) (s : Nat) : skS a D s = iN 0 ∨ skS a D s = iN 1 := by
  unfold skS
  rcases isS_01 (ix (kindS s D)) a with e | e <;> rw [e]
  · exact Or.inl rfl
  · exact Or.inr rfl
theorem sk_so (a : Nat) (D : Nat → Int32) (s : Nat) : (if skS a D s = iN 0 then some (iN 0) else some (iN 1)) = some (skS a D s) := by
  rcases skS_01 a D s with e | e <;> rw [e]
  · rw [if_pos rfl]
  · rw [if_neg (by decide)]
-- the class
theorem rsk (k : Nat) (h : k < 4) : rb 15 + rs 15 * k = 71 + k ∧ kd (71 + k) = 5 := by
  have : k = 0 ∨ k = 1 ∨ k = 2 ∨ k = 3 := by omega
  rcases this with rfl | rfl | rfl | rfl <;> exact ⟨rfl, rfl⟩
theorem rpk (k : Nat) (h : k < 4) : rb 13 + rs 13 * k = 75 + 4 * k ∧ kd (75 + 4 * k) = 2 := by
  have : k = 0 ∨ k = 1 ∨ k = 2 ∨ k = 3 := by omega
  rcases this with rfl | rfl | rfl | rfl <;> exact ⟨rfl, rfl⟩
theorem rdk (k : Nat) (h : k < 3) : rb 12 + rs 12 * k = 91 + 11 * k ∧ kd (91 + 11 * k) = 0 := by
  have : k = 0 ∨ k = 1 ∨ k = 2 := by omega
  rcases this with rfl | rfl | rfl <;> exact ⟨rfl, rfl⟩
theorem rrk (k : Nat) (h : k < 6) : rb 14 + rs 14 * k = 51 + 2 * k ∧ kd (51 + 2 * k) = 4 := by
  have : k = 0 ∨ k = 1 ∨ k = 2 ∨ k = 3 ∨ k = 4 ∨ k = 5 := by omega
  rcases this with rfl | rfl | rfl | rfl | rfl | rfl <;> exact ⟨rfl, rfl⟩
theorem rtk (k : Nat) (h : k < 4) : rb 16 + rs 16 * k = 63 + 2 * k ∧ kd (63 + 2 * k) = 6 := by
  have : k = 0 ∨ k = 1 ∨ k = 2 ∨ k = 3 := by omega
  rcases this with rfl | rfl | rfl | rfl <;> exact ⟨rfl, rfl⟩
theorem there_b {o : Nat} {s : Int32} {G : G_} (ho : kd o = 4) (hs : G.1 o 1 = s) (hz : szR 40 s) : f_X4_there o G = some (bn s) := by
  rcases hz with rfl | ⟨z, hz, rfl⟩
  · rw [rthere_f ho hs]
    rfl
  · rw [rthere_t ho hs hz]
    unfold bn
    rw [if_neg (of_eq_false (iN_lt_f (by omega) (by omega)))]
theorem tthere_b {o : Nat} {s : Int32} {G : G_} (ho : kd o = 6) (hs : G.1 o 1 = s) (hz : szR 80 s) : f_X6_there o G = some (bn s) := by
  rcases hz with rfl | ⟨z, hz, rfl⟩
  · rw [tthere_f ho hs]
    rfl
  · rw [tthere_t ho hs hz]
    unfold bn
    rw [if_neg (of_eq_false (iN_lt_f (by omega) (by omega)))]
theorem bn_01 (x : Int32) : bn x = iN 0 ∨ bn x = iN 1 := by
  unfold bn
  split
  · exact Or.inl rfl
  · exact Or.inr rfl
theorem bn_so (x : Int32) : (if bn x = iN 0 then some (iN 0) else some (iN 1)) = some (bn x) := by
  rcases bn_01 x with e | e <;> rw [e]
  · rw [if_pos rfl]
  · rw [if_neg (by decide)]
/-! digest -/
def hj (h : Int64) (G : G_) : G_ := sJ G 124 30 h
theorem hj_1 {h : Int64} {G : G_} : (hj h G).1 = G.1 := rfl
theorem hj_h {h : Int64} {G : G_} : (hj h G).2 124 30 = h := by
  show u2 G.2 124 30 h 124 30 = h
  rw [u2_eq, if_pos rfl, if_pos rfl]
theorem hj_hj {h h' : Int64} {G : G_} : hj h (hj h' G) = hj h G := by
  refine Prod.ext rfl ?_
  funext q i
  show u2 (u2 G.2 124 30 h') 124 30 h q i = u2 G.2 124 30 h q i
  simp only [u2_eq]
  by_cases e : q = 124
  · simp only [if_pos e]
    by_cases e2 : i = 30
    · simp only [if_pos e2]
    · simp only [if_neg e2]
  · simp only [if_neg e]
def itL (s : Nat → Int64 → Int64) : Nat → Int64 → Int64
  | 0, h => h
  | n + 1, h => s n (itL s n h)
theorem loop_it (L : Nat → Int64 → Int32 → Option Int64) (s : Nat → Int64 → Int64) (b : Nat) (h0 : Int64)
    (step : ∀ n k h, k < b → L (n + 1) h (iN k) = L n (s k h) (iN (k + 1))) (done : ∀ n h, L (n + 1) h (iN b) = some h) {n : Nat} (hb : b < n) : L n h0 (iN 0) = some (itL s b h0) := by
  have key := loop_cl (fun n v h => L n h v) (fun j => itL s j h0) 0 b (some (itL s b h0)) (fun n k _ h => step n k _ h) (fun n => done n _) (Nat.zero_le b) (n := n) (by omega)
  exact key
theorem loop_ih (L : Nat → Int32 → G_ → Option G_) (s : Nat → Int64 → Int64) (b : Nat) (h0 : Int64) (B : G_)
    (step : ∀ n k h, k < b → L (n + 1) (iN k) (hj h B) = L n (iN (k + 1)) (hj (s k h) B)) (done : ∀ n h, L (n + 1) (iN b) (hj h B) = some (hj h B)) {n : Nat} (hb : b < n) : L n (iN 0) (hj h0 B) = some (hj (itL s b h0) B) := by
  have key := loop_cl L (fun j => hj (itL s j h0) B) 0 b (some (hj (itL s b h0) B)) (fun n k _ h => step n k _ h) (fun n => done n _) (Nat.zero_le b) (n := n) (by omega)
  exact key
def dg2 (G : G_) (k : Nat) (h : Int64) : Int64 := if G.1 131 k = iN 0 then 31 * h + -1 else itL (fun j h => 31 * h + (G.1 132 (4 * k + j)).toInt64) 4 h
def dg3 (G : G_) (k : Nat) (h : Int64) : Int64 := if G.1 133 k = iN 0 then 31 * h + -1 else itL (fun i h => 31 * (31 * h + (G.1 135 (36 * k + 3 * i)).toInt64) + (iN 100 * G.1 135 (36 * k + 3 * i + 1) + G.1 135 (36 * k + 3 * i + 2)).toInt64) (ix (G.1 134 k)) h
def dg4 (D : Nat → Int32) (h : Int64) : Int64 := itL (fun s h => itL (fun w h => 31 * h + (skinS s w D).toInt64) 4 h) 2 (itL (fun i h => itL (fun w h => 31 * h + (D (52 + 20 * w + i)).toInt64) 3 h) (nD D) h)
def dg5 (G : G_) (r : Nat) (h : Int64) : Int64 := itL (fun i h => 31 * h + (G.1 127 (40 * r + i)).toInt64) (ix (G.1 126 r)) (31 * h + (G.1 126 r).toInt64)
def dg6 (G : G_) (t : Nat) (h : Int64) : Int64 := itL (fun i h => 31 * h + (G.1 130 (80 * t + i)).toInt64) (ix (G.1 129 t)) (31 * h + (G.1 129 t).toInt64)
theorem sub_m1 (a : Int64) : a - 1 = a + -1 := Int64.sub_eq_add_neg a 1
theorem sz_N {b : Nat} {s : Int32} (h : szR b s) (hb : b ≤ 1000) : ∃ z, z ≤ b ∧ ix s = z ∧ ∀ k, k ≤ 1000 → ((s ≤ iN k) = True ↔ z ≤ k) := by
  rcases h with rfl | ⟨z, hz, rfl⟩
  · refine ⟨0, by omega, rfl, fun k hk => ⟨fun _ => by omega, fun _ => eq_true (t_le.mpr (by rw [li (by omega), show (-iN 1).toInt = -1 from by decide]; omega))⟩⟩
  · refine ⟨z, hz, ix_iN (by omega), fun k hk => ⟨fun e => ?_, fun e => iN_le_t e (by omega)⟩⟩
    exact (iN_le (by omega) (by omega)).mp (of_eq_true e)
theorem value_t {o z i : Nat} {G : G_} (ho : kd o = 4) (hz : G.1 o 1 = iN z) (h40 : z ≤ 40) (hi : i < z) : f_X4_value o (iN i) G = some (G.1 (o + 1) i) := by
  rcases rhas_cases ho hz h40 (iN i) with ⟨c, c2⟩ | ⟨k, hk, ek, c, c2⟩
  · rw [iN_sub (by omega), inS_t (by omega) (by omega)] at c2
    exact absurd c2 (by decide)
  · have ek := (iN_inj (by omega) (by omega)).mp ek
    subst ek
    unfold f_X4_value
    simp (disch := omega) only [chk_t, beq_self_eq_true, nm_s, bj1_s, bj2_s, bj3_s, mo_1, mo_0, l_0, l_1, l_2, l_3, l_4, l_5, l_6, l_7, l_8, l_9, l_10, l_11, l_12, l_13, l_14, l_15, l_16, l_17, l_18, l_19, l_20, l_21, l_24, l_30, l_31, l_32, l_36, l_40, l_41, l_42, l_43, l_44, l_45, l_46, l_47, l_48, l_49, l_50, l_51, l_52, l_57, l_58, l_60, l_61, l_64, l_72, l_80, l_92, l_98, l_99, l_100, l_102, l_105, l_111, l_112, l_114, l_115, l_116, l_117, l_120, l_144, l_200, l_201, l_240, l_300, l_320, l_400, l_500, l_512, l_550, l_560, l_649, l_650, l_1000, l_1032, l_1400, l_2000, l_4000, l_10000, l_268435455, iN_add, iN_sub, iN_mul, iN_le_t, iN_le_f, iN_lt_t, iN_lt_f, iN_eq_f, inb_iN, ix_iN, isZ_0, isZ_1, ↓reduceIte, eq_self, kd_b ho, c]
theorem tvalue_t {o z i : Nat} {G : G_} (ho : kd o = 6) (hz : G.1 o 1 = iN z) (h40 : z ≤ 80) (hi : i < z) : f_X6_value o (iN i) G = some (G.1 (o + 1) i) := by
  rcases thas_cases ho hz h40 (iN i) with ⟨c, c2⟩ | ⟨k, hk, ek, c, c2⟩
  · rw [iN_sub (by omega), inS_t (by omega) (by omega)] at c2
    exact absurd c2 (by decide)
  · have ek := (iN_inj (by omega) (by omega)).mp ek
    subst ek
    unfold f_X6_value
    simp (disch := omega) only [chk_t, beq_self_eq_true, nm_s, bj1_s, bj2_s, bj3_s, mo_1, mo_0, l_0, l_1, l_2, l_3, l_4, l_5, l_6, l_7, l_8, l_9, l_10, l_11, l_12, l_13, l_14, l_15, l_16, l_17, l_18, l_19, l_20, l_21, l_24, l_30, l_31, l_32, l_36, l_40, l_41, l_42, l_43, l_44, l_45, l_46, l_47, l_48, l_49, l_50, l_51, l_52, l_57, l_58, l_60, l_61, l_64, l_72, l_80, l_92, l_98, l_99, l_100, l_102, l_105, l_111, l_112, l_114, l_115, l_116, l_117, l_120, l_144, l_200, l_201, l_240, l_300, l_320, l_400, l_500, l_512, l_550, l_560, l_649, l_650, l_1000, l_1032, l_1400, l_2000, l_4000, l_10000, l_268435455, iN_add, iN_sub, iN_mul, iN_le_t, iN_le_f, iN_lt_t, iN_lt_f, iN_eq_f, inb_iN, ix_iN, isZ_0, isZ_1, ↓reduceIte, eq_self, kd_b ho, c]
theorem dT (D : Nat → Int32) {n i w : Nat} {G : G_} {o : Nat} (ho : kd o = 0) (hn : okN D n) (hc : cD o D G) (hi : i < n) (hw : w < 3) : f_X0_depthTells o (iN i) (iN w) G = some (D (52 + 20 * w + i)) := by
  have hw' : w = 0 ∨ w = 1 ∨ w = 2 := by omega
  unfold f_X0_depthTells
  rcases hw' with rfl | rfl | rfl
  · simp (disch := omega) only [chk_t, beq_self_eq_true, nm_s, bj1_s, bj2_s, bj3_s, mo_1, mo_0, l_0, l_1, l_2, l_3, l_4, l_5, l_6, l_7, l_8, l_9, l_10, l_11, l_12, l_13, l_14, l_15, l_16, l_17, l_18, l_19, l_20, l_21, l_24, l_30, l_31, l_32, l_36, l_40, l_41, l_42, l_43, l_44, l_45, l_46, l_47, l_48, l_49, l_50, l_51, l_52, l_57, l_58, l_60, l_61, l_64, l_72, l_80, l_92, l_98, l_99, l_100, l_102, l_105, l_111, l_112, l_114, l_115, l_116, l_117, l_120, l_144, l_200, l_201, l_240, l_300, l_320, l_400, l_500, l_512, l_550, l_560, l_649, l_650, l_1000, l_1032, l_1400, l_2000, l_4000, l_10000, l_268435455, iN_add, iN_sub, iN_mul, iN_le_t, iN_le_f, iN_lt_t, iN_lt_f, iN_eq_f, inb_iN, ix_iN, isZ_0, isZ_1, ↓reduceIte, eq_self, kd_b ho, warmthAt_ok ho hn hc hi]
  · simp (disch := omega) only [chk_t, beq_self_eq_true, nm_s, bj1_s, bj2_s, bj3_s, mo_1, mo_0, l_0, l_1, l_2, l_3, l_4, l_5, l_6, l_7, l_8, l_9, l_10, l_11, l_12, l_13, l_14, l_15, l_16, l_17, l_18, l_19, l_20, l_21, l_24, l_30, l_31, l_32, l_36, l_40, l_41, l_42, l_43, l_44, l_45, l_46, l_47, l_48, l_49, l_50, l_51, l_52, l_57, l_58, l_60, l_61, l_64, l_72, l_80, l_92, l_98, l_99, l_100, l_102, l_105, l_111, l_112, l_114, l_115, l_116, l_117, l_120, l_144, l_200, l_201, l_240, l_300, l_320, l_400, l_500, l_512, l_550, l_560, l_649, l_650, l_1000, l_1032, l_1400, l_2000, l_4000, l_10000, l_268435455, iN_add, iN_sub, iN_mul, iN_le_t, iN_le_f, iN_lt_t, iN_lt_f, iN_eq_f, inb_iN, ix_iN, isZ_0, isZ_1, ↓reduceIte, eq_self, kd_b ho, mostAt_ok ho hn hc hi]
  · simp (disch := omega) only [chk_t, beq_self_eq_true, nm_s, bj1_s, bj2_s, bj3_s, mo_1, mo_0, l_0, l_1, l_2, l_3, l_4, l_5, l_6, l_7, l_8, l_9, l_10, l_11, l_12, l_13, l_14, l_15, l_16, l_17, l_18, l_19, l_20, l_21, l_24, l_30, l_31, l_32, l_36, l_40, l_41, l_42, l_43, l_44, l_45, l_46, l_47, l_48, l_49, l_50, l_51, l_52, l_57, l_58, l_60, l_61, l_64, l_72, l_80, l_92, l_98, l_99, l_100, l_102, l_105, l_111, l_112, l_114, l_115, l_116, l_117, l_120, l_144, l_200, l_201, l_240, l_300, l_320, l_400, l_500, l_512, l_550, l_560, l_649, l_650, l_1000, l_1032, l_1400, l_2000, l_4000, l_10000, l_268435455, iN_add, iN_sub, iN_mul, iN_le_t, iN_le_f, iN_lt_t, iN_lt_f, iN_eq_f, inb_iN, ix_iN, isZ_0, isZ_1, ↓reduceIte, eq_self, kd_b ho, juiceAt_ok ho hn hc hi]
-- the reference
/-! which, odds: sixteen pairs of a slab and a plan, how many depths each is unlike -/
theorem slabAt_t {k : Nat} (h : k < 4) (G : G_) : f_X7_slabAt (iN k) G = some (some (71 + k)) ∧ kd (71 + k) = 5 := by
  have : k = 0 ∨ k = 1 ∨ k = 2 ∨ k = 3 := by omega
  rcases this with rfl | rfl | rfl | rfl <;> exact ⟨rfl, rfl⟩
theorem planAt_t {k : Nat} (h : k < 4) (G : G_) : f_X7_planAt (iN k) G = some (some (75 + 4 * k)) ∧ kd (75 + 4 * k) = 2 := by
  have : k = 0 ∨ k = 1 ∨ k = 2 ∨ k = 3 := by omega
  rcases this with rfl | rfl | rfl | rfl <;> exact ⟨rfl, rfl⟩
theorem sI_sI {G : G_} {p j : Nat} {v w : Int32} : sI (sI G p j v) p j w = sI G p j w := by
  refine G_ext (fun q i => ?_) rfl
  show u2 (u2 G.1 p j v) p j w q i = u2 G.1 p j w q i
  rw [u2_eq, u2_eq, u2_eq]
  split
  · split
    · rfl
    · rfl
  · rfl
def f20 (f : Nat → Int32) : Prop := ∀ j, f j = -iN 1 ∨ ∃ c, c ≤ 20 ∧ f j = iN c
def leS (f : Nat → Int32) : Nat → Int32 × Int32
  | 0 => (-iN 1, -iN 9)
  | j + 1 => if f j < iN 0 then leS f j else if (leS f j).2 = -iN 9 then (f j, iN j) else if (leS f j).1 ≤ f j then leS f j else (f j, iN j)
def leP (f : Nat → Int32) (j : Nat) (s : Int32 × Int32) : Prop :=
  (s = (-iN 1, -iN 9) ∧ ∀ i, i < j → f i = -iN 1) ∨
  ∃ b c, b < j ∧ c ≤ 20 ∧ f b = iN c ∧ s = (iN c, iN b) ∧ (∀ i d, i < j → d ≤ 20 → f i = iN d → c ≤ d) ∧ (∀ i d, i < b → d ≤ 20 → f i = iN d → c < d)
theorem ne_m1 {c : Nat} (h : c ≤ 1000) : iN c ≠ -iN 1 := fun e => by
  have := congrArg Int32.toInt e
  rw [li (by omega), show (-iN 1).toInt = -1 from by decide] at this
  omega
theorem ne_m9 {c : Nat} (h : c ≤ 1000) : iN c ≠ -iN 9 := fun e => by
  have := congrArg Int32.toInt e
  rw [li (by omega), show (-iN 9).toInt = -9 from by decide] at this
  omega
theorem nlt_N {c : Nat} (h : c ≤ 1000) : ¬ iN c < iN 0 := of_eq_false (iN_lt_f (by omega) (by omega))
theorem leS_ok {f : Nat → Int32} (hf : f20 f) (j : Nat) (hj : j ≤ 16) : leP f j (leS f j) := by
  induction j with
  | zero => exact Or.inl ⟨rfl, fun i hi => by omega⟩
  | succ j ih =>
    have ih := ih (by omega)
    unfold leS
    rcases hf j with e | ⟨d, hd, e⟩
    · rw [if_pos (by rw [e]; decide)]
      rcases ih with ⟨h1, h2⟩ | ⟨b, c, h1, h2, h3, h4, h5, h6⟩
      · refine Or.inl ⟨h1, fun i hi => ?_⟩
        by_cases c : i = j
        · rw [c]; exact e
        · exact h2 i (by omega)
      · refine Or.inr ⟨b, c, by omega, h2, h3, h4, fun i d hi hd hf' => ?_, h6⟩
        by_cases c' : i = j
        · rw [c', e] at hf'
          exact absurd hf'.symm (ne_m1 (by omega))
        · exact h5 i d (by omega) hd hf'
    · rw [if_neg (by rw [e]; exact nlt_N (by omega))]
      rcases ih with ⟨h1, h2⟩ | ⟨b, c, h1, h2, h3, h4, h5, h6⟩
      · rw [h1, if_pos rfl, e]
        refine Or.inr ⟨j, d, by omega, hd, e, rfl, fun i d' hi hd' hf' => ?_, fun i d' hi hd' hf' => ?_⟩
        · by_cases c' : i = j
          · rw [c', e] at hf'
            have := (iN_inj (by omega) (by omega)).mp hf'
            omega
          · rw [h2 i (by omega)] at hf'
            exact absurd hf'.symm (ne_m1 (by omega))
        · rw [h2 i (by omega)] at hf'
          exact absurd hf'.symm (ne_m1 (by omega))
      · rw [h4, if_neg (ne_m9 (by omega)), e]
        by_cases cq : c ≤ d
        · rw [if_pos ((iN_le (by omega) (by omega)).mpr cq)]
          refine Or.inr ⟨b, c, by omega, h2, h3, rfl, fun i d' hi hd' hf' => ?_, h6⟩
          by_cases c' : i = j
          · rw [c', e] at hf'
            have := (iN_inj (by omega) (by omega)).mp hf'
            omega
          · exact h5 i d' (by omega) hd' hf'
        · rw [if_neg (fun z => cq ((iN_le (by omega) (by omega)).mp z))]
          refine Or.inr ⟨j, d, by omega, hd, e, rfl, fun i d' hi hd' hf' => ?_, fun i d' hi hd' hf' => ?_⟩
          · by_cases c' : i = j
            · rw [c', e] at hf'
              have := (iN_inj (by omega) (by omega)).mp hf'
              omega
            · have := h5 i d' (by omega) hd' hf'
              omega
          · have := h5 i d' (by omega) hd' hf'
            omega
/-- the class: all sixteen, and the least -/
theorem leS_c {f : Nat → Int32} (hf : f20 f) {j : Nat} (hj : j < 16) (hc : ¬ f j < iN 0) : (leS f (j + 1)).1 = if iN 0 ≤ (leS f j).1 then mn (leS f j).1 (f j) else f j := by
  conv => lhs; unfold leS
  rw [if_neg hc]
  rcases leS_ok hf j (by omega) with ⟨h1, h2⟩ | ⟨b, c, h1, h2, h3, h4, h5, h6⟩
  · rw [h1, if_pos rfl, if_neg (of_eq_false le_m1)]
  · rw [h4, if_neg (ne_m9 (by omega)), if_pos (of_eq_true (iN_le_t (by omega) (by omega)))]
    unfold mn
    show (if iN c ≤ f j then (iN c, iN b) else (f j, iN j)).1 = if f j < iN c then f j else iN c
    by_cases cq : iN c ≤ f j
    · rw [if_pos cq, if_neg (fun z => by have := t_lt.mp z; have := t_le.mp cq; omega)]
    · rw [if_neg cq, if_pos (by rw [t_lt]; have : ¬ (iN c).toInt ≤ (f j).toInt := fun z => cq (t_le.mpr z); omega)]
theorem leS_n {f : Nat → Int32} {j : Nat} (h : f j = -iN 1) : leS f (j + 1) = leS f j := by
  conv => lhs; unfold leS
  rw [if_pos (by rw [h]; decide)]
theorem unl_ok {r z n : Nat} {G A : G_} {D : Nat → Int32} {g : Nat → Int32} (ho : kd (51 + 2 * r) = 4) (hz : z ≤ 20) (hn : okN D z) (hc : cD 17 D A) (h1 : A.1 (51 + 2 * r) 1 = iN z) (h2 : ∀ i, i < z → A.1 (51 + 2 * r + 1) i = g i) : f_X0_unlikeRow 17 (51 + 2 * r) A = some (sumS (fun i => if colS D i = g i then iN 0 else iN 1) z) := by
  have h8 : A.1 17 8 = iN z := (c_8 hc).trans hn.1
  have key : f_X0_unlikeRow_l4_3 17 (51 + 2 * r) A FU (iN 0) (iN 0) = some (sumS (fun i => if colS D i = g i then iN 0 else iN 1) z) := by
    refine loop_sum (fun n s v => f_X0_unlikeRow_l4_3 17 (51 + 2 * r) A n s v) _ z ?_ ?_ (fu_lt (by omega))
    · intro f k s hk
      show f_X0_unlikeRow_l4_3 17 (51 + 2 * r) A (f + 1) s (iN k) = f_X0_unlikeRow_l4_3 17 (51 + 2 * r) A f (s + if colS D k = g k then iN 0 else iN 1) (iN (k + 1))
      conv => lhs; unfold f_X0_unlikeRow_l4_3
      have e := h2 k hk
      have v := value_t ho h1 (by omega) hk
      have cl := ccol_ok (o := 17) rfl hn hc hk
      by_cases c : g k = colS D k
      · simp (disch := omega) only [chk_t, beq_self_eq_true, nm_s, bj1_s, bj2_s, bj3_s, mo_1, mo_0, l_0, l_1, l_2, l_3, l_4, l_5, l_6, l_7, l_8, l_9, l_10, l_11, l_12, l_13, l_14, l_15, l_16, l_17, l_18, l_19, l_20, l_21, l_24, l_30, l_31, l_32, l_36, l_40, l_41, l_42, l_43, l_44, l_45, l_46, l_47, l_48, l_49, l_50, l_51, l_52, l_57, l_58, l_60, l_61, l_64, l_72, l_80, l_92, l_98, l_99, l_100, l_102, l_105, l_111, l_112, l_114, l_115, l_116, l_117, l_120, l_144, l_200, l_201, l_240, l_300, l_320, l_400, l_500, l_512, l_550, l_560, l_649, l_650, l_1000, l_1032, l_1400, l_2000, l_4000, l_10000, l_268435455, iN_add, iN_sub, iN_mul, iN_le_t, iN_le_f, iN_lt_t, iN_lt_f, iN_eq_f, inb_iN, ix_iN, isZ_0, isZ_1, ↓reduceIte, eq_self, h8, v, cl, e, if_pos c, if_pos c.symm]
      · simp (disch := omega) only [chk_t, beq_self_eq_true, nm_s, bj1_s, bj2_s, bj3_s, mo_1, mo_0, l_0, l_1, l_2, l_3, l_4, l_5, l_6, l_7, l_8, l_9, l_10, l_11, l_12, l_13, l_14, l_15, l_16, l_17, l_18, l_19, l_20, l_21, l_24, l_30, l_31, l_32, l_36, l_40, l_41, l_42, l_43, l_44, l_45, l_46, l_47, l_48, l_49, l_50, l_51, l_52, l_57, l_58, l_60, l_61, l_64, l_72, l_80, l_92, l_98, l_99, l_100, l_102, l_105, l_111, l_112, l_114, l_115, l_116, l_117, l_120, l_144, l_200, l_201, l_240, l_300, l_320, l_400, l_500, l_512, l_550, l_560, l_649, l_650, l_1000, l_1032, l_1400, l_2000, l_4000, l_10000, l_268435455, iN_add, iN_sub, iN_mul, iN_le_t, iN_le_f, iN_lt_t, iN_lt_f, iN_eq_f, inb_iN, ix_iN, isZ_0, isZ_1, ↓reduceIte, eq_self, h8, v, cl, e, if_neg c, if_neg (fun z => c (Eq.symm z))]
    · intro f s
      show f_X0_unlikeRow_l4_3 17 (51 + 2 * r) A (f + 1) s (iN z) = _
      unfold f_X0_unlikeRow_l4_3
      simp (disch := omega) only [chk_t, beq_self_eq_true, nm_s, bj1_s, bj2_s, bj3_s, mo_1, mo_0, l_0, l_1, l_2, l_3, l_4, l_5, l_6, l_7, l_8, l_9, l_10, l_11, l_12, l_13, l_14, l_15, l_16, l_17, l_18, l_19, l_20, l_21, l_24, l_30, l_31, l_32, l_36, l_40, l_41, l_42, l_43, l_44, l_45, l_46, l_47, l_48, l_49, l_50, l_51, l_52, l_57, l_58, l_60, l_61, l_64, l_72, l_80, l_92, l_98, l_99, l_100, l_102, l_105, l_111, l_112, l_114, l_115, l_116, l_117, l_120, l_144, l_200, l_201, l_240, l_300, l_320, l_400, l_500, l_512, l_550, l_560, l_649, l_650, l_1000, l_1032, l_1400, l_2000, l_4000, l_10000, l_268435455, iN_add, iN_sub, iN_mul, iN_le_t, iN_le_f, iN_lt_t, iN_lt_f, iN_eq_f, inb_iN, ix_iN, isZ_0, isZ_1, ↓reduceIte, eq_self, h8]
  have kk : kd 17 = 0 := rfl
  unfold f_X0_unlikeRow
  simp (disch := omega) only [chk_t, beq_self_eq_true, nm_s, bj1_s, bj2_s, bj3_s, mo_1, mo_0, l_0, l_1, l_2, l_3, l_4, l_5, l_6, l_7, l_8, l_9, l_10, l_11, l_12, l_13, l_14, l_15, l_16, l_17, l_18, l_19, l_20, l_21, l_24, l_30, l_31, l_32, l_36, l_40, l_41, l_42, l_43, l_44, l_45, l_46, l_47, l_48, l_49, l_50, l_51, l_52, l_57, l_58, l_60, l_61, l_64, l_72, l_80, l_92, l_98, l_99, l_100, l_102, l_105, l_111, l_112, l_114, l_115, l_116, l_117, l_120, l_144, l_200, l_201, l_240, l_300, l_320, l_400, l_500, l_512, l_550, l_560, l_649, l_650, l_1000, l_1032, l_1400, l_2000, l_4000, l_10000, l_268435455, iN_add, iN_sub, iN_mul, iN_le_t, iN_le_f, iN_lt_t, iN_lt_f, iN_eq_f, inb_iN, ix_iN, isZ_0, isZ_1, ↓reduceIte, eq_self, kd_b kk, kd_b ho, key]
/-- a slice that is none -/
def alS (g : Nat → Int32) : Nat → Int32
  | 0 => iN 1
  | n + 1 => if alS g n = iN 0 then iN 0 else inS (iN 0) (iN 2) (g n)
theorem alS_0 {g : Nat → Int32} {a : Nat} (b : Nat) (h : alS g a = iN 0) (hb : a ≤ b) : alS g b = iN 0 := by
  induction b with
  | zero =>
    have : a = 0 := by omega
    subst this
    exact h
  | succ b ih =>
    by_cases c : a = b + 1
    · subst c
      exact h
    · unfold alS
      rw [if_pos (ih (by omega))]
theorem alS_01 (g : Nat → Int32) (n : Nat) : alS g n = iN 0 ∨ alS g n = iN 1 := by
  cases n with
  | zero => exact Or.inr rfl
  | succ n =>
    unfold alS
    split
    · exact Or.inl rfl
    · exact inS_01 _ _ _
theorem cwrong_ok {o z : Nat} {G : G_} {g : Nat → Int32} (ho : kd o = 4) (hz : z ≤ 40) (ez : G.1 o 1 = iN z) (hg : ∀ i, i < z → G.1 (o + 1) i = g i) : f_X7_wrongSlice o G = some (if inS (iN 3) (iN 20) (iN z) = iN 0 then iN 5 else if alS g z = iN 0 then iN 3 else iN 0) := by
  have th := rthere_t ho ez hz
  have key : f_X7_wrongSlice_l26_6 o G FU (iN 0) = some (if alS g z = iN 0 then iN 3 else iN 0) := by
    refine loop_iv (fun f v (_ : Unit) => f_X7_wrongSlice_l26_6 o G f v) (fun j _ => alS g j = iN 1) (fun r => r = some (if alS g z = iN 0 then iN 3 else iN 0)) 0 z ?_ ?_ (by omega) (n := FU) (fu_lt (by omega)) (s := ()) rfl
    · intro f j _ h1 h2 hI
      have v := value_t ho ez hz h2
      rw [hg j h2] at v
      have hs : alS g (j + 1) = inS (iN 0) (iN 2) (g j) := by
        conv => lhs; unfold alS
        rw [if_neg (by rw [hI]; decide)]
      rcases inS_01 (iN 0) (iN 2) (g j) with e | e
      · right
        rw [e] at hs
        rw [if_pos (alS_0 z hs (by omega))]
        show f_X7_wrongSlice_l26_6 o G (f + 1) (iN j) = some (iN 3)
        unfold f_X7_wrongSlice_l26_6
        simp (disch := omega) only [chk_t, beq_self_eq_true, nm_s, bj1_s, bj2_s, bj3_s, mo_1, mo_0, l_0, l_1, l_2, l_3, l_4, l_5, l_6, l_7, l_8, l_9, l_10, l_11, l_12, l_13, l_14, l_15, l_16, l_17, l_18, l_19, l_20, l_21, l_24, l_30, l_31, l_32, l_36, l_40, l_41, l_42, l_43, l_44, l_45, l_46, l_47, l_48, l_49, l_50, l_51, l_52, l_57, l_58, l_60, l_61, l_64, l_72, l_80, l_92, l_98, l_99, l_100, l_102, l_105, l_111, l_112, l_114, l_115, l_116, l_117, l_120, l_144, l_200, l_201, l_240, l_300, l_320, l_400, l_500, l_512, l_550, l_560, l_649, l_650, l_1000, l_1032, l_1400, l_2000, l_4000, l_10000, l_268435455, iN_add, iN_sub, iN_mul, iN_le_t, iN_le_f, iN_lt_t, iN_lt_f, iN_eq_f, inb_iN, ix_iN, isZ_0, isZ_1, ↓reduceIte, eq_self, ez, v, in7, e]
      · left
        refine ⟨(), hs.trans e, ?_⟩
        show f_X7_wrongSlice_l26_6 o G (f + 1) (iN j) = f_X7_wrongSlice_l26_6 o G f (iN (j + 1))
        conv => lhs; unfold f_X7_wrongSlice_l26_6
        simp (disch := omega) only [chk_t, beq_self_eq_true, nm_s, bj1_s, bj2_s, bj3_s, mo_1, mo_0, l_0, l_1, l_2, l_3, l_4, l_5, l_6, l_7, l_8, l_9, l_10, l_11, l_12, l_13, l_14, l_15, l_16, l_17, l_18, l_19, l_20, l_21, l_24, l_30, l_31, l_32, l_36, l_40, l_41, l_42, l_43, l_44, l_45, l_46, l_47, l_48, l_49, l_50, l_51, l_52, l_57, l_58, l_60, l_61, l_64, l_72, l_80, l_92, l_98, l_99, l_100, l_102, l_105, l_111, l_112, l_114, l_115, l_116, l_117, l_120, l_144, l_200, l_201, l_240, l_300, l_320, l_400, l_500, l_512, l_550, l_560, l_649, l_650, l_1000, l_1032, l_1400, l_2000, l_4000, l_10000, l_268435455, iN_add, iN_sub, iN_mul, iN_le_t, iN_le_f, iN_lt_t, iN_lt_f, iN_eq_f, inb_iN, ix_iN, isZ_0, isZ_1, ↓reduceIte, eq_self, ez, v, in7, e]
    · intro f _ hI
      rw [hI, if_neg (by decide)]
      show f_X7_wrongSlice_l26_6 o G (f + 1) (iN z) = some (iN 0)
      unfold f_X7_wrongSlice_l26_6
      simp (disch := omega) only [chk_t, beq_self_eq_true, nm_s, bj1_s, bj2_s, bj3_s, mo_1, mo_0, l_0, l_1, l_2, l_3, l_4, l_5, l_6, l_7, l_8, l_9, l_10, l_11, l_12, l_13, l_14, l_15, l_16, l_17, l_18, l_19, l_20, l_21, l_24, l_30, l_31, l_32, l_36, l_40, l_41, l_42, l_43, l_44, l_45, l_46, l_47, l_48, l_49, l_50, l_51, l_52, l_57, l_58, l_60, l_61, l_64, l_72, l_80, l_92, l_98, l_99, l_100, l_102, l_105, l_111, l_112, l_114, l_115, l_116, l_117, l_120, l_144, l_200, l_201, l_240, l_300, l_320, l_400, l_500, l_512, l_550, l_560, l_649, l_650, l_1000, l_1032, l_1400, l_2000, l_4000, l_10000, l_268435455, iN_add, iN_sub, iN_mul, iN_le_t, iN_le_f, iN_lt_t, iN_lt_f, iN_eq_f, inb_iN, ix_iN, isZ_0, isZ_1, ↓reduceIte, eq_self, ez]
  unfold f_X7_wrongSlice
  rcases inS_01 (iN 3) (iN 20) (iN z) with e | e
  · simp (disch := omega) only [chk_t, beq_self_eq_true, nm_s, bj1_s, bj2_s, bj3_s, mo_1, mo_0, l_0, l_1, l_2, l_3, l_4, l_5, l_6, l_7, l_8, l_9, l_10, l_11, l_12, l_13, l_14, l_15, l_16, l_17, l_18, l_19, l_20, l_21, l_24, l_30, l_31, l_32, l_36, l_40, l_41, l_42, l_43, l_44, l_45, l_46, l_47, l_48, l_49, l_50, l_51, l_52, l_57, l_58, l_60, l_61, l_64, l_72, l_80, l_92, l_98, l_99, l_100, l_102, l_105, l_111, l_112, l_114, l_115, l_116, l_117, l_120, l_144, l_200, l_201, l_240, l_300, l_320, l_400, l_500, l_512, l_550, l_560, l_649, l_650, l_1000, l_1032, l_1400, l_2000, l_4000, l_10000, l_268435455, iN_add, iN_sub, iN_mul, iN_le_t, iN_le_f, iN_lt_t, iN_lt_f, iN_eq_f, inb_iN, ix_iN, isZ_0, isZ_1, ↓reduceIte, eq_self, kd_b ho, th, ez, in7, e]
  · simp (disch := omega) only [chk_t, beq_self_eq_true, nm_s, bj1_s, bj2_s, bj3_s, mo_1, mo_0, l_0, l_1, l_2, l_3, l_4, l_5, l_6, l_7, l_8, l_9, l_10, l_11, l_12, l_13, l_14, l_15, l_16, l_17, l_18, l_19, l_20, l_21, l_24, l_30, l_31, l_32, l_36, l_40, l_41, l_42, l_43, l_44, l_45, l_46, l_47, l_48, l_49, l_50, l_51, l_52, l_57, l_58, l_60, l_61, l_64, l_72, l_80, l_92, l_98, l_99, l_100, l_102, l_105, l_111, l_112, l_114, l_115, l_116, l_117, l_120, l_144, l_200, l_201, l_240, l_300, l_320, l_400, l_500, l_512, l_550, l_560, l_649, l_650, l_1000, l_1032, l_1400, l_2000, l_4000, l_10000, l_268435455, iN_add, iN_sub, iN_mul, iN_le_t, iN_le_f, iN_lt_t, iN_lt_f, iN_eq_f, inb_iN, ix_iN, isZ_0, isZ_1, ↓reduceIte, eq_self, kd_b ho, th, ez, in7, e, key]
/-! odds: a fraction in lowest terms -/
def jN (k : Nat) : Int64 := Int64.ofNat k
theorem jN_t {k : Nat} (h : k < 9223372036854775808) : (jN k).toInt = k := Int64.toInt_ofNat_of_lt h
theorem i64 {k : Nat} (h : k < 2147483648) : (iN k).toInt64 = jN k := by
  rw [← Int64.toInt_inj, Int32.toInt_toInt64, li h, jN_t (by omega)]
theorem jN_mul (a b : Nat) : jN a * jN b = jN (a * b) := (Int64.ofNat_mul a b).symm
theorem jN_sub {a b : Nat} (h : b ≤ a) : jN a - jN b = jN (a - b) := (Int64.ofNat_sub a b h).symm
theorem jN_div {a b : Nat} (ha : a < 2147483648) (hb0 : 0 < b) (hb : b < 2147483648) : jN a / jN b = jN (a / b) := by
  have h2 : a / b ≤ a := Nat.div_le_self a b
  rw [← Int64.toInt_inj, Int64.toInt_div_of_ne_right _ _ (fun e => by have := congrArg Int64.toInt e; rw [jN_t (by omega), show (-1 : Int64).toInt = -1 from by decide] at this; omega), jN_t (by omega), jN_t (by omega), jN_t (by omega), Int.tdiv_eq_ediv_of_nonneg (by omega)]
  exact (Int.natCast_ediv a b).symm
theorem jN_0 : jN 0 = 0 := rfl
theorem jN_ne {b : Nat} (hb0 : 0 < b) (hb : b < 2147483648) : jN b ≠ 0 := fun e => by
  have := congrArg Int64.toInt e
  rw [jN_t (by omega), show (0 : Int64).toInt = 0 from rfl] at this
  omega
theorem lgc_0 (x y : Int64) : lg_cmp x y = 0 ↔ x = y := by
  unfold lg_cmp
  split
  · next h =>
    constructor
    · intro e
      exact absurd e (by decide)
    · intro e
      rw [e] at h
      exact (Int64.lt_irrefl h).elim
  · split
    · next h => exact ⟨fun _ => h, fun _ => rfl⟩
    · next h => exact ⟨fun e => absurd e (by decide), fun e => absurd e h⟩
theorem mod_N (x y : Nat) : x - x / y * y = x % y := by
  have := Nat.div_add_mod x y
  rw [Nat.mul_comm] at this
  omega
theorem cgcd_ok (a1 a2 : Int32) (G : G_) : ∀ (y x m n : Nat), x ≤ 1000 → y ≤ 1000 → m + y < 64 → y < n → f_X7_tellFraction_l8_4 a1 a2 G n (iN x) (iN y) (iN m) = some (iN (Nat.gcd y x)) := by
  intro y
  induction y using Nat.strongRecOn with
  | _ y ih =>
    intro x m n hx hy hm hn
    obtain ⟨n, rfl⟩ : ∃ k, n = k + 1 := ⟨n - 1, by omega⟩
    unfold f_X7_tellFraction_l8_4
    by_cases c : y = 0
    · subst c
      rw [Nat.gcd_zero_left]
      simp (disch := omega) only [chk_t, beq_self_eq_true, nm_s, bj1_s, bj2_s, bj3_s, mo_1, mo_0, l_0, l_1, l_2, l_3, l_4, l_5, l_6, l_7, l_8, l_9, l_10, l_11, l_12, l_13, l_14, l_15, l_16, l_17, l_18, l_19, l_20, l_21, l_24, l_30, l_31, l_32, l_36, l_40, l_41, l_42, l_43, l_44, l_45, l_46, l_47, l_48, l_49, l_50, l_51, l_52, l_57, l_58, l_60, l_61, l_64, l_72, l_80, l_92, l_98, l_99, l_100, l_102, l_105, l_111, l_112, l_114, l_115, l_116, l_117, l_120, l_144, l_200, l_201, l_240, l_300, l_320, l_400, l_500, l_512, l_550, l_560, l_649, l_650, l_1000, l_1032, l_1400, l_2000, l_4000, l_10000, l_268435455, iN_add, iN_sub, iN_mul, iN_le_t, iN_le_f, iN_lt_t, iN_lt_f, iN_eq_f, inb_iN, ix_iN, isZ_0, isZ_1, ↓reduceIte, eq_self]
    · have e0 : (iN y = iN 0) = False := iN_eq_f c (by omega) (by omega)
      have e1 : (iN y != iN 0) = true := by
        rw [bne_iff_ne]
        exact of_eq_false e0
      have ed : iN x / iN y = iN (x / y) := iN_div (by omega) (by omega) (by omega)
      have hml : x / y * y ≤ x := Nat.div_mul_le_self x y
      have hlt : x % y < y := Nat.mod_lt x (by omega)
      have h := ih (x % y) hlt y (m + 1) n hy (by omega) (by omega) (by omega)
      rw [← Nat.gcd_rec y x, ← mod_N] at h
      simp (disch := omega) only [chk_t, beq_self_eq_true, nm_s, bj1_s, bj2_s, bj3_s, mo_1, mo_0, l_0, l_1, l_2, l_3, l_4, l_5, l_6, l_7, l_8, l_9, l_10, l_11, l_12, l_13, l_14, l_15, l_16, l_17, l_18, l_19, l_20, l_21, l_24, l_30, l_31, l_32, l_36, l_40, l_41, l_42, l_43, l_44, l_45, l_46, l_47, l_48, l_49, l_50, l_51, l_52, l_57, l_58, l_60, l_61, l_64, l_72, l_80, l_92, l_98, l_99, l_100, l_102, l_105, l_111, l_112, l_114, l_115, l_116, l_117, l_120, l_144, l_200, l_201, l_240, l_300, l_320, l_400, l_500, l_512, l_550, l_560, l_649, l_650, l_1000, l_1032, l_1400, l_2000, l_4000, l_10000, l_268435455, iN_add, iN_sub, iN_mul, iN_le_t, iN_le_f, iN_lt_t, iN_lt_f, iN_eq_f, inb_iN, ix_iN, isZ_0, isZ_1, ↓reduceIte, eq_self, e0, e1, ed, h]
theorem ctell_ok {a b : Nat} {G : G_} (ha : a ≤ 16) (hb : b ≤ 16) (hb1 : 1 ≤ b) : f_X7_tellFraction (iN a) (iN b) G = some (sJ (sJ G 0 17 (jN (a / Nat.gcd b a))) 0 18 (jN (b / Nat.gcd b a))) := by
  have hg : 0 < Nat.gcd b a := Nat.gcd_pos_of_pos_left a (by omega)
  have hg2 : Nat.gcd b a ≤ b := Nat.gcd_le_left a (by omega)
  have k := cgcd_ok (iN a) (iN b) G b a 0 FU (by omega) (by omega) (by omega) (fu_lt (by omega))
  generalize Nat.gcd b a = g at *
  have d1 : iN a / iN g = iN (a / g) := iN_div (by omega) hg (by omega)
  have d2 : iN b / iN g = iN (b / g) := iN_div (by omega) hg (by omega)
  have z1 := Nat.div_le_self a g
  have z2 := Nat.div_le_self b g
  have e0 : (iN g = iN 0) = False := iN_eq_f (by omega) (by omega) (by omega)
  have e1 : (iN g != iN 0) = true := by
    rw [bne_iff_ne]
    exact of_eq_false e0
  unfold f_X7_tellFraction
  simp (disch := omega) only [chk_t, beq_self_eq_true, nm_s, bj1_s, bj2_s, bj3_s, mo_1, mo_0, l_0, l_1, l_2, l_3, l_4, l_5, l_6, l_7, l_8, l_9, l_10, l_11, l_12, l_13, l_14, l_15, l_16, l_17, l_18, l_19, l_20, l_21, l_24, l_30, l_31, l_32, l_36, l_40, l_41, l_42, l_43, l_44, l_45, l_46, l_47, l_48, l_49, l_50, l_51, l_52, l_57, l_58, l_60, l_61, l_64, l_72, l_80, l_92, l_98, l_99, l_100, l_102, l_105, l_111, l_112, l_114, l_115, l_116, l_117, l_120, l_144, l_200, l_201, l_240, l_300, l_320, l_400, l_500, l_512, l_550, l_560, l_649, l_650, l_1000, l_1032, l_1400, l_2000, l_4000, l_10000, l_268435455, iN_add, iN_sub, iN_mul, iN_le_t, iN_le_f, iN_lt_t, iN_lt_f, iN_eq_f, inb_iN, ix_iN, isZ_0, isZ_1, ↓reduceIte, eq_self, k, e0, e1, d1, d2, i64]
/-- how many pairs are as unlike as the least, and how many of those with the plan a -/
def odA (f : Nat → Int32) (v : Int32) (j : Nat) : Int32 := sumS (fun j => if f j = v then iN 1 else iN 0) j
def odB (f : Nat → Int32) (v a : Int32) (j : Nat) : Int32 := sumS (fun j => if f j = v then (if iN (j - j / 4 * 4) = a then iN 1 else iN 0) else iN 0) j
theorem od_N (f : Nat → Int32) (v a : Int32) {b : Nat} (hb : b < 16) (hf : f b = v) : ∃ x y, odA f v 16 = iN x ∧ odB f v a 16 = iN y ∧ 1 ≤ x ∧ x ≤ 16 ∧ y ≤ 16 := by
  have key : ∀ n, n ≤ 16 → ∃ x, x ≤ n ∧ odA f v n = iN x ∧ (b < n → 1 ≤ x) := by
    intro n
    induction n with
    | zero => exact fun _ => ⟨0, by omega, rfl, fun h => by omega⟩
    | succ n ih =>
      intro hn
      obtain ⟨x, h1, h2, h3⟩ := ih (by omega)
      have e : odA f v (n + 1) = odA f v n + if f n = v then iN 1 else iN 0 := rfl
      rw [e, h2]
      by_cases c : f n = v
      · rw [if_pos c, iN_add]
        exact ⟨x + 1, by omega, rfl, fun _ => by omega⟩
      · rw [if_neg c, iN_add]
        refine ⟨x + 0, by omega, rfl, fun h => ?_⟩
        by_cases d : b = n
        · subst d
          exact absurd hf c
        · have := h3 (by omega)
          omega
  obtain ⟨x, h1, h2, h3⟩ := key 16 (by omega)
  obtain ⟨y, h4, h5⟩ := sum01 (fun j => if f j = v then (if iN (j - j / 4 * 4) = a then iN 1 else iN 0) else iN 0) 16 (fun i _ => by
    show (if _ then (if _ then iN 1 else iN 0) else iN 0) = iN 0 ∨ (if _ then (if _ then iN 1 else iN 0) else iN 0) = iN 1
    split
    · split
      · exact Or.inr rfl
      · exact Or.inl rfl
    · exact Or.inl rfl) (by omega)
  exact ⟨x, y, h2, h5, h3 hb, by omega, by omega⟩
/-! texts read: bytes, numbers, blanks -/
def cT (t z : Nat) (B : Nat → Int32) (G : G_) : Prop := G.1 (63 + 2 * t) 1 = iN z ∧ ∀ i, i < z → G.1 (63 + 2 * t + 1) i = B i
def mT (t z : Nat) (B : Nat → Int32) (H : G_) : Prop := H.1 129 t = iN z ∧ ∀ i, i < z → H.1 130 (80 * t + i) = B i
def bC (z : Nat) (B : Nat → Int32) (p : Nat) : Int32 := if p < z then B p else iN 1000
def bT (z : Nat) (B : Nat → Int32) (p : Nat) : Int32 := if p < z then B p else iN 0
theorem cT_sI {t z q j : Nat} {v : Int32} {B : Nat → Int32} {G : G_} (ht : t < 4) (h : cT t z B G) (hq : q < 63 ∨ 70 < q) : cT t z B (sI G q j v) := by
  unfold cT
  rw [sI_p (by omega), sI_p (by omega)]
  exact h
theorem mT_sI {t z q j : Nat} {v : Int32} {B : Nat → Int32} {G : G_} (h : mT t z B G) (hq : q ≠ 129 ∧ q ≠ 130) : mT t z B (sI G q j v) := by
  unfold mT
  rw [sI_p (by omega), sI_p (by omega)]
  exact h
theorem cval {t z p : Nat} {B : Nat → Int32} {G : G_} (ht : t < 4) (hz : z ≤ 80) (h : cT t z B G) (hp : p ≤ 1000) : f_X6_value (63 + 2 * t) (iN p) G = some (bC z B p) := by
  have ho := (rtk t ht).2
  unfold bC
  by_cases c : p < z
  · rw [if_pos c, tvalue_t ho h.1 hz c, h.2 p c]
  · rw [if_neg c]
    rcases thas_cases ho h.1 hz (iN p) with ⟨c2, -⟩ | ⟨k, hk, ek, -, -⟩
    · unfold f_X6_value
      simp (disch := omega) only [chk_t, beq_self_eq_true, nm_s, bj1_s, bj2_s, bj3_s, mo_1, mo_0, l_0, l_1, l_2, l_3, l_4, l_5, l_6, l_7, l_8, l_9, l_10, l_11, l_12, l_13, l_14, l_15, l_16, l_17, l_18, l_19, l_20, l_21, l_24, l_30, l_31, l_32, l_36, l_40, l_41, l_42, l_43, l_44, l_45, l_46, l_47, l_48, l_49, l_50, l_51, l_52, l_57, l_58, l_60, l_61, l_64, l_72, l_80, l_92, l_98, l_99, l_100, l_102, l_105, l_111, l_112, l_114, l_115, l_116, l_117, l_120, l_144, l_200, l_201, l_240, l_300, l_320, l_400, l_500, l_512, l_550, l_560, l_649, l_650, l_1000, l_1032, l_1400, l_2000, l_4000, l_10000, l_268435455, iN_add, iN_sub, iN_mul, iN_le_t, iN_le_f, iN_lt_t, iN_lt_f, iN_eq_f, inb_iN, ix_iN, isZ_0, isZ_1, ↓reduceIte, eq_self, kd_b ho, c2]
    · have ek := (iN_inj (by omega) (by omega)).mp ek
      omega
theorem dg_cases (z : Nat) (B : Nat → Int32) (p : Nat) : (p < z ∧ ∃ k, 48 ≤ k ∧ k ≤ 57 ∧ bC z B p = iN k ∧ bT z B p = iN k) ∨ (inS (iN 48) (iN 57) (bC z B p) = iN 0 ∧ inS (iN 48) (iN 57) (bT z B p) = iN 0) := by
  unfold bC bT
  by_cases c : p < z
  · rw [if_pos c, if_pos c]
    rcases in_N 48 57 (B p) with h | ⟨-, k, h1, h2, h3⟩
    · exact Or.inr ⟨h, h⟩
    · exact Or.inl ⟨c, k, h2, h3, h1, h1⟩
  · rw [if_neg c, if_neg c]
    exact Or.inr ⟨by decide, by decide⟩
theorem skp_ex (z : Nat) (B : Nat → Int32) : ∀ (d p : Nat), z - p ≤ d → p ≤ z → ∃ m, p + m ≤ z ∧ (∀ i, i < m → B (p + i) = iN 32) ∧ ¬ (p + m < z ∧ B (p + m) = iN 32) := by
  intro d
  induction d with
  | zero => exact fun p h1 h2 => ⟨0, by omega, fun i hi => by omega, fun h => by omega⟩
  | succ d ih =>
    intro p h1 h2
    by_cases c : p < z ∧ B p = iN 32
    · obtain ⟨m, g1, g2, g3⟩ := ih (p + 1) (by omega) (by omega)
      refine ⟨m + 1, by omega, fun i hi => ?_, ?_⟩
      · cases i with
        | zero => exact c.2
        | succ i =>
          rw [show p + (i + 1) = p + 1 + i by omega]
          exact g2 i (by omega)
      · rw [show p + (m + 1) = p + 1 + m by omega]
        exact g3
    · exact ⟨0, by omega, fun i hi => by omega, c⟩
theorem cskip {t z p m : Nat} {B : Nat → Int32} {G : G_} (ht : t < 4) (hz : z ≤ 80) (h : cT t z B G) (hp : G.1 39 0 = iN p) (hm : p + m ≤ z) (h1 : ∀ i, i < m → B (p + i) = iN 32) (h2 : ¬ (p + m < z ∧ B (p + m) = iN 32)) : f_X3_skipBlanks (63 + 2 * t) G = some (sI G 39 0 (iN (p + m))) := by
  have ho := (rtk t ht).2
  have key := loop_cl (fun n v s => f_X3_skipBlanks_l2_3 (63 + 2 * t) n v s) (fun j => sI G 39 0 (iN (p + j))) 0 m (some (sI G 39 0 (iN (p + m)))) (by
    intro n j g1 g2
    have v := cval (p := p + j) ht hz (cT_sI (q := 39) (j := 0) (v := iN (p + j)) ht h (by omega)) (by omega)
    unfold bC at v
    rw [if_pos (by omega), h1 j g2] at v
    show f_X3_skipBlanks_l2_3 (63 + 2 * t) (n + 1) (iN j) (sI G 39 0 (iN (p + j))) = f_X3_skipBlanks_l2_3 (63 + 2 * t) n (iN (j + 1)) (sI G 39 0 (iN (p + j + 1)))
    conv => lhs; unfold f_X3_skipBlanks_l2_3
    simp (disch := omega) only [chk_t, beq_self_eq_true, nm_s, bj1_s, bj2_s, bj3_s, mo_1, mo_0, l_0, l_1, l_2, l_3, l_4, l_5, l_6, l_7, l_8, l_9, l_10, l_11, l_12, l_13, l_14, l_15, l_16, l_17, l_18, l_19, l_20, l_21, l_24, l_30, l_31, l_32, l_36, l_40, l_41, l_42, l_43, l_44, l_45, l_46, l_47, l_48, l_49, l_50, l_51, l_52, l_57, l_58, l_60, l_61, l_64, l_72, l_80, l_92, l_98, l_99, l_100, l_102, l_105, l_111, l_112, l_114, l_115, l_116, l_117, l_120, l_144, l_200, l_201, l_240, l_300, l_320, l_400, l_500, l_512, l_550, l_560, l_649, l_650, l_1000, l_1032, l_1400, l_2000, l_4000, l_10000, l_268435455, iN_add, iN_sub, iN_mul, iN_le_t, iN_le_f, iN_lt_t, iN_lt_f, iN_eq_f, inb_iN, ix_iN, isZ_0, isZ_1, ↓reduceIte, eq_self, sI_eq, v, sI_sI]) (by
    intro n
    have v := cval (p := p + m) ht hz (cT_sI (q := 39) (j := 0) (v := iN (p + m)) ht h (by omega)) (by omega)
    have e : (bC z B (p + m) = iN 32) = False := eq_false (fun e => by
      unfold bC at e
      by_cases c : p + m < z
      · rw [if_pos c] at e
        exact h2 ⟨c, e⟩
      · rw [if_neg c] at e
        exact absurd e (by decide))
    show f_X3_skipBlanks_l2_3 (63 + 2 * t) (n + 1) (iN m) (sI G 39 0 (iN (p + m))) = _
    unfold f_X3_skipBlanks_l2_3
    by_cases c : 80 ≤ m
    · simp (disch := omega) only [chk_t, beq_self_eq_true, nm_s, bj1_s, bj2_s, bj3_s, mo_1, mo_0, l_0, l_1, l_2, l_3, l_4, l_5, l_6, l_7, l_8, l_9, l_10, l_11, l_12, l_13, l_14, l_15, l_16, l_17, l_18, l_19, l_20, l_21, l_24, l_30, l_31, l_32, l_36, l_40, l_41, l_42, l_43, l_44, l_45, l_46, l_47, l_48, l_49, l_50, l_51, l_52, l_57, l_58, l_60, l_61, l_64, l_72, l_80, l_92, l_98, l_99, l_100, l_102, l_105, l_111, l_112, l_114, l_115, l_116, l_117, l_120, l_144, l_200, l_201, l_240, l_300, l_320, l_400, l_500, l_512, l_550, l_560, l_649, l_650, l_1000, l_1032, l_1400, l_2000, l_4000, l_10000, l_268435455, iN_add, iN_sub, iN_mul, iN_le_t, iN_le_f, iN_lt_t, iN_lt_f, iN_eq_f, inb_iN, ix_iN, isZ_0, isZ_1, ↓reduceIte, eq_self]
    · simp (disch := omega) only [chk_t, beq_self_eq_true, nm_s, bj1_s, bj2_s, bj3_s, mo_1, mo_0, l_0, l_1, l_2, l_3, l_4, l_5, l_6, l_7, l_8, l_9, l_10, l_11, l_12, l_13, l_14, l_15, l_16, l_17, l_18, l_19, l_20, l_21, l_24, l_30, l_31, l_32, l_36, l_40, l_41, l_42, l_43, l_44, l_45, l_46, l_47, l_48, l_49, l_50, l_51, l_52, l_57, l_58, l_60, l_61, l_64, l_72, l_80, l_92, l_98, l_99, l_100, l_102, l_105, l_111, l_112, l_114, l_115, l_116, l_117, l_120, l_144, l_200, l_201, l_240, l_300, l_320, l_400, l_500, l_512, l_550, l_560, l_649, l_650, l_1000, l_1032, l_1400, l_2000, l_4000, l_10000, l_268435455, iN_add, iN_sub, iN_mul, iN_le_t, iN_le_f, iN_lt_t, iN_lt_f, iN_eq_f, inb_iN, ix_iN, isZ_0, isZ_1, ↓reduceIte, eq_self, sI_eq, v, e]) (by omega) (n := FU) (fu_lt (by omega))
  rw [show p + 0 = p from rfl, sI_self hp] at key
  have key : f_X3_skipBlanks_l2_3 (63 + 2 * t) FU (iN 0) G = _ := key
  unfold f_X3_skipBlanks
  simp (disch := omega) only [chk_t, beq_self_eq_true, nm_s, bj1_s, bj2_s, bj3_s, mo_1, mo_0, l_0, l_1, l_2, l_3, l_4, l_5, l_6, l_7, l_8, l_9, l_10, l_11, l_12, l_13, l_14, l_15, l_16, l_17, l_18, l_19, l_20, l_21, l_24, l_30, l_31, l_32, l_36, l_40, l_41, l_42, l_43, l_44, l_45, l_46, l_47, l_48, l_49, l_50, l_51, l_52, l_57, l_58, l_60, l_61, l_64, l_72, l_80, l_92, l_98, l_99, l_100, l_102, l_105, l_111, l_112, l_114, l_115, l_116, l_117, l_120, l_144, l_200, l_201, l_240, l_300, l_320, l_400, l_500, l_512, l_550, l_560, l_649, l_650, l_1000, l_1032, l_1400, l_2000, l_4000, l_10000, l_268435455, iN_add, iN_sub, iN_mul, iN_le_t, iN_le_f, iN_lt_t, iN_lt_f, iN_eq_f, inb_iN, ix_iN, isZ_0, isZ_1, ↓reduceIte, eq_self, kd_b ho, key]
/-! a slab read from a text -/
def CSs (t z : Nat) (B : Nat → Int32) (p : Nat) (V : Nat → Int32) (G : G_) : Prop := cT t z B G ∧ G.1 39 0 = iN p ∧ G.1 39 1 = -iN 9 ∧ G.1 40 0 = iN 1 ∧ ∀ j, j < 4 → G.1 40 (j + 1) = V j
def MSs (t z : Nat) (B : Nat → Int32) (p c : Nat) (V : Nat → Int32) (H : G_) : Prop := mT t z B H ∧ H.1 124 15 = iN p ∧ H.1 124 17 = iN c ∧ ∀ j, j < 4 → H.1 136 j = V j
theorem slR_up {V : Nat → Int32} {j v lo hi : Nat} (h : ∃ n, slR V n) (hj : j < 4) (h0 : j = 0 → 3 ≤ lo ∧ hi ≤ 20) (h1 : j = 1 → hi ≤ 40) (hl : lo ≤ v) (hh : v ≤ hi) (h99 : v ≤ 99) : ∃ n, slR (up V j (iN v)) n := by
  obtain ⟨n, ⟨g1, g2, g3⟩, g4, g5⟩ := h
  have e1 : ∀ q, q ≠ j → up V j (iN v) q = V q := fun q hq => up_ne hq
  by_cases c0 : j = 0
  · subst c0
    refine ⟨v, ⟨up_eq, by omega, by omega⟩, ?_⟩
    rw [e1 1 (by omega)]
    exact ⟨g4, g5⟩
  · refine ⟨n, ⟨by rw [e1 0 (by omega)]; exact g1, g2, g3⟩, ?_⟩
    by_cases c1 : j = 1
    · subst c1
      rw [up_eq, li (by omega)]
      have := h1 rfl
      omega
    · rw [e1 1 (by omega)]
      exact ⟨g4, g5⟩
theorem iN_m9 {k : Nat} (h : k ≤ 1000) : (iN k = -iN 9) = False := eq_false (ne_m9 h)
/-! slab -/
def V0s (j : Nat) : Int32 := if j = 0 then iN 10 else if j = 1 then iN 5 else if j = 2 then iN 0 else iN 2
theorem V0s_ok : slR V0s 10 := ⟨⟨rfl, by omega, by omega⟩, by decide, by decide⟩
theorem become5 {o : Nat} {G : G_} (ho : kd o = 5) (hd : o ≠ 40) (h0 : G.1 40 0 = iN 1) : ∃ G', f_X5_become o 40 G = some G' ∧ G'.1 o 0 = iN 1 ∧ (∀ j, j < 4 → G'.1 o (j + 1) = G.1 40 (j + 1)) ∧ (∀ q, q ≠ o → G'.1 q = G.1 q) ∧ G'.2 = G.2 := by
  have hk40 : kd 40 = 5 := rfl
  have hd' : 40 ≠ o := fun e => hd e.symm
  refine ⟨sI (sI (sI (sI (sI G o 0 (iN 1)) o 1 (G.1 40 1)) o 2 (G.1 40 2)) o 3 (G.1 40 3)) o 4 (G.1 40 4), ?_, ?_, fun j hj => ?_, fun q hq => ?_, rfl⟩
  · unfold f_X5_become
    simp (disch := omega) only [chk_t, beq_self_eq_true, nm_s, bj1_s, bj2_s, bj3_s, mo_1, mo_0, l_0, l_1, l_2, l_3, l_4, l_5, l_6, l_7, l_8, l_9, l_10, l_11, l_12, l_13, l_14, l_15, l_16, l_17, l_18, l_19, l_20, l_21, l_24, l_30, l_31, l_32, l_36, l_40, l_41, l_42, l_43, l_44, l_45, l_46, l_47, l_48, l_49, l_50, l_51, l_52, l_57, l_58, l_60, l_61, l_64, l_72, l_80, l_92, l_98, l_99, l_100, l_102, l_105, l_111, l_112, l_114, l_115, l_116, l_117, l_120, l_144, l_200, l_201, l_240, l_300, l_320, l_400, l_500, l_512, l_550, l_560, l_649, l_650, l_1000, l_1032, l_1400, l_2000, l_4000, l_10000, l_268435455, iN_add, iN_sub, iN_mul, iN_le_t, iN_le_f, iN_lt_t, iN_lt_f, iN_eq_f, inb_iN, ix_iN, isZ_0, isZ_1, ↓reduceIte, eq_self, kd_b ho, kd_b hk40, h0, sI_p hd']
  · simp (disch := omega) only [chk_t, beq_self_eq_true, nm_s, bj1_s, bj2_s, bj3_s, mo_1, mo_0, l_0, l_1, l_2, l_3, l_4, l_5, l_6, l_7, l_8, l_9, l_10, l_11, l_12, l_13, l_14, l_15, l_16, l_17, l_18, l_19, l_20, l_21, l_24, l_30, l_31, l_32, l_36, l_40, l_41, l_42, l_43, l_44, l_45, l_46, l_47, l_48, l_49, l_50, l_51, l_52, l_57, l_58, l_60, l_61, l_64, l_72, l_80, l_92, l_98, l_99, l_100, l_102, l_105, l_111, l_112, l_114, l_115, l_116, l_117, l_120, l_144, l_200, l_201, l_240, l_300, l_320, l_400, l_500, l_512, l_550, l_560, l_649, l_650, l_1000, l_1032, l_1400, l_2000, l_4000, l_10000, l_268435455, iN_add, iN_sub, iN_mul, iN_le_t, iN_le_f, iN_lt_t, iN_lt_f, iN_eq_f, inb_iN, ix_iN, isZ_0, isZ_1, ↓reduceIte, eq_self, sI_j, sI_eq]
  · have : j = 0 ∨ j = 1 ∨ j = 2 ∨ j = 3 := by omega
    rcases this with rfl | rfl | rfl | rfl
    · simp (disch := omega) only [chk_t, beq_self_eq_true, nm_s, bj1_s, bj2_s, bj3_s, mo_1, mo_0, l_0, l_1, l_2, l_3, l_4, l_5, l_6, l_7, l_8, l_9, l_10, l_11, l_12, l_13, l_14, l_15, l_16, l_17, l_18, l_19, l_20, l_21, l_24, l_30, l_31, l_32, l_36, l_40, l_41, l_42, l_43, l_44, l_45, l_46, l_47, l_48, l_49, l_50, l_51, l_52, l_57, l_58, l_60, l_61, l_64, l_72, l_80, l_92, l_98, l_99, l_100, l_102, l_105, l_111, l_112, l_114, l_115, l_116, l_117, l_120, l_144, l_200, l_201, l_240, l_300, l_320, l_400, l_500, l_512, l_550, l_560, l_649, l_650, l_1000, l_1032, l_1400, l_2000, l_4000, l_10000, l_268435455, iN_add, iN_sub, iN_mul, iN_le_t, iN_le_f, iN_lt_t, iN_lt_f, iN_eq_f, inb_iN, ix_iN, isZ_0, isZ_1, ↓reduceIte, eq_self, sI_j, sI_eq]
    · simp (disch := omega) only [chk_t, beq_self_eq_true, nm_s, bj1_s, bj2_s, bj3_s, mo_1, mo_0, l_0, l_1, l_2, l_3, l_4, l_5, l_6, l_7, l_8, l_9, l_10, l_11, l_12, l_13, l_14, l_15, l_16, l_17, l_18, l_19, l_20, l_21, l_24, l_30, l_31, l_32, l_36, l_40, l_41, l_42, l_43, l_44, l_45, l_46, l_47, l_48, l_49, l_50, l_51, l_52, l_57, l_58, l_60, l_61, l_64, l_72, l_80, l_92, l_98, l_99, l_100, l_102, l_105, l_111, l_112, l_114, l_115, l_116, l_117, l_120, l_144, l_200, l_201, l_240, l_300, l_320, l_400, l_500, l_512, l_550, l_560, l_649, l_650, l_1000, l_1032, l_1400, l_2000, l_4000, l_10000, l_268435455, iN_add, iN_sub, iN_mul, iN_le_t, iN_le_f, iN_lt_t, iN_lt_f, iN_eq_f, inb_iN, ix_iN, isZ_0, isZ_1, ↓reduceIte, eq_self, sI_j, sI_eq]
    · simp (disch := omega) only [chk_t, beq_self_eq_true, nm_s, bj1_s, bj2_s, bj3_s, mo_1, mo_0, l_0, l_1, l_2, l_3, l_4, l_5, l_6, l_7, l_8, l_9, l_10, l_11, l_12, l_13, l_14, l_15, l_16, l_17, l_18, l_19, l_20, l_21, l_24, l_30, l_31, l_32, l_36, l_40, l_41, l_42, l_43, l_44, l_45, l_46, l_47, l_48, l_49, l_50, l_51, l_52, l_57, l_58, l_60, l_61, l_64, l_72, l_80, l_92, l_98, l_99, l_100, l_102, l_105, l_111, l_112, l_114, l_115, l_116, l_117, l_120, l_144, l_200, l_201, l_240, l_300, l_320, l_400, l_500, l_512, l_550, l_560, l_649, l_650, l_1000, l_1032, l_1400, l_2000, l_4000, l_10000, l_268435455, iN_add, iN_sub, iN_mul, iN_le_t, iN_le_f, iN_lt_t, iN_lt_f, iN_eq_f, inb_iN, ix_iN, isZ_0, isZ_1, ↓reduceIte, eq_self, sI_j, sI_eq]
    · simp (disch := omega) only [chk_t, beq_self_eq_true, nm_s, bj1_s, bj2_s, bj3_s, mo_1, mo_0, l_0, l_1, l_2, l_3, l_4, l_5, l_6, l_7, l_8, l_9, l_10, l_11, l_12, l_13, l_14, l_15, l_16, l_17, l_18, l_19, l_20, l_21, l_24, l_30, l_31, l_32, l_36, l_40, l_41, l_42, l_43, l_44, l_45, l_46, l_47, l_48, l_49, l_50, l_51, l_52, l_57, l_58, l_60, l_61, l_64, l_72, l_80, l_92, l_98, l_99, l_100, l_102, l_105, l_111, l_112, l_114, l_115, l_116, l_117, l_120, l_144, l_200, l_201, l_240, l_300, l_320, l_400, l_500, l_512, l_550, l_560, l_649, l_650, l_1000, l_1032, l_1400, l_2000, l_4000, l_10000, l_268435455, iN_add, iN_sub, iN_mul, iN_le_t, iN_le_f, iN_lt_t, iN_lt_f, iN_eq_f, inb_iN, ix_iN, isZ_0, isZ_1, ↓reduceIte, eq_self, sI_j, sI_eq]
  · rw [sI_p hq, sI_p hq, sI_p hq, sI_p hq, sI_p hq]
/-! juice stays within what a slab begins with; the loss as it is cut, too -/
def jB (D : Nat → Int32) (n : Nat) : Prop := ∀ i, i < n → (D (92 + i)).toInt ≤ 100
theorem juice_le {j w : Int32} (hj : 0 ≤ j.toInt) (hw : 0 ≤ w.toInt) (hw2 : w.toInt ≤ 3000) : (juiceS j w).toInt ≤ j.toInt := by
  have hr := t_rng j
  unfold juiceS
  split
  · omega
  · next c =>
    have c2 : ¬ w.toInt ≤ 550 := fun e => c (t_le.mpr (by rw [li (by omega)]; omega))
    have e1 : (w - iN 550).toInt = w.toInt - 550 := t_sub (by rw [li (by omega)]; omega) (by rw [li (by omega)]; omega)
    have e2 := t_div100 (a := w - iN 550)
    rw [e1, if_pos (by omega)] at e2
    have e3 : (j - (w - iN 550) / iN 100).toInt = j.toInt - (w.toInt - 550) / 100 := by
      rw [t_sub (by rw [e2]; omega) (by rw [e2]; omega), e2]
    split
    · rw [li (by omega)]
      omega
    · rw [e3]
      omega
theorem jB_tick {D : Nat → Int32} {n : Nat} {k q : Int32} (h : wfD D n) (hq : qR q) (hb : jB D n) : jB (tickS k q D) n := by
  obtain ⟨hn, hm, hw, hj⟩ := h
  have h2 := hn.2
  have hnn := okN_n hn
  intro i hi
  unfold tickS
  rw [hnn]
  have w1 := bath_R (k := k) (s := 1) (by omega) (dry_R (s := 1) (i := n - 1) (by omega) (bath_R (k := k) (s := 0) (by omega) (dry_R (s := 0) (i := 0) (by omega) (warms_R (k := k) hn hw hq))))
  have n1 : okN (bathS k 1 (dryS 1 (n - 1) (bathS k 0 (dryS 0 0 (warmsS k q D))))) n := okN_keep hn (by rw [bathS_0 (by omega), dryS_0 (by omega) (by omega), bathS_0 (by omega), dryS_0 (by omega) (by omega), warmsS_lo (by omega)])
  have e : bathS k 1 (dryS 1 (n - 1) (bathS k 0 (dryS 0 0 (warmsS k q D)))) (92 + i) = D (92 + i) := by
    rw [bathS_0 (by omega), dryS_0 (by omega) (by omega), bathS_0 (by omega), dryS_0 (by omega) (by omega)]
    unfold warmsS
    rw [spD_out (by rw [hnn]; omega)]
  rw [endS_0 (by omega) (by omega) (by omega) (by omega), brownS_0 (by omega), brownS_0 (by omega)]
  generalize bathS k 1 (dryS 1 (n - 1) (bathS k 0 (dryS 0 0 (warmsS k q D)))) = E at *
  have w2 := w1 i (by rw [okN_n n1]; exact hi)
  have e2 : mostS E n (92 + i) = juiceS (E (92 + i)) (E (52 + i)) := by
    unfold mostS
    rw [spD_in (by omega) (by omega), show 92 + i - 40 = 52 + i by omega]
  rw [e2, e]
  have := juice_le (j := D (92 + i)) (hj i (by rw [hnn]; exact hi)) w2.1 w2.2
  have := hb i hi
  omega
theorem jB_cg {D E : Nat → Int32} {n : Nat} (h : jB D n) (hn : n ≤ 20) (e : ∀ p, 92 ≤ p → p < 112 → E p = D p) : jB E n := fun i hi => by
  rw [e _ (by omega) (by omega)]
  exact h i hi
theorem jB_rest {D : Nat → Int32} {n k : Nat} (h : wfD D n) (hb : jB D n) : jB (restS D k) n := by
  induction k with
  | zero => exact hb
  | succ k ih => exact jB_tick (wf_rest h) qR_0 ih
theorem jB_go1 {D : Nat → Int32} {n mm : Nat} (h : gD D n mm) (hb : jB D n) : jB (go1 D) n := by
  have h20 := h.1.1.2
  obtain ⟨E, at_, g, eE, hw, hpl, hm, ⟨c, e, -⟩ | ⟨c, a, b, c', h1, h2, h3, h4, h5, h6, h7, h8, -, e⟩⟩ := go1_cases h
  · have hE : jB E n := jB_cg hb (by omega) (fun p g1 g2 => by rw [eE, once_p (by omega) (by omega) (by omega) (by omega)])
    rw [e]
    exact jB_tick hw qR_0 hE
  · have hE : jB E n := jB_cg hb (by omega) (fun p g1 g2 => by rw [eE, once_p (by omega) (by omega) (by omega) (by omega)])
    have hT := jB_tick (k := iN a) hw (qR_N h6) hE
    rw [e]
    split
    · exact jB_cg hT (by omega) (fun p g1 g2 => by rw [up_ne (by omega), up_ne (by omega)])
    · exact jB_cg hT (by omega) (fun p g1 g2 => by rw [up_ne (by omega)])
theorem jB_go {D : Nat → Int32} {n mm k : Nat} (h : gD D n mm) (hb : jB D n) : jB (goS D k) n := by
  induction k with
  | zero => exact hb
  | succ k ih => exact jB_go1 (gD_go h) ih
theorem jB_mk {X : Nat → Int32} {n mm : Nat} (hs : slR X n) (hp : plR X mm) : jB (mkS X) n := by
  have h20 := hs.1.2
  have hnn := okN_n hs.1
  have h0 : jB (bgS X) n := fun i hi => by
    rw [bg_j (by omega) (by omega), li (by omega)]
    omega
  unfold mkS
  exact jB_cg (jB_go (k := ix (tkS X)) (gD_bg hs hp) h0) (by omega) (fun p g1 g2 => once_p (by omega) (by omega) (by omega) (by omega))
theorem lossA_R {j w : Int32} (hj : 0 ≤ j.toInt) (hj2 : j.toInt ≤ 100) (hw : 0 ≤ w.toInt) (hw2 : w.toInt ≤ 3000) : 0 ≤ (lossA j w).toInt ∧ (lossA j w).toInt ≤ 100 := by
  have e1 : (w - iN 400).toInt = w.toInt - 400 := t_sub (by rw [li (by omega)]; omega) (by rw [li (by omega)]; omega)
  unfold lossA
  split
  · rw [li (by omega)]
    omega
  · next c =>
    have c2 : ¬ w.toInt ≤ 400 := fun e => c (t_le.mpr (by rw [e1, li (by omega)]; omega))
    have e2 := t_div100 (a := w - iN 400)
    rw [e1, if_pos (by omega)] at e2
    generalize (w - iN 400) / iN 100 = d at *
    have hd : 0 ≤ d.toInt ∧ d.toInt ≤ 26 := by omega
    have hm0 : 0 ≤ j.toInt * d.toInt := Int.mul_nonneg hj hd.1
    have hm1 : j.toInt * d.toInt ≤ 100 * 26 := Int.mul_le_mul hj2 hd.2 hd.1 (by omega)
    have e3 : (j * d).toInt = j.toInt * d.toInt := t_mul (by omega) (by omega)
    have e4 := t_div20 (a := j * d)
    rw [e3, if_pos hm0] at e4
    split
    · omega
    · next c3 =>
      have : ¬ j.toInt < ((j * d) / iN 20).toInt := fun e => c3 (t_lt.mpr e)
      omega
theorem loss_R {D : Nat → Int32} {n : Nat} (h : wfD D n) (hb : jB D n) : ∃ k, k ≤ 2000 ∧ lossS D = iN k := by
  obtain ⟨hn, hm, hw, hj⟩ := h
  have h2 := hn.2
  have hnn := okN_n hn
  have key : ∀ c, c ≤ n → ∃ k, k ≤ 100 * c ∧ sumS (fun i => lossA (D (92 + i)) (D (52 + i))) c = iN k := by
    intro c
    induction c with
    | zero => exact fun _ => ⟨0, by omega, rfl⟩
    | succ c ih =>
      intro hc
      obtain ⟨k, h3, h4⟩ := ih (by omega)
      have r := lossA_R (hj c (by rw [hnn]; omega)) (hb c (by omega)) (hw c (by rw [hnn]; omega)).1 (hw c (by rw [hnn]; omega)).2
      have e := iN_ex r.1
      have hi := ix_t r.1
      refine ⟨k + ix (lossA (D (92 + c)) (D (52 + c))), by omega, ?_⟩
      show sumS _ c + lossA (D (92 + c)) (D (52 + c)) = _
      rw [h4]
      conv => lhs; rw [e]
      exact iN_add _ _
  obtain ⟨k, h3, h4⟩ := key n (by omega)
  refine ⟨k, by omega, ?_⟩
  unfold lossS
  rw [hnn]
  exact h4
/-! order: figures, sets, permutations -/
theorem t_fig : ∀ m, m < 5 → ∀ i, i < m → ∀ c, c < 256 → f_X1_figureOf (iN c) (iN i) (iN m) = some (iN (c / 4 ^ (m - 1 - i) % 4)) := by decide +kernel
theorem t_isIn : ∀ x, x < 4 → ∀ s, s < 16 → f_X7_isIn (iN x) (iN s) = some (iN (s / 2 ^ x % 2)) := by decide +kernel
def rmS (s x : Nat) : Nat := if s / 2 ^ x % 2 = 1 then s - 2 ^ x else s
theorem t_rm : ∀ x, x < 4 → ∀ s, s < 16 → iN s &&& ((1 <<< (iN x &&& 31)) ^^^ (-1)) = iN (rmS s x) := by decide +kernel
theorem rm_lt : ∀ x, x < 4 → ∀ s, s < 16 → rmS s x < 16 := by decide +kernel
def pcS (s : Nat) : Nat := s % 2 + s / 2 % 2 + s / 4 % 2 + s / 8 % 2
theorem t_bc : ∀ s, s < 16 → f_J6_bitCount_0f7a4 (iN s) = some (iN (pcS s)) := by decide +kernel
theorem t_pow : ∀ m, m < 5 → (1 : Int32) <<< ((2 * iN m) &&& 31) = iN (4 ^ m) := by decide +kernel
theorem t_sb : ∀ r, r < 16 → ∀ s, s < 16 → (iN s &&& (iN r ^^^ (-1)) = 0 ↔ ∀ x, x < 4 → s / 2 ^ x % 2 = 1 → r / 2 ^ x % 2 = 1) := by decide +kernel
theorem t_shr : ∀ x, x < 4 → ∀ s, s < 16 → (iN s >>> (iN x &&& 31)) &&& 1 = iN (s / 2 ^ x % 2) := by decide +kernel
/-! order: the class's search -/
def okC (c : Nat) : Nat → Nat → Bool
  | 0, _ => true
  | d + 1, s => if s / 2 ^ (c / 4 ^ d % 4) % 2 = 1 then okC c d (rmS s (c / 4 ^ d % 4)) else false
def suC (f : Nat → Int32) (c : Nat) : Nat → Nat → Int32 → Int32
  | 0, _, acc => acc
  | d + 1, s, acc => suC f c d (rmS s (c / 4 ^ d % 4)) (acc + f (16 * (c / 4 ^ d % 4) + rmS s (c / 4 ^ d % 4)))
theorem closs_f {k s : Nat} {G : G_} (hk : k < 4) (hs : s < 16) : f_X1_lossOf (iN k) (iN s) G = some (G.1 46 (16 * k + s)) := by
  have e1 : inS (iN 0) (iN 3) (iN k) = iN 1 := inS_t (by omega) (by omega)
  have e2 : inS (iN 0) (iN 15) (iN s) = iN 1 := inS_t (by omega) (by omega)
  unfold f_X1_lossOf
  simp (disch := omega) only [chk_t, beq_self_eq_true, nm_s, bj1_s, bj2_s, bj3_s, mo_1, mo_0, l_0, l_1, l_2, l_3, l_4, l_5, l_6, l_7, l_8, l_9, l_10, l_11, l_12, l_13, l_14, l_15, l_16, l_17, l_18, l_19, l_20, l_21, l_24, l_30, l_31, l_32, l_36, l_40, l_41, l_42, l_43, l_44, l_45, l_46, l_47, l_48, l_49, l_50, l_51, l_52, l_57, l_58, l_60, l_61, l_64, l_72, l_80, l_92, l_98, l_99, l_100, l_102, l_105, l_111, l_112, l_114, l_115, l_116, l_117, l_120, l_144, l_200, l_201, l_240, l_300, l_320, l_400, l_500, l_512, l_550, l_560, l_649, l_650, l_1000, l_1032, l_1400, l_2000, l_4000, l_10000, l_268435455, iN_add, iN_sub, iN_mul, iN_le_t, iN_le_f, iN_lt_t, iN_lt_f, iN_eq_f, inb_iN, ix_iN, isZ_0, isZ_1, ↓reduceIte, eq_self, in7, e1, e2]
theorem clo_ok {m c : Nat} {G : G_} (hm : m < 5) (hc : c < 256) : ∀ (d n s i : Nat) (acc : Int32), d < n → i + d = m → s < 16 → f_X1_lossOfOrder_l9_4 (iN c) (iN m) G n (iN s) acc (iN i) = some (if okC c d s = true then suC (G.1 46) c d s acc else -iN 1) := by
  intro d
  induction d with
  | zero =>
    intro n s i acc h1 h2 h3
    obtain ⟨n, rfl⟩ : ∃ k, n = k + 1 := ⟨n - 1, by omega⟩
    unfold f_X1_lossOfOrder_l9_4
    simp (disch := omega) only [chk_t, beq_self_eq_true, nm_s, bj1_s, bj2_s, bj3_s, mo_1, mo_0, l_0, l_1, l_2, l_3, l_4, l_5, l_6, l_7, l_8, l_9, l_10, l_11, l_12, l_13, l_14, l_15, l_16, l_17, l_18, l_19, l_20, l_21, l_24, l_30, l_31, l_32, l_36, l_40, l_41, l_42, l_43, l_44, l_45, l_46, l_47, l_48, l_49, l_50, l_51, l_52, l_57, l_58, l_60, l_61, l_64, l_72, l_80, l_92, l_98, l_99, l_100, l_102, l_105, l_111, l_112, l_114, l_115, l_116, l_117, l_120, l_144, l_200, l_201, l_240, l_300, l_320, l_400, l_500, l_512, l_550, l_560, l_649, l_650, l_1000, l_1032, l_1400, l_2000, l_4000, l_10000, l_268435455, iN_add, iN_sub, iN_mul, iN_le_t, iN_le_f, iN_lt_t, iN_lt_f, iN_eq_f, inb_iN, ix_iN, isZ_0, isZ_1, ↓reduceIte, eq_self]
    rfl
  | succ d ih =>
    intro n s i acc h1 h2 h3
    obtain ⟨n, rfl⟩ : ∃ k, n = k + 1 := ⟨n - 1, by omega⟩
    have hx : c / 4 ^ d % 4 < 4 := Nat.mod_lt _ (by omega)
    have fg := t_fig m hm i (by omega) c hc
    rw [show m - 1 - i = d by omega] at fg
    have rl := rm_lt _ hx s h3
    have h := ih n (rmS s (c / 4 ^ d % 4)) (i + 1) (acc + G.1 46 (16 * (c / 4 ^ d % 4) + rmS s (c / 4 ^ d % 4))) (by omega) (by omega) rl
    have is := t_isIn _ hx s h3
    have rm := t_rm _ hx s h3
    have lo := closs_f (G := G) hx rl
    have eo : okC c (d + 1) s = if s / 2 ^ (c / 4 ^ d % 4) % 2 = 1 then okC c d (rmS s (c / 4 ^ d % 4)) else false := rfl
    have es : suC (G.1 46) c (d + 1) s acc = suC (G.1 46) c d (rmS s (c / 4 ^ d % 4)) (acc + G.1 46 (16 * (c / 4 ^ d % 4) + rmS s (c / 4 ^ d % 4))) := rfl
    rw [eo, es]
    have hb : s / 2 ^ (c / 4 ^ d % 4) % 2 < 2 := Nat.mod_lt _ (by omega)
    generalize c / 4 ^ d % 4 = x at *
    generalize s / 2 ^ x % 2 = b at *
    conv => lhs; unfold f_X1_lossOfOrder_l9_4
    by_cases cb : b = 1
    · subst cb
      rw [if_neg (of_eq_false (iN_le_f (by omega) (by omega))), fg, bj1_s, is, bj1_s, if_neg (by decide), rm, nm_s, lo, bj1_s, if_pos rfl, show iN i + 1 = iN (i + 1) from iN_add i 1]
      exact h
    · have b0 : b = 0 := by omega
      subst b0
      rw [if_neg (of_eq_false (iN_le_f (by omega) (by omega))), fg, bj1_s, is, bj1_s, if_pos (show iN 0 = 0 from rfl), if_neg (show ¬ (0 : Nat) = 1 by omega), if_neg (by decide)]
      rfl
/-! order: figures, the first least -/
theorem clossO {m c a : Nat} {G : G_} (hm : m < 5) (hc : c < 256) (ha : a < 16) : f_X1_lossOfOrder (iN a) (iN c) (iN m) G = some (if okC c m a = true then suC (G.1 46) c m a (iN 0) else -iN 1) := by
  have h := clo_ok (G := G) hm hc m FU a 0 (iN 0) (fu_lt (by omega)) (by omega) ha
  unfold f_X1_lossOfOrder
  simp (disch := omega) only [chk_t, beq_self_eq_true, nm_s, bj1_s, bj2_s, bj3_s, mo_1, mo_0, l_0, l_1, l_2, l_3, l_4, l_5, l_6, l_7, l_8, l_9, l_10, l_11, l_12, l_13, l_14, l_15, l_16, l_17, l_18, l_19, l_20, l_21, l_24, l_30, l_31, l_32, l_36, l_40, l_41, l_42, l_43, l_44, l_45, l_46, l_47, l_48, l_49, l_50, l_51, l_52, l_57, l_58, l_60, l_61, l_64, l_72, l_80, l_92, l_98, l_99, l_100, l_102, l_105, l_111, l_112, l_114, l_115, l_116, l_117, l_120, l_144, l_200, l_201, l_240, l_300, l_320, l_400, l_500, l_512, l_550, l_560, l_649, l_650, l_1000, l_1032, l_1400, l_2000, l_4000, l_10000, l_268435455, iN_add, iN_sub, iN_mul, iN_le_t, iN_le_f, iN_lt_t, iN_lt_f, iN_eq_f, inb_iN, ix_iN, isZ_0, isZ_1, ↓reduceIte, eq_self, h]
def figS (c m i : Nat) : Int32 := iN (c / 4 ^ (m - 1 - i) % 4)
theorem cfig1 {a m c : Nat} {x : Int32} {G : G_} (hm : m < 5) (hc : c < 256) : ∃ H, f_X1_findBest_l60_13 x (iN m) (iN c) FU (iN 0) G = some H ∧ (∀ i, i < m → H.1 47 i = figS c m i) ∧ (∀ q, q ≠ 47 → H.1 q = G.1 q) ∧ H.2 = G.2 := by
  refine loop_h (fun f v s => f_X1_findBest_l60_13 x (iN m) (iN c) f v s) (fun j H => (∀ i, i < j → H.1 47 i = figS c m i) ∧ (∀ q, q ≠ 47 → H.1 q = G.1 q) ∧ H.2 = G.2) _ 0 m ?_ ?_ (by omega) (n := FU) (fu_lt (by omega)) ⟨fun i hi => by omega, fun _ _ => rfl, rfl⟩
  · intro f j A h3 h4 ⟨i0, i1, i2⟩
    have fg := t_fig m hm j h4 c hc
    refine ⟨sI A 47 j (figS c m j), ⟨fun i hi => ?_, fun q hq => by rw [sI_p hq]; exact i1 q hq, i2⟩, ?_⟩
    · by_cases c' : i = j
      · subst c'
        exact sI_eq
      · rw [sI_j c']
        exact i0 i (by omega)
    · show f_X1_findBest_l60_13 x (iN m) (iN c) (f + 1) (iN j) A = _
      conv => lhs; unfold f_X1_findBest_l60_13
      unfold figS
      simp (disch := omega) only [chk_t, beq_self_eq_true, nm_s, bj1_s, bj2_s, bj3_s, mo_1, mo_0, l_0, l_1, l_2, l_3, l_4, l_5, l_6, l_7, l_8, l_9, l_10, l_11, l_12, l_13, l_14, l_15, l_16, l_17, l_18, l_19, l_20, l_21, l_24, l_30, l_31, l_32, l_36, l_40, l_41, l_42, l_43, l_44, l_45, l_46, l_47, l_48, l_49, l_50, l_51, l_52, l_57, l_58, l_60, l_61, l_64, l_72, l_80, l_92, l_98, l_99, l_100, l_102, l_105, l_111, l_112, l_114, l_115, l_116, l_117, l_120, l_144, l_200, l_201, l_240, l_300, l_320, l_400, l_500, l_512, l_550, l_560, l_649, l_650, l_1000, l_1032, l_1400, l_2000, l_4000, l_10000, l_268435455, iN_add, iN_sub, iN_mul, iN_le_t, iN_le_f, iN_lt_t, iN_lt_f, iN_eq_f, inb_iN, ix_iN, isZ_0, isZ_1, ↓reduceIte, eq_self, fg]
  · intro f A hI
    refine ⟨A, ?_, hI⟩
    show f_X1_findBest_l60_13 x (iN m) (iN c) (f + 1) (iN m) A = _
    unfold f_X1_findBest_l60_13
    simp (disch := omega) only [chk_t, beq_self_eq_true, nm_s, bj1_s, bj2_s, bj3_s, mo_1, mo_0, l_0, l_1, l_2, l_3, l_4, l_5, l_6, l_7, l_8, l_9, l_10, l_11, l_12, l_13, l_14, l_15, l_16, l_17, l_18, l_19, l_20, l_21, l_24, l_30, l_31, l_32, l_36, l_40, l_41, l_42, l_43, l_44, l_45, l_46, l_47, l_48, l_49, l_50, l_51, l_52, l_57, l_58, l_60, l_61, l_64, l_72, l_80, l_92, l_98, l_99, l_100, l_102, l_105, l_111, l_112, l_114, l_115, l_116, l_117, l_120, l_144, l_200, l_201, l_240, l_300, l_320, l_400, l_500, l_512, l_550, l_560, l_649, l_650, l_1000, l_1032, l_1400, l_2000, l_4000, l_10000, l_268435455, iN_add, iN_sub, iN_mul, iN_le_t, iN_le_f, iN_lt_t, iN_lt_f, iN_eq_f, inb_iN, ix_iN, isZ_0, isZ_1, ↓reduceIte, eq_self]
theorem cfig2 {m c : Nat} {x : Int32} {G : G_} (hm : m < 5) (hc : c < 256) : ∃ H, f_X1_findBest_l60_22 x (iN m) (iN c) FU (iN 0) G = some H ∧ (∀ i, i < m → H.1 47 i = figS c m i) ∧ (∀ q, q ≠ 47 → H.1 q = G.1 q) ∧ H.2 = G.2 := by
  refine loop_h (fun f v s => f_X1_findBest_l60_22 x (iN m) (iN c) f v s) (fun j H => (∀ i, i < j → H.1 47 i = figS c m i) ∧ (∀ q, q ≠ 47 → H.1 q = G.1 q) ∧ H.2 = G.2) _ 0 m ?_ ?_ (by omega) (n := FU) (fu_lt (by omega)) ⟨fun i hi => by omega, fun _ _ => rfl, rfl⟩
  · intro f j A h3 h4 ⟨i0, i1, i2⟩
    have fg := t_fig m hm j h4 c hc
    refine ⟨sI A 47 j (figS c m j), ⟨fun i hi => ?_, fun q hq => by rw [sI_p hq]; exact i1 q hq, i2⟩, ?_⟩
    · by_cases c' : i = j
      · subst c'
        exact sI_eq
      · rw [sI_j c']
        exact i0 i (by omega)
    · show f_X1_findBest_l60_22 x (iN m) (iN c) (f + 1) (iN j) A = _
      conv => lhs; unfold f_X1_findBest_l60_22
      unfold figS
      simp (disch := omega) only [chk_t, beq_self_eq_true, nm_s, bj1_s, bj2_s, bj3_s, mo_1, mo_0, l_0, l_1, l_2, l_3, l_4, l_5, l_6, l_7, l_8, l_9, l_10, l_11, l_12, l_13, l_14, l_15, l_16, l_17, l_18, l_19, l_20, l_21, l_24, l_30, l_31, l_32, l_36, l_40, l_41, l_42, l_43, l_44, l_45, l_46, l_47, l_48, l_49, l_50, l_51, l_52, l_57, l_58, l_60, l_61, l_64, l_72, l_80, l_92, l_98, l_99, l_100, l_102, l_105, l_111, l_112, l_114, l_115, l_116, l_117, l_120, l_144, l_200, l_201, l_240, l_300, l_320, l_400, l_500, l_512, l_550, l_560, l_649, l_650, l_1000, l_1032, l_1400, l_2000, l_4000, l_10000, l_268435455, iN_add, iN_sub, iN_mul, iN_le_t, iN_le_f, iN_lt_t, iN_lt_f, iN_eq_f, inb_iN, ix_iN, isZ_0, isZ_1, ↓reduceIte, eq_self, fg]
  · intro f A hI
    refine ⟨A, ?_, hI⟩
    show f_X1_findBest_l60_22 x (iN m) (iN c) (f + 1) (iN m) A = _
    unfold f_X1_findBest_l60_22
    simp (disch := omega) only [chk_t, beq_self_eq_true, nm_s, bj1_s, bj2_s, bj3_s, mo_1, mo_0, l_0, l_1, l_2, l_3, l_4, l_5, l_6, l_7, l_8, l_9, l_10, l_11, l_12, l_13, l_14, l_15, l_16, l_17, l_18, l_19, l_20, l_21, l_24, l_30, l_31, l_32, l_36, l_40, l_41, l_42, l_43, l_44, l_45, l_46, l_47, l_48, l_49, l_50, l_51, l_52, l_57, l_58, l_60, l_61, l_64, l_72, l_80, l_92, l_98, l_99, l_100, l_102, l_105, l_111, l_112, l_114, l_115, l_116, l_117, l_120, l_144, l_200, l_201, l_240, l_300, l_320, l_400, l_500, l_512, l_550, l_560, l_649, l_650, l_1000, l_1032, l_1400, l_2000, l_4000, l_10000, l_268435455, iN_add, iN_sub, iN_mul, iN_le_t, iN_le_f, iN_lt_t, iN_lt_f, iN_eq_f, inb_iN, ix_iN, isZ_0, isZ_1, ↓reduceIte, eq_self]
/-! order: the first least -/
/-- the first least of those that count, below c -/
def fstB (ok : Nat → Prop) (su : Nat → Nat) (c : Nat) (r : Option Nat) : Prop :=
  (r = none ∧ ∀ i, i < c → ¬ ok i) ∨ ∃ b, r = some b ∧ b < c ∧ ok b ∧ (∀ i, i < c → ok i → su b ≤ su i) ∧ ∀ i, i < b → ok i → su b < su i
theorem cfind_ok {a : Nat} {G : G_} {su : Nat → Nat} (ha : a < 16) (h1 : pcS a < 5) (hsu : ∀ c, c < 256 → okC c (pcS a) a = true → suC (G.1 46) c (pcS a) a (iN 0) = iN (su c) ∧ su c ≤ 10000) : ∃ H r, f_X1_findBest (iN a) G = some H ∧ fstB (fun c => okC c (pcS a) a = true) su (4 ^ pcS a) r ∧ (∀ q, q ≠ 45 → q ≠ 47 → H.1 q = G.1 q) ∧ H.2 = G.2 ∧ (r = none → H.1 45 2 = -iN 1) ∧ ∀ b, r = some b → H.1 45 2 = iN (su b) ∧ ∀ i, i < pcS a → H.1 47 i = figS b (pcS a) i := by
  have hbc := t_bc a ha
  generalize hm : pcS a = m at *
  have h4 : 4 ^ m ≤ 256 := by
    have : m = 0 ∨ m = 1 ∨ m = 2 ∨ m = 3 ∨ m = 4 := by omega
    rcases this with rfl | rfl | rfl | rfl | rfl <;> decide
  have hp := t_pow m h1
  have key : ∃ H, f_X1_findBest_l12_6 (iN a) (iN m) FU (iN 0) (sI G 45 2 (-iN 1)) = some H ∧ ∃ r, fstB (fun c => okC c m a = true) su (4 ^ m) r ∧ (∀ q, q ≠ 45 → q ≠ 47 → H.1 q = G.1 q) ∧ H.2 = G.2 ∧ (r = none → H.1 45 2 = -iN 1) ∧ ∀ b, r = some b → H.1 45 2 = iN (su b) ∧ ∀ i, i < m → H.1 47 i = figS b m i := by
    refine loop_h (fun f v s => f_X1_findBest_l12_6 (iN a) (iN m) f v s) (fun c H => ∃ r, fstB (fun c => okC c m a = true) su c r ∧ (∀ q, q ≠ 45 → q ≠ 47 → H.1 q = G.1 q) ∧ H.2 = G.2 ∧ (r = none → H.1 45 2 = -iN 1) ∧ ∀ b, r = some b → H.1 45 2 = iN (su b) ∧ ∀ i, i < m → H.1 47 i = figS b m i) _ 0 (4 ^ m) ?_ ?_ (Nat.zero_le _) (n := FU) (by have : 300 < FU := fu_lt (by omega); omega) ⟨none, Or.inl ⟨rfl, fun i hi => by omega⟩, fun q h1 _ => by rw [sI_p h1], rfl, fun _ => sI_eq, fun b hb => by cases hb⟩
    · intro f c A h3 h5 ⟨r, i0, i1, i2, i3, i4⟩
      have lo := clossO (G := A) (m := m) (c := c) (a := a) h1 (by omega) ha
      rw [i1 46 (by omega) (by omega)] at lo
      have np : (iN (4 ^ m) ≤ iN c) = False := iN_le_f (by omega) (by omega)
      have cl : iN c + 1 = iN (c + 1) := iN_add c 1
      by_cases ok : okC c m a = true
      · obtain ⟨e, eb⟩ := hsu c (by omega) ok
        rw [if_pos ok, e] at lo
        have n0 : (iN (su c) < iN 0) = False := iN_lt_f (by omega) (by omega)
        rcases i0 with ⟨j1, j2⟩ | ⟨b, j1, j2, j3, j4, j5⟩
        · have v1 := i3 j1
          obtain ⟨B, f1, f2, f3, f4⟩ := cfig1 (a := a) (m := m) (c := c) (x := iN a) (G := sI A 45 2 (iN (su c))) h1 (by omega)
          refine ⟨B, ⟨some c, Or.inr ⟨c, rfl, by omega, ok, fun i hi ho => ?_, fun i hi ho => absurd ho (j2 i hi)⟩, fun q q1 q2 => by rw [f3 q q2, sI_p q1]; exact i1 q q1 q2, f4.trans i2, fun h => (by cases h), fun b hb => ?_⟩, ?_⟩
          · by_cases d : i = c
            · rw [d]
              exact Nat.le_refl _
            · exact absurd ho (j2 i (by omega))
          · injection hb with hb
            subst hb
            exact ⟨by rw [f3 45 (by omega)]; exact sI_eq, f2⟩
          · show f_X1_findBest_l12_6 (iN a) (iN m) (f + 1) (iN c) A = _
            conv => lhs; unfold f_X1_findBest_l12_6
            rw [show (1 : Int32) <<< ((2 * iN m) &&& 31) = iN (4 ^ m) from hp]
            simp (disch := omega) only [chk_t, beq_self_eq_true, nm_s, bj1_s, bj2_s, bj3_s, mo_1, mo_0, l_0, l_1, l_2, l_3, l_4, l_5, l_6, l_7, l_8, l_9, l_10, l_11, l_12, l_13, l_14, l_15, l_16, l_17, l_18, l_19, l_20, l_21, l_24, l_30, l_31, l_32, l_36, l_40, l_41, l_42, l_43, l_44, l_45, l_46, l_47, l_48, l_49, l_50, l_51, l_52, l_57, l_58, l_60, l_61, l_64, l_72, l_80, l_92, l_98, l_99, l_100, l_102, l_105, l_111, l_112, l_114, l_115, l_116, l_117, l_120, l_144, l_200, l_201, l_240, l_300, l_320, l_400, l_500, l_512, l_550, l_560, l_649, l_650, l_1000, l_1032, l_1400, l_2000, l_4000, l_10000, l_268435455, iN_add, iN_sub, iN_mul, iN_le_t, iN_le_f, iN_lt_t, iN_lt_f, iN_eq_f, inb_iN, ix_iN, isZ_0, isZ_1, ↓reduceIte, eq_self, np, lo, n0, v1, lt_m1, f1]
        · obtain ⟨v1, v2⟩ := i4 b j1
          have eb2 := (hsu b (by omega) j3).2
          have nb : (iN (su b) < iN 0) = False := iN_lt_f (by omega) (by omega)
          by_cases le : su b ≤ su c
          · refine ⟨A, ⟨some b, Or.inr ⟨b, rfl, by omega, j3, fun i hi ho => ?_, j5⟩, i1, i2, fun h => (by cases h), fun b' hb => ?_⟩, ?_⟩
            · by_cases d : i = c
              · rw [d]
                exact le
              · exact j4 i (by omega) ho
            · injection hb with hb
              subst hb
              exact ⟨v1, v2⟩
            · show f_X1_findBest_l12_6 (iN a) (iN m) (f + 1) (iN c) A = _
              conv => lhs; unfold f_X1_findBest_l12_6
              rw [show (1 : Int32) <<< ((2 * iN m) &&& 31) = iN (4 ^ m) from hp]
              simp (disch := omega) only [chk_t, beq_self_eq_true, nm_s, bj1_s, bj2_s, bj3_s, mo_1, mo_0, l_0, l_1, l_2, l_3, l_4, l_5, l_6, l_7, l_8, l_9, l_10, l_11, l_12, l_13, l_14, l_15, l_16, l_17, l_18, l_19, l_20, l_21, l_24, l_30, l_31, l_32, l_36, l_40, l_41, l_42, l_43, l_44, l_45, l_46, l_47, l_48, l_49, l_50, l_51, l_52, l_57, l_58, l_60, l_61, l_64, l_72, l_80, l_92, l_98, l_99, l_100, l_102, l_105, l_111, l_112, l_114, l_115, l_116, l_117, l_120, l_144, l_200, l_201, l_240, l_300, l_320, l_400, l_500, l_512, l_550, l_560, l_649, l_650, l_1000, l_1032, l_1400, l_2000, l_4000, l_10000, l_268435455, iN_add, iN_sub, iN_mul, iN_le_t, iN_le_f, iN_lt_t, iN_lt_f, iN_eq_f, inb_iN, ix_iN, isZ_0, isZ_1, ↓reduceIte, eq_self, np, lo, n0, v1, nb]
          · obtain ⟨B, f1, f2, f3, f4⟩ := cfig2 (m := m) (c := c) (x := iN a) (G := sI A 45 2 (iN (su c))) h1 (by omega)
            refine ⟨B, ⟨some c, Or.inr ⟨c, rfl, by omega, ok, fun i hi ho => ?_, fun i hi ho => ?_⟩, fun q q1 q2 => by rw [f3 q q2, sI_p q1]; exact i1 q q1 q2, f4.trans i2, fun h => (by cases h), fun b hb => ?_⟩, ?_⟩
            · by_cases d : i = c
              · rw [d]
                exact Nat.le_refl _
              · have := j4 i (by omega) ho
                omega
            · have := j4 i hi ho
              omega
            · injection hb with hb
              subst hb
              exact ⟨by rw [f3 45 (by omega)]; exact sI_eq, f2⟩
            · show f_X1_findBest_l12_6 (iN a) (iN m) (f + 1) (iN c) A = _
              conv => lhs; unfold f_X1_findBest_l12_6
              rw [show (1 : Int32) <<< ((2 * iN m) &&& 31) = iN (4 ^ m) from hp]
              simp (disch := omega) only [chk_t, beq_self_eq_true, nm_s, bj1_s, bj2_s, bj3_s, mo_1, mo_0, l_0, l_1, l_2, l_3, l_4, l_5, l_6, l_7, l_8, l_9, l_10, l_11, l_12, l_13, l_14, l_15, l_16, l_17, l_18, l_19, l_20, l_21, l_24, l_30, l_31, l_32, l_36, l_40, l_41, l_42, l_43, l_44, l_45, l_46, l_47, l_48, l_49, l_50, l_51, l_52, l_57, l_58, l_60, l_61, l_64, l_72, l_80, l_92, l_98, l_99, l_100, l_102, l_105, l_111, l_112, l_114, l_115, l_116, l_117, l_120, l_144, l_200, l_201, l_240, l_300, l_320, l_400, l_500, l_512, l_550, l_560, l_649, l_650, l_1000, l_1032, l_1400, l_2000, l_4000, l_10000, l_268435455, iN_add, iN_sub, iN_mul, iN_le_t, iN_le_f, iN_lt_t, iN_lt_f, iN_eq_f, inb_iN, ix_iN, isZ_0, isZ_1, ↓reduceIte, eq_self, np, lo, n0, v1, nb, f1]
      · rw [if_neg ok] at lo
        refine ⟨A, ⟨r, ?_, i1, i2, i3, i4⟩, ?_⟩
        · rcases i0 with ⟨j1, j2⟩ | ⟨b, j1, j2, j3, j4, j5⟩
          · refine Or.inl ⟨j1, fun i hi ho => ?_⟩
            by_cases d : i = c
            · rw [d] at ho
              exact ok ho
            · exact j2 i (by omega) ho
          · refine Or.inr ⟨b, j1, by omega, j3, fun i hi ho => ?_, j5⟩
            by_cases d : i = c
            · rw [d] at ho
              exact absurd ho ok
            · exact j4 i (by omega) ho
        · show f_X1_findBest_l12_6 (iN a) (iN m) (f + 1) (iN c) A = _
          conv => lhs; unfold f_X1_findBest_l12_6
          rw [show (1 : Int32) <<< ((2 * iN m) &&& 31) = iN (4 ^ m) from hp]
          simp (disch := omega) only [chk_t, beq_self_eq_true, nm_s, bj1_s, bj2_s, bj3_s, mo_1, mo_0, l_0, l_1, l_2, l_3, l_4, l_5, l_6, l_7, l_8, l_9, l_10, l_11, l_12, l_13, l_14, l_15, l_16, l_17, l_18, l_19, l_20, l_21, l_24, l_30, l_31, l_32, l_36, l_40, l_41, l_42, l_43, l_44, l_45, l_46, l_47, l_48, l_49, l_50, l_51, l_52, l_57, l_58, l_60, l_61, l_64, l_72, l_80, l_92, l_98, l_99, l_100, l_102, l_105, l_111, l_112, l_114, l_115, l_116, l_117, l_120, l_144, l_200, l_201, l_240, l_300, l_320, l_400, l_500, l_512, l_550, l_560, l_649, l_650, l_1000, l_1032, l_1400, l_2000, l_4000, l_10000, l_268435455, iN_add, iN_sub, iN_mul, iN_le_t, iN_le_f, iN_lt_t, iN_lt_f, iN_eq_f, inb_iN, ix_iN, isZ_0, isZ_1, ↓reduceIte, eq_self, np, lo, lt_m1]
    · intro f A hI
      refine ⟨A, ?_, hI⟩
      show f_X1_findBest_l12_6 (iN a) (iN m) (f + 1) (iN (4 ^ m)) A = _
      unfold f_X1_findBest_l12_6
      rw [show (1 : Int32) <<< ((2 * iN m) &&& 31) = iN (4 ^ m) from hp, if_pos (of_eq_true (iN_le_t (by omega) (by omega)))]
  obtain ⟨H, k1, r, k2⟩ := key
  refine ⟨H, r, ?_, k2⟩
  unfold f_X1_findBest
  simp (disch := omega) only [chk_t, beq_self_eq_true, nm_s, bj1_s, bj2_s, bj3_s, mo_1, mo_0, l_0, l_1, l_2, l_3, l_4, l_5, l_6, l_7, l_8, l_9, l_10, l_11, l_12, l_13, l_14, l_15, l_16, l_17, l_18, l_19, l_20, l_21, l_24, l_30, l_31, l_32, l_36, l_40, l_41, l_42, l_43, l_44, l_45, l_46, l_47, l_48, l_49, l_50, l_51, l_52, l_57, l_58, l_60, l_61, l_64, l_72, l_80, l_92, l_98, l_99, l_100, l_102, l_105, l_111, l_112, l_114, l_115, l_116, l_117, l_120, l_144, l_200, l_201, l_240, l_300, l_320, l_400, l_500, l_512, l_550, l_560, l_649, l_650, l_1000, l_1032, l_1400, l_2000, l_4000, l_10000, l_268435455, iN_add, iN_sub, iN_mul, iN_le_t, iN_le_f, iN_lt_t, iN_lt_f, iN_eq_f, inb_iN, ix_iN, isZ_0, isZ_1, ↓reduceIte, eq_self, hbc, k1]
/-! order: ticks of a set, what is lost told -/
def bt (b t : Nat) : Nat := if b = 1 then t else 0
theorem if_cg {α : Type} {p q : Prop} [Decidable p] [Decidable q] {x y : α} (h : p ↔ q) : (if p then x else y) = if q then x else y := by
  by_cases c : p
  · rw [if_pos c, if_pos (h.mp c)]
  · rw [if_neg c, if_neg (fun e => c (h.mpr e))]
theorem bt_0 {t : Nat} : bt 0 t = 0 := if_neg (by omega)
theorem bt_1 {t : Nat} : bt 1 t = t := if_pos rfl
theorem bt_le {b b2 t : Nat} (h : b = 1 → b2 = 1) : bt b t ≤ bt b2 t := by
  unfold bt
  by_cases c : b = 1
  · rw [if_pos c, if_pos (h c)]
    exact Nat.le_refl _
  · rw [if_neg c]
    exact Nat.zero_le _
theorem bt_bd {b t : Nat} (h : b < 2) (ht : t ≤ 200) : bt b t ≤ 200 * b := by
  unfold bt
  by_cases c : b = 1
  · rw [if_pos c, c]
    omega
  · rw [if_neg c]
    exact Nat.zero_le _
def tkJ (T : Nat → Nat) (s : Nat) : Nat → Nat
  | 0 => 0
  | j + 1 => tkJ T s j + bt (s / 2 ^ j % 2) (T j)
def tkN (T : Nat → Nat) (s : Nat) : Nat := tkJ T s 4
theorem tkN_eq (T : Nat → Nat) (s : Nat) : tkN T s = bt (s / 2 ^ 0 % 2) (T 0) + bt (s / 2 ^ 1 % 2) (T 1) + bt (s / 2 ^ 2 % 2) (T 2) + bt (s / 2 ^ 3 % 2) (T 3) := by
  show 0 + bt (s / 2 ^ 0 % 2) (T 0) + bt (s / 2 ^ 1 % 2) (T 1) + bt (s / 2 ^ 2 % 2) (T 2) + bt (s / 2 ^ 3 % 2) (T 3) = _
  rw [Nat.zero_add]
def sb (s a : Nat) : Bool := Nat.land s a == s
theorem t_sbb : ∀ a, a < 16 → ∀ s, s < 16 → sb s a = true → ∀ i, i < 4 → s / 2 ^ i % 2 = 1 → a / 2 ^ i % 2 = 1 := by decide +kernel
theorem t_bit1 : ∀ x, x < 4 → ∀ s, s < 16 → rmS s x / 2 ^ x % 2 = 0 := by decide +kernel
theorem t_bit2 : ∀ x, x < 4 → ∀ s, s < 16 → ∀ i, i < 4 → i ≠ x → rmS s x / 2 ^ i % 2 = s / 2 ^ i % 2 := by decide +kernel
theorem t_sbr : ∀ x, x < 4 → ∀ s, s < 16 → ∀ a, a < 16 → sb s a = true → s / 2 ^ x % 2 = 1 → sb (rmS s x) (rmS a x) = true := by decide +kernel
theorem t_sbs : ∀ x, x < 4 → ∀ s, s < 16 → sb (rmS s x) s = true := by decide +kernel
theorem t_sbt : ∀ a, a < 16 → ∀ b, b < 16 → ∀ c, c < 16 → sb a b = true → sb b c = true → sb a c = true := by decide +kernel
theorem t_sbe : ∀ s, s < 16 → sb s s = true := by decide +kernel
theorem t_sbi : ∀ o, o < 16 → ∀ s, s < 16 → sb s o = true → iN s &&& (iN o ^^^ (-iN 1)) = iN 0 := by decide +kernel
theorem t_sbj : ∀ o, o < 16 → ∀ s, s < 16 → sb s o = false → ¬ iN s &&& (iN o ^^^ (-iN 1)) = iN 0 := by decide +kernel
theorem t_rmN : ∀ x, x < 4 → ∀ s, s < 16 → iN s &&& ((iN 1 <<< (iN x &&& iN 31)) ^^^ (-iN 1)) = iN (rmS s x) := by decide +kernel
theorem t_pc : ∀ s, s < 16 → pcS s = s / 2 ^ 0 % 2 + s / 2 ^ 1 % 2 + s / 2 ^ 2 % 2 + s / 2 ^ 3 % 2 := by decide +kernel
theorem t_pcr : ∀ x, x < 4 → ∀ s, s < 16 → s / 2 ^ x % 2 = 1 → pcS s = pcS (rmS s x) + 1 := by decide +kernel
theorem t_pc4 : ∀ s, s < 16 → pcS s ≤ 4 := by decide +kernel
theorem tk_rm {T : Nat → Nat} {s x : Nat} (hx : x < 4) (hs : s < 16) (h : s / 2 ^ x % 2 = 1) : tkN T s = T x + tkN T (rmS s x) := by
  have b1 := t_bit1 x hx s hs
  have b2 := t_bit2 x hx s hs
  rw [tkN_eq, tkN_eq]
  have hc : x = 0 ∨ x = 1 ∨ x = 2 ∨ x = 3 := by omega
  rcases hc with rfl | rfl | rfl | rfl
  · rw [b1, b2 1 (by omega) (by omega), b2 2 (by omega) (by omega), b2 3 (by omega) (by omega), h, bt_0, bt_1]
    omega
  · rw [b1, b2 0 (by omega) (by omega), b2 2 (by omega) (by omega), b2 3 (by omega) (by omega), h, bt_0, bt_1]
    omega
  · rw [b1, b2 0 (by omega) (by omega), b2 1 (by omega) (by omega), b2 3 (by omega) (by omega), h, bt_0, bt_1]
    omega
  · rw [b1, b2 0 (by omega) (by omega), b2 1 (by omega) (by omega), b2 2 (by omega) (by omega), h, bt_0, bt_1]
    omega
theorem tk_le {T : Nat → Nat} {s o : Nat} (hs : s < 16) (ho : o < 16) (h : sb s o = true) : tkN T s ≤ tkN T o := by
  have hb := t_sbb o ho s hs h
  have h0 := bt_le (t := T 0) (hb 0 (by omega))
  have h1 := bt_le (t := T 1) (hb 1 (by omega))
  have h2 := bt_le (t := T 2) (hb 2 (by omega))
  have h3 := bt_le (t := T 3) (hb 3 (by omega))
  rw [tkN_eq, tkN_eq]
  omega
theorem tk_bd {T : Nat → Nat} {s : Nat} (hs : s < 16) (hT : ∀ k, k < 4 → T k ≤ 200) : tkN T s ≤ 200 * pcS s := by
  have h0 := bt_bd (b := s / 2 ^ 0 % 2) (t := T 0) (Nat.mod_lt _ (by omega)) (hT 0 (by omega))
  have h1 := bt_bd (b := s / 2 ^ 1 % 2) (t := T 1) (Nat.mod_lt _ (by omega)) (hT 1 (by omega))
  have h2 := bt_bd (b := s / 2 ^ 2 % 2) (t := T 2) (Nat.mod_lt _ (by omega)) (hT 2 (by omega))
  have h3 := bt_bd (b := s / 2 ^ 3 % 2) (t := T 3) (Nat.mod_lt _ (by omega)) (hT 3 (by omega))
  rw [tkN_eq, t_pc s hs]
  generalize s / 2 ^ 0 % 2 = b0 at *
  generalize s / 2 ^ 1 % 2 = b1 at *
  generalize s / 2 ^ 2 % 2 = b2 at *
  generalize s / 2 ^ 3 % 2 = b3 at *
  omega
theorem planAt_ok {k : Nat} {G : G_} (hk : k < 4) : f_X7_planAt (iN k) G = some (some (75 + 4 * k)) ∧ kd (75 + 4 * k) = 2 := by
  have hk : k = 0 ∨ k = 1 ∨ k = 2 ∨ k = 3 := by omega
  refine ⟨?_, ?_⟩ <;> (rcases hk with rfl | rfl | rfl | rfl <;> rfl)
theorem slabAt_ok {k : Nat} {G : G_} (hk : k < 4) : f_X7_slabAt (iN k) G = some (some (71 + k)) ∧ kd (71 + k) = 5 := by
  have hk : k = 0 ∨ k = 1 ∨ k = 2 ∨ k = 3 := by omega
  refine ⟨?_, ?_⟩ <;> (rcases hk with rfl | rfl | rfl | rfl <;> rfl)
theorem bit_01 (s k : Nat) : s / 2 ^ k % 2 = 0 ∨ s / 2 ^ k % 2 = 1 := by
  have := Nat.mod_lt (s / 2 ^ k) (show 2 > 0 by omega)
  omega
theorem ticksOf_ok {T : Nat → Nat} {s : Nat} {G : G_} (hs : s < 16) (h : ∀ k, k < 4 → s / 2 ^ k % 2 = 1 → G.1 (75 + 4 * k) 5 = iN (T k)) : f_X7_ticksOf (iN s) G = some (iN (tkN T s)) := by
  have key := loop_cl (fun n v (x : Int32) => f_X7_ticksOf_l4_3 (iN s) G n x v) (fun j => iN (tkJ T s j)) 0 4 (some (iN (tkN T s))) ?_ ?_ (by omega) (n := FU) (fu_lt (by omega))
  · have key : f_X7_ticksOf_l4_3 (iN s) G FU (iN 0) (iN 0) = some (iN (tkN T s)) := key
    unfold f_X7_ticksOf
    simp (disch := omega) only [chk_t, beq_self_eq_true, nm_s, bj1_s, bj2_s, bj3_s, mo_1, mo_0, l_0, l_1, l_2, l_3, l_4, l_5, l_6, l_7, l_8, l_9, l_10, l_11, l_12, l_13, l_14, l_15, l_16, l_17, l_18, l_19, l_20, l_21, l_24, l_30, l_31, l_32, l_36, l_40, l_41, l_42, l_43, l_44, l_45, l_46, l_47, l_48, l_49, l_50, l_51, l_52, l_57, l_58, l_60, l_61, l_64, l_72, l_80, l_92, l_98, l_99, l_100, l_102, l_105, l_111, l_112, l_114, l_115, l_116, l_117, l_120, l_144, l_200, l_201, l_240, l_300, l_320, l_400, l_500, l_512, l_550, l_560, l_649, l_650, l_1000, l_1032, l_1400, l_2000, l_4000, l_10000, l_268435455, iN_add, iN_sub, iN_mul, iN_le_t, iN_le_f, iN_lt_t, iN_lt_f, iN_eq_f, inb_iN, ix_iN, isZ_0, isZ_1, ↓reduceIte, eq_self, key]
  · intro f j h3 h4
    have is := t_isIn j h4 s hs
    obtain ⟨pa, pk⟩ := planAt_ok (G := G) h4
    have hj := h j h4
    show f_X7_ticksOf_l4_3 (iN s) G (f + 1) (iN (tkJ T s j)) (iN j) = f_X7_ticksOf_l4_3 (iN s) G f (iN (tkJ T s j + bt (s / 2 ^ j % 2) (T j))) (iN (j + 1))
    conv => lhs; unfold f_X7_ticksOf_l4_3
    rcases bit_01 s j with c | c
    · rw [c] at is
      rw [c, bt_0]
      simp (disch := omega) only [chk_t, beq_self_eq_true, nm_s, bj1_s, bj2_s, bj3_s, mo_1, mo_0, l_0, l_1, l_2, l_3, l_4, l_5, l_6, l_7, l_8, l_9, l_10, l_11, l_12, l_13, l_14, l_15, l_16, l_17, l_18, l_19, l_20, l_21, l_24, l_30, l_31, l_32, l_36, l_40, l_41, l_42, l_43, l_44, l_45, l_46, l_47, l_48, l_49, l_50, l_51, l_52, l_57, l_58, l_60, l_61, l_64, l_72, l_80, l_92, l_98, l_99, l_100, l_102, l_105, l_111, l_112, l_114, l_115, l_116, l_117, l_120, l_144, l_200, l_201, l_240, l_300, l_320, l_400, l_500, l_512, l_550, l_560, l_649, l_650, l_1000, l_1032, l_1400, l_2000, l_4000, l_10000, l_268435455, iN_add, iN_sub, iN_mul, iN_le_t, iN_le_f, iN_lt_t, iN_lt_f, iN_eq_f, inb_iN, ix_iN, isZ_0, isZ_1, ↓reduceIte, eq_self, pa, kd_b pk, is, Nat.add_zero]
    · have e := hj c
      rw [c] at is
      rw [c, bt_1]
      simp (disch := omega) only [chk_t, beq_self_eq_true, nm_s, bj1_s, bj2_s, bj3_s, mo_1, mo_0, l_0, l_1, l_2, l_3, l_4, l_5, l_6, l_7, l_8, l_9, l_10, l_11, l_12, l_13, l_14, l_15, l_16, l_17, l_18, l_19, l_20, l_21, l_24, l_30, l_31, l_32, l_36, l_40, l_41, l_42, l_43, l_44, l_45, l_46, l_47, l_48, l_49, l_50, l_51, l_52, l_57, l_58, l_60, l_61, l_64, l_72, l_80, l_92, l_98, l_99, l_100, l_102, l_105, l_111, l_112, l_114, l_115, l_116, l_117, l_120, l_144, l_200, l_201, l_240, l_300, l_320, l_400, l_500, l_512, l_550, l_560, l_649, l_650, l_1000, l_1032, l_1400, l_2000, l_4000, l_10000, l_268435455, iN_add, iN_sub, iN_mul, iN_le_t, iN_le_f, iN_lt_t, iN_lt_f, iN_eq_f, inb_iN, ix_iN, isZ_0, isZ_1, ↓reduceIte, eq_self, pa, kd_b pk, is, e]
  · intro f
    show f_X7_ticksOf_l4_3 (iN s) G (f + 1) (iN (tkN T s)) (iN 4) = _
    unfold f_X7_ticksOf_l4_3
    simp (disch := omega) only [chk_t, beq_self_eq_true, nm_s, bj1_s, bj2_s, bj3_s, mo_1, mo_0, l_0, l_1, l_2, l_3, l_4, l_5, l_6, l_7, l_8, l_9, l_10, l_11, l_12, l_13, l_14, l_15, l_16, l_17, l_18, l_19, l_20, l_21, l_24, l_30, l_31, l_32, l_36, l_40, l_41, l_42, l_43, l_44, l_45, l_46, l_47, l_48, l_49, l_50, l_51, l_52, l_57, l_58, l_60, l_61, l_64, l_72, l_80, l_92, l_98, l_99, l_100, l_102, l_105, l_111, l_112, l_114, l_115, l_116, l_117, l_120, l_144, l_200, l_201, l_240, l_300, l_320, l_400, l_500, l_512, l_550, l_560, l_649, l_650, l_1000, l_1032, l_1400, l_2000, l_4000, l_10000, l_268435455, iN_add, iN_sub, iN_mul, iN_le_t, iN_le_f, iN_lt_t, iN_lt_f, iN_eq_f, inb_iN, ix_iN, isZ_0, isZ_1, ↓reduceIte, eq_self]
theorem setLoss_ok {k s : Nat} {v : Int32} {G : G_} (hk : k < 4) (hs : s < 16) : f_X1_setLoss (iN k) (iN s) v G = some (sI G 46 (16 * k + s) v) := by
  have e1 : inS (iN 0) (iN 3) (iN k) = iN 1 := inS_t (by omega) (by omega)
  have e2 : inS (iN 0) (iN 15) (iN s) = iN 1 := inS_t (by omega) (by omega)
  unfold f_X1_setLoss
  simp (disch := omega) only [chk_t, beq_self_eq_true, nm_s, bj1_s, bj2_s, bj3_s, mo_1, mo_0, l_0, l_1, l_2, l_3, l_4, l_5, l_6, l_7, l_8, l_9, l_10, l_11, l_12, l_13, l_14, l_15, l_16, l_17, l_18, l_19, l_20, l_21, l_24, l_30, l_31, l_32, l_36, l_40, l_41, l_42, l_43, l_44, l_45, l_46, l_47, l_48, l_49, l_50, l_51, l_52, l_57, l_58, l_60, l_61, l_64, l_72, l_80, l_92, l_98, l_99, l_100, l_102, l_105, l_111, l_112, l_114, l_115, l_116, l_117, l_120, l_144, l_200, l_201, l_240, l_300, l_320, l_400, l_500, l_512, l_550, l_560, l_649, l_650, l_1000, l_1032, l_1400, l_2000, l_4000, l_10000, l_268435455, iN_add, iN_sub, iN_mul, iN_le_t, iN_le_f, iN_lt_t, iN_lt_f, iN_eq_f, inb_iN, ix_iN, isZ_0, isZ_1, ↓reduceIte, eq_self, in7, e1, e2]
theorem tell80 {T : Nat → Nat} {k o n : Nat} {L x12 : Int32} {G : G_} (hk : k < 4) (ho : o < 16) (hn : n < 10000) (hb : tkN T o < 10000) (hT : ∀ i, i < 4 → o / 2 ^ i % 2 = 1 → G.1 (75 + 4 * i) 5 = iN (T i)) :
    ∃ H, f_X7_tellLosses_l80_21 (iN k) (iN o) x12 (iN n) L FU (iN 0) G = some H ∧ (∀ c s, c < 4 → s < 16 → H.1 46 (16 * c + s) = if c = k ∧ s < 16 ∧ sb s o = true ∧ tkN T s = n then L else G.1 46 (16 * c + s)) ∧ (∀ q, q ≠ 46 → H.1 q = G.1 q) ∧ H.2 = G.2 := by
  refine loop_h (fun f v s => f_X7_tellLosses_l80_21 (iN k) (iN o) x12 (iN n) L f v s) (fun j H => (∀ c s, c < 4 → s < 16 → H.1 46 (16 * c + s) = if c = k ∧ s < j ∧ sb s o = true ∧ tkN T s = n then L else G.1 46 (16 * c + s)) ∧ (∀ q, q ≠ 46 → H.1 q = G.1 q) ∧ H.2 = G.2) _ 0 16 ?_ ?_ (by omega) (n := FU) (fu_lt (by omega)) ⟨fun c s hc hs => by rw [if_neg (by omega)], fun _ _ => rfl, rfl⟩
  · intro f j A h3 h4 ⟨i0, i1, i2⟩
    by_cases cs : sb j o = true
    · have tj := ticksOf_ok (T := T) (s := j) (G := A) h4 (fun i hi hb => by rw [i1 _ (by omega)]; exact hT i hi (t_sbb o ho j h4 cs i hi hb))
      have tl := tk_le (T := T) h4 ho cs
      have m0 := t_sbi o ho j h4 cs
      by_cases ct : tkN T j = n
      · refine ⟨sI A 46 (16 * k + j) L, ⟨fun c s hc hs => ?_, fun q hq => by rw [sI_p hq]; exact i1 q hq, i2⟩, ?_⟩
        · by_cases cc : c = k ∧ s = j
          · obtain ⟨rfl, rfl⟩ := cc
            rw [sI_eq, if_pos ⟨rfl, by omega, cs, ct⟩]
          · rw [sI_j (by omega), i0 c s hc hs]
            exact if_cg ⟨fun ⟨a, b, d⟩ => ⟨a, by omega, d⟩, fun ⟨a, b, d⟩ => ⟨a, by omega, d⟩⟩
        · show f_X7_tellLosses_l80_21 (iN k) (iN o) x12 (iN n) L (f + 1) (iN j) A = _
          conv => lhs; unfold f_X7_tellLosses_l80_21
          rw [ct] at tj
          simp (disch := omega) only [chk_t, beq_self_eq_true, nm_s, bj1_s, bj2_s, bj3_s, mo_1, mo_0, l_0, l_1, l_2, l_3, l_4, l_5, l_6, l_7, l_8, l_9, l_10, l_11, l_12, l_13, l_14, l_15, l_16, l_17, l_18, l_19, l_20, l_21, l_24, l_30, l_31, l_32, l_36, l_40, l_41, l_42, l_43, l_44, l_45, l_46, l_47, l_48, l_49, l_50, l_51, l_52, l_57, l_58, l_60, l_61, l_64, l_72, l_80, l_92, l_98, l_99, l_100, l_102, l_105, l_111, l_112, l_114, l_115, l_116, l_117, l_120, l_144, l_200, l_201, l_240, l_300, l_320, l_400, l_500, l_512, l_550, l_560, l_649, l_650, l_1000, l_1032, l_1400, l_2000, l_4000, l_10000, l_268435455, iN_add, iN_sub, iN_mul, iN_le_t, iN_le_f, iN_lt_t, iN_lt_f, iN_eq_f, inb_iN, ix_iN, isZ_0, isZ_1, ↓reduceIte, eq_self, m0, tj, setLoss_ok hk h4]
      · refine ⟨A, ⟨fun c s hc hs => ?_, i1, i2⟩, ?_⟩
        · rw [i0 c s hc hs]
          refine if_cg ⟨fun ⟨a, b, d⟩ => ⟨a, by omega, d⟩, fun ⟨a, b, d, e⟩ => ⟨a, ?_, d, e⟩⟩
          by_cases cj : s = j
          · rw [cj] at e
            exact absurd e ct
          · omega
        · have ne : (iN (tkN T j) = iN n) = False := iN_eq_f ct (by omega) (by omega)
          show f_X7_tellLosses_l80_21 (iN k) (iN o) x12 (iN n) L (f + 1) (iN j) A = _
          conv => lhs; unfold f_X7_tellLosses_l80_21
          simp (disch := omega) only [chk_t, beq_self_eq_true, nm_s, bj1_s, bj2_s, bj3_s, mo_1, mo_0, l_0, l_1, l_2, l_3, l_4, l_5, l_6, l_7, l_8, l_9, l_10, l_11, l_12, l_13, l_14, l_15, l_16, l_17, l_18, l_19, l_20, l_21, l_24, l_30, l_31, l_32, l_36, l_40, l_41, l_42, l_43, l_44, l_45, l_46, l_47, l_48, l_49, l_50, l_51, l_52, l_57, l_58, l_60, l_61, l_64, l_72, l_80, l_92, l_98, l_99, l_100, l_102, l_105, l_111, l_112, l_114, l_115, l_116, l_117, l_120, l_144, l_200, l_201, l_240, l_300, l_320, l_400, l_500, l_512, l_550, l_560, l_649, l_650, l_1000, l_1032, l_1400, l_2000, l_4000, l_10000, l_268435455, iN_add, iN_sub, iN_mul, iN_le_t, iN_le_f, iN_lt_t, iN_lt_f, iN_eq_f, inb_iN, ix_iN, isZ_0, isZ_1, ↓reduceIte, eq_self, m0, tj, ne]
    · have cs : sb j o = false := by
        cases h : sb j o
        · rfl
        · exact absurd h cs
      have m0 := eq_false (t_sbj o ho j h4 cs)
      refine ⟨A, ⟨fun c s hc hs => ?_, i1, i2⟩, ?_⟩
      · rw [i0 c s hc hs]
        refine if_cg ⟨fun ⟨a, b, d⟩ => ⟨a, by omega, d⟩, fun ⟨a, b, d, e⟩ => ⟨a, ?_, d, e⟩⟩
        by_cases cj : s = j
        · rw [cj, cs] at d
          exact absurd d (by decide)
        · omega
      · show f_X7_tellLosses_l80_21 (iN k) (iN o) x12 (iN n) L (f + 1) (iN j) A = _
        conv => lhs; unfold f_X7_tellLosses_l80_21
        simp (disch := omega) only [chk_t, beq_self_eq_true, nm_s, bj1_s, bj2_s, bj3_s, mo_1, mo_0, l_0, l_1, l_2, l_3, l_4, l_5, l_6, l_7, l_8, l_9, l_10, l_11, l_12, l_13, l_14, l_15, l_16, l_17, l_18, l_19, l_20, l_21, l_24, l_30, l_31, l_32, l_36, l_40, l_41, l_42, l_43, l_44, l_45, l_46, l_47, l_48, l_49, l_50, l_51, l_52, l_57, l_58, l_60, l_61, l_64, l_72, l_80, l_92, l_98, l_99, l_100, l_102, l_105, l_111, l_112, l_114, l_115, l_116, l_117, l_120, l_144, l_200, l_201, l_240, l_300, l_320, l_400, l_500, l_512, l_550, l_560, l_649, l_650, l_1000, l_1032, l_1400, l_2000, l_4000, l_10000, l_268435455, iN_add, iN_sub, iN_mul, iN_le_t, iN_le_f, iN_lt_t, iN_lt_f, iN_eq_f, inb_iN, ix_iN, isZ_0, isZ_1, ↓reduceIte, eq_self, m0]
  · intro f A hI
    refine ⟨A, ?_, hI⟩
    show f_X7_tellLosses_l80_21 (iN k) (iN o) x12 (iN n) L (f + 1) (iN 16) A = _
    unfold f_X7_tellLosses_l80_21
    simp (disch := omega) only [chk_t, beq_self_eq_true, nm_s, bj1_s, bj2_s, bj3_s, mo_1, mo_0, l_0, l_1, l_2, l_3, l_4, l_5, l_6, l_7, l_8, l_9, l_10, l_11, l_12, l_13, l_14, l_15, l_16, l_17, l_18, l_19, l_20, l_21, l_24, l_30, l_31, l_32, l_36, l_40, l_41, l_42, l_43, l_44, l_45, l_46, l_47, l_48, l_49, l_50, l_51, l_52, l_57, l_58, l_60, l_61, l_64, l_72, l_80, l_92, l_98, l_99, l_100, l_102, l_105, l_111, l_112, l_114, l_115, l_116, l_117, l_120, l_144, l_200, l_201, l_240, l_300, l_320, l_400, l_500, l_512, l_550, l_560, l_649, l_650, l_1000, l_1032, l_1400, l_2000, l_4000, l_10000, l_268435455, iN_add, iN_sub, iN_mul, iN_le_t, iN_le_f, iN_lt_t, iN_lt_f, iN_eq_f, inb_iN, ix_iN, isZ_0, isZ_1, ↓reduceIte, eq_self]
theorem cc_46 {G A B : G_} (h : cc G A) (e : ∀ q, q ≠ 46 → B.1 q = A.1 q) (e2 : B.2 = A.2) : cc G B := ⟨fun q hq => by rw [e q (by omega)]; exact h.1 q hq, e2.trans h.2.1, fun z => by rw [e 17 (by omega)]; exact h.2.2 z⟩
theorem tell61 {T : Nat → Nat} {k o n : Nat} {X F : Nat → Int32} {G A : G_} (hk : k < 4) (ho : o < 16) (hb : tkN T o ≤ 600) (hT : ∀ i, i < 4 → o / 2 ^ i % 2 = 1 → G.1 (75 + 4 * i) 5 = iN (T i)) (wm : wfD (mkS X) n) (hF : ∀ j, lossS (restS (mkS X) j) = F j) (cA : cD 17 (mkS X) A) (hcc : cc G A) :
    ∃ H, f_X7_tellLosses_l61_16 (iN k) (iN o) (iN (tkN T o)) FU (iN 0) A = some H ∧ cc G H ∧ ∀ c s, c < 4 → s < 16 → H.1 46 (16 * c + s) = if c = k ∧ sb s o = true ∧ tkN T s < tkN T o + 1 then F (tkN T s) else A.1 46 (16 * c + s) := by
  refine loop_h (fun f v s => f_X7_tellLosses_l61_16 (iN k) (iN o) (iN (tkN T o)) f v s) (fun j H => cD 17 (restS (mkS X) j) H ∧ cc G H ∧ ∀ c s, c < 4 → s < 16 → H.1 46 (16 * c + s) = if c = k ∧ sb s o = true ∧ tkN T s < j then F (tkN T s) else A.1 46 (16 * c + s)) _ 0 (tkN T o + 1) ?_ ?_ (by omega) (n := FU) (fu_lt (by omega)) ⟨cA, hcc, fun c s hc hs => by rw [if_neg (by omega)]⟩
  · intro f j H h3 h4 ⟨i0, i1, i2⟩
    have wi := wf_rest (k := j) wm
    have l0 := closs_ok (o := 17) rfl wi.1 wi.2.2.1 wi.2.2.2 i0
    rw [hF] at l0
    obtain ⟨B, hB, b0, b1, b2⟩ := tell80 (T := T) (k := k) (o := o) (n := j) (L := F j) (x12 := iN (tkN T o)) (G := H) hk ho (by omega) (by omega) (fun i hi hb => by rw [cc_at i1 (by omega)]; exact hT i hi hb)
    have cB := cD_fr i0 (fun q h1 h2 => b1 q (by omega))
    have ccB := cc_46 i1 b1 b2
    obtain ⟨C, hC, cC, fC⟩ := heat_ok (k := iN 4) (o := 17) rfl wi qR_0 cB
    have cC : cD 17 (restS (mkS X) (j + 1)) C := cC
    refine ⟨C, ⟨cC, cc_tr ccB (cc_fr fC (by omega) (by omega)), fun c s hc hs => ?_⟩, ?_⟩
    · rw [fC.1.1 46 (by omega), b0 c s hc hs, i2 c s hc hs]
      by_cases c1 : c = k ∧ sb s o = true
      · by_cases c2 : tkN T s = j
        · rw [if_pos ⟨c1.1, hs, c1.2, c2⟩, if_pos ⟨c1.1, c1.2, by omega⟩, c2]
        · rw [if_neg (fun e => c2 e.2.2.2)]
          exact if_cg ⟨fun ⟨a, b, d⟩ => ⟨a, b, by omega⟩, fun ⟨a, b, d⟩ => ⟨a, b, by omega⟩⟩
      · rw [if_neg (fun e => c1 ⟨e.1, e.2.2.1⟩), if_neg (fun e => c1 ⟨e.1, e.2.1⟩), if_neg (fun e => c1 ⟨e.1, e.2.1⟩)]
    · show f_X7_tellLosses_l61_16 (iN k) (iN o) (iN (tkN T o)) (f + 1) (iN j) H = _
      conv => lhs; unfold f_X7_tellLosses_l61_16
      simp (disch := omega) only [chk_t, beq_self_eq_true, nm_s, bj1_s, bj2_s, bj3_s, mo_1, mo_0, l_0, l_1, l_2, l_3, l_4, l_5, l_6, l_7, l_8, l_9, l_10, l_11, l_12, l_13, l_14, l_15, l_16, l_17, l_18, l_19, l_20, l_21, l_24, l_30, l_31, l_32, l_36, l_40, l_41, l_42, l_43, l_44, l_45, l_46, l_47, l_48, l_49, l_50, l_51, l_52, l_57, l_58, l_60, l_61, l_64, l_72, l_80, l_92, l_98, l_99, l_100, l_102, l_105, l_111, l_112, l_114, l_115, l_116, l_117, l_120, l_144, l_200, l_201, l_240, l_300, l_320, l_400, l_500, l_512, l_550, l_560, l_649, l_650, l_1000, l_1032, l_1400, l_2000, l_4000, l_10000, l_268435455, iN_add, iN_sub, iN_mul, iN_le_t, iN_le_f, iN_lt_t, iN_lt_f, iN_eq_f, inb_iN, ix_iN, isZ_0, isZ_1, ↓reduceIte, eq_self, l0, hB, hC]
  · intro f H ⟨i0, i1, i2⟩
    refine ⟨H, ?_, i1, i2⟩
    show f_X7_tellLosses_l61_16 (iN k) (iN o) (iN (tkN T o)) (f + 1) (iN (tkN T o + 1)) H = _
    unfold f_X7_tellLosses_l61_16
    simp (disch := omega) only [chk_t, beq_self_eq_true, nm_s, bj1_s, bj2_s, bj3_s, mo_1, mo_0, l_0, l_1, l_2, l_3, l_4, l_5, l_6, l_7, l_8, l_9, l_10, l_11, l_12, l_13, l_14, l_15, l_16, l_17, l_18, l_19, l_20, l_21, l_24, l_30, l_31, l_32, l_36, l_40, l_41, l_42, l_43, l_44, l_45, l_46, l_47, l_48, l_49, l_50, l_51, l_52, l_57, l_58, l_60, l_61, l_64, l_72, l_80, l_92, l_98, l_99, l_100, l_102, l_105, l_111, l_112, l_114, l_115, l_116, l_117, l_120, l_144, l_200, l_201, l_240, l_300, l_320, l_400, l_500, l_512, l_550, l_560, l_649, l_650, l_1000, l_1032, l_1400, l_2000, l_4000, l_10000, l_268435455, iN_add, iN_sub, iN_mul, iN_le_t, iN_le_f, iN_lt_t, iN_lt_f, iN_eq_f, inb_iN, ix_iN, isZ_0, isZ_1, ↓reduceIte, eq_self]
/-! order: the reference's orders by numbers -/
def pk : Nat → Nat → Nat → Nat → Nat
  | 0, _, j, _ => j
  | d + 1, s, j, k => if s / 2 ^ j % 2 = 0 then pk d s (j + 1) k else if k = 0 then j else pk d s (j + 1) (k - 1)
def pick (s k : Nat) : Nat := pk 4 s 0 k
def G00 : G_ := (fun _ _ => 0, fun _ _ => 0)
def fcN : Nat → Nat
  | 0 => 1
  | n + 1 => (n + 1) * fcN n
def lyV (n : Nat) : Nat → Nat → Nat → Nat → Nat → Bool
  | 0, _, _, _, _ => true
  | d + 1, s, r, z, i => Nat.blt 0 (z / (n - i)) && Nat.blt (r / (z / (n - i))) 4 && Nat.blt (pick s (r / (z / (n - i)))) 4 && lyV n d (rmS s (pick s (r / (z / (n - i))))) (r % (z / (n - i))) (z / (n - i)) (i + 1)
def lyF (n : Nat) : Nat → Nat → Nat → Nat → Nat → Nat → Nat
  | 0, _, _, _, _, _ => 0
  | d + 1, s, r, z, i, j => if j = i then pick s (r / (z / (n - i))) else lyF n d (rmS s (pick s (r / (z / (n - i))))) (r % (z / (n - i))) (z / (n - i)) (i + 1) j
theorem ne_ok {x : Nat} (h : 0 < x) (h2 : x < 2147483648) : (iN x != iN 0) = true := by
  rw [bne_iff_ne]
  exact fun e => by have := (iN_inj h2 (by omega)).mp e; omega
def cdr (f : Nat → Nat) : Nat → Nat
  | 0 => 0
  | i + 1 => 4 * cdr f i + f i
def cdO (a k : Nat) : Nat := cdr (lyF (pcS a) (pcS a) a k (fcN (pcS a)) 0) (pcS a)
theorem t_ly1 : ∀ a, a < 16 → ∀ k, k < fcN (pcS a) → lyV (pcS a) (pcS a) a k (fcN (pcS a)) 0 = true ∧ ∀ i, i < pcS a → lyF (pcS a) (pcS a) a k (fcN (pcS a)) 0 i = cdO a k / 4 ^ (pcS a - 1 - i) % 4 := by decide +kernel
theorem t_ly2 : ∀ a, a < 16 → ∀ k, k < fcN (pcS a) → okC (cdO a k) (pcS a) a = true ∧ cdO a k < 4 ^ pcS a ∧ (k + 1 < fcN (pcS a) → cdO a k < cdO a (k + 1)) ∧ ∀ i, i < pcS a → a / 2 ^ (cdO a k / 4 ^ i % 4) % 2 = 1 := by decide +kernel
def exK (p : Nat → Bool) : Nat → Bool
  | 0 => false
  | n + 1 => p n || exK p n
theorem exK_ex {p : Nat → Bool} : ∀ n, exK p n = true → ∃ k, k < n ∧ p k = true := by
  intro n
  induction n with
  | zero =>
    intro h
    have h : false = true := h
    exact absurd h (by decide)
  | succ n ih =>
    intro h
    have h : (p n || exK p n) = true := h
    rw [Bool.or_eq_true] at h
    rcases h with h | h
    · exact ⟨n, by omega, h⟩
    · obtain ⟨k, h1, h2⟩ := ih h
      exact ⟨k, by omega, h2⟩
theorem t_ly3 : ∀ a, a < 16 → ∀ c, c < 256 → c < 4 ^ pcS a → okC c (pcS a) a = true → exK (fun k => Nat.beq c (cdO a k)) (fcN (pcS a)) = true := by decide +kernel
theorem t_fc : ∀ a, a < 16 → 0 < fcN (pcS a) ∧ fcN (pcS a) ≤ 24 ∧ 4 ^ pcS a ≤ 256 := by decide +kernel
theorem cd_mono {a : Nat} (ha : a < 16) : ∀ d k, k + (d + 1) < fcN (pcS a) → cdO a k < cdO a (k + (d + 1)) := by
  intro d
  induction d with
  | zero =>
    intro k h
    exact (t_ly2 a ha k (by omega)).2.2.1 h
  | succ d ih =>
    intro k h
    have h1 := ih k (by omega)
    have h2 := (t_ly2 a ha (k + (d + 1)) (by omega)).2.2.1 (by omega)
    rw [show k + (d + 1 + 1) = k + (d + 1) + 1 by omega]
    omega
theorem cd_lt {a k j : Nat} (ha : a < 16) (h : k < j) (hj : j < fcN (pcS a)) : cdO a k < cdO a j := by
  have := cd_mono ha (j - k - 1) k (by omega)
  rw [show k + (j - k - 1 + 1) = j by omega] at this
  exact this
/-- the first least of the orders is the first least of the codes -/
theorem fst_same {a : Nat} {su : Nat → Nat} {r t : Option Nat} (ha : a < 16) (h : fstB (fun c => okC c (pcS a) a = true) su (4 ^ pcS a) r) (h2 : fstB (fun _ => True) (fun k => su (cdO a k)) (fcN (pcS a)) t) : ∃ k, k < fcN (pcS a) ∧ t = some k ∧ r = some (cdO a k) := by
  obtain ⟨f1, f2, f3⟩ := t_fc a ha
  rcases h2 with ⟨_, h2⟩ | ⟨k, e2, hk, -, m1, m2⟩
  · exact absurd trivial (h2 0 f1)
  · have g := t_ly2 a ha k hk
    refine ⟨k, hk, e2, ?_⟩
    rcases h with ⟨_, h⟩ | ⟨b, e, hb, ob, n1, n2⟩
    · exact absurd g.1 (h _ g.2.1)
    · obtain ⟨j, hj, ej⟩ := exK_ex _ (t_ly3 a ha b (by omega) hb ob)
      have ej := Nat.eq_of_beq_eq_true ej
      subst ej
      have le1 := n1 _ g.2.1 g.1
      have le2 := m1 j hj trivial
      have le2 : su (cdO a k) ≤ su (cdO a j) := le2
      by_cases c1 : j < k
      · have := m2 j c1 trivial
        have : su (cdO a k) < su (cdO a j) := this
        omega
      · by_cases c2 : k < j
        · have := n2 _ (cd_lt ha c2 hj) g.1
          omega
        · rw [e, show j = k by omega]
/-! order: what is lost by an order, both ways -/
def suN (T : Nat → Nat) (ls : Nat → Nat → Nat) (c : Nat) : Nat → Nat → Nat
  | 0, _ => 0
  | d + 1, s => ls (c / 4 ^ d % 4) (tkN T (rmS s (c / 4 ^ d % 4))) + suN T ls c d (rmS s (c / 4 ^ d % 4))
def buN (T : Nat → Nat) (c : Nat) : Nat → Nat
  | 0 => 0
  | d + 1 => buN T c d + T (c / 4 ^ d % 4)
def muN (T : Nat → Nat) (ls : Nat → Nat → Nat) (c : Nat) : Nat → Nat
  | 0 => 0
  | d + 1 => muN T ls c d + ls (c / 4 ^ d % 4) (buN T c d)
theorem dig_lt (c d : Nat) : c / 4 ^ d % 4 < 4 := Nat.mod_lt _ (by omega)
theorem okC_s {c d s : Nat} (h : okC c (d + 1) s = true) : s / 2 ^ (c / 4 ^ d % 4) % 2 = 1 ∧ okC c d (rmS s (c / 4 ^ d % 4)) = true := by
  have h : (if s / 2 ^ (c / 4 ^ d % 4) % 2 = 1 then okC c d (rmS s (c / 4 ^ d % 4)) else false) = true := h
  by_cases e : s / 2 ^ (c / 4 ^ d % 4) % 2 = 1
  · rw [if_pos e] at h
    exact ⟨e, h⟩
  · rw [if_neg e] at h
    exact absurd h (by decide)
theorem su_le {T : Nat → Nat} {ls : Nat → Nat → Nat} {c : Nat} (hl : ∀ k t, ls k t ≤ 2000) : ∀ d s, suN T ls c d s ≤ 2000 * d := by
  intro d
  induction d with
  | zero => exact fun _ => Nat.le_refl _
  | succ d ih =>
    intro s
    have h1 := ih (rmS s (c / 4 ^ d % 4))
    have h2 := hl (c / 4 ^ d % 4) (tkN T (rmS s (c / 4 ^ d % 4)))
    show ls (c / 4 ^ d % 4) (tkN T (rmS s (c / 4 ^ d % 4))) + suN T ls c d (rmS s (c / 4 ^ d % 4)) ≤ _
    omega
theorem bu_le {T : Nat → Nat} {c : Nat} (hl : ∀ k, k < 4 → T k ≤ 200) : ∀ d, buN T c d ≤ 200 * d := by
  intro d
  induction d with
  | zero => exact Nat.le_refl _
  | succ d ih =>
    have h2 := hl _ (dig_lt c d)
    show buN T c d + T (c / 4 ^ d % 4) ≤ _
    omega
theorem suC_ok {T : Nat → Nat} {ls : Nat → Nat → Nat} {c a : Nat} {f : Nat → Int32} (ha : a < 16) (hf : ∀ k, k < 4 → a / 2 ^ k % 2 = 1 → ∀ s, s < 16 → sb s (rmS a k) = true → f (16 * k + s) = iN (ls k (tkN T s))) :
    ∀ d s x, s < 16 → sb s a = true → okC c d s = true → suC f c d s (iN x) = iN (x + suN T ls c d s) := by
  intro d
  induction d with
  | zero =>
    intro s x _ _ _
    rfl
  | succ d ih =>
    intro s x hs hsb ho
    obtain ⟨h1, h2⟩ := okC_s ho
    have hx := dig_lt c d
    have ka := t_sbb a ha s hs hsb _ hx h1
    have rl := rm_lt _ hx s hs
    have sr := t_sbr _ hx s hs a ha hsb h1
    have fa := hf _ hx ka _ rl sr
    have sa := t_sbt _ rl _ hs _ ha (t_sbs _ hx s hs) hsb
    show suC f c d (rmS s (c / 4 ^ d % 4)) (iN x + f (16 * (c / 4 ^ d % 4) + rmS s (c / 4 ^ d % 4))) = iN (x + (ls (c / 4 ^ d % 4) (tkN T (rmS s (c / 4 ^ d % 4))) + suN T ls c d (rmS s (c / 4 ^ d % 4))))
    rw [fa, iN_add, ih _ _ rl sa h2, Nat.add_assoc]
theorem t_pc0 : ∀ s, s < 16 → pcS s = 0 → s = 0 := by decide +kernel
theorem su_mu {T : Nat → Nat} {ls : Nat → Nat → Nat} {c : Nat} : ∀ d s, s < 16 → pcS s = d → okC c d s = true → tkN T s = buN T c d ∧ suN T ls c d s = muN T ls c d := by
  intro d
  induction d with
  | zero =>
    intro s hs hp _
    have e := t_pc0 s hs hp
    subst e
    refine ⟨?_, rfl⟩
    rw [tkN_eq]
    rfl
  | succ d ih =>
    intro s hs hp ho
    obtain ⟨h1, h2⟩ := okC_s ho
    have hx := dig_lt c d
    have rl := rm_lt _ hx s hs
    have hp2 := t_pcr _ hx s hs h1
    obtain ⟨g1, g2⟩ := ih _ rl (by omega) h2
    refine ⟨?_, ?_⟩
    · show tkN T s = buN T c d + T (c / 4 ^ d % 4)
      rw [tk_rm hx hs h1, g1, Nat.add_comm]
    · show ls (c / 4 ^ d % 4) (tkN T (rmS s (c / 4 ^ d % 4))) + suN T ls c d (rmS s (c / 4 ^ d % 4)) = muN T ls c d + ls (c / 4 ^ d % 4) (buN T c d)
      rw [g1, g2, Nat.add_comm]
/-- what the class finds -/
theorem cbest_ok {T : Nat → Nat} {ls : Nat → Nat → Nat} {a : Nat} {G : G_} (ha : a < 16) (hl : ∀ k t, ls k t ≤ 2000) (hf : ∀ k, k < 4 → a / 2 ^ k % 2 = 1 → ∀ s, s < 16 → sb s (rmS a k) = true → G.1 46 (16 * k + s) = iN (ls k (tkN T s))) :
    ∃ H r, f_X1_findBest (iN a) G = some H ∧ fstB (fun c => okC c (pcS a) a = true) (fun c => muN T ls c (pcS a)) (4 ^ pcS a) r ∧ (∀ q, q ≠ 45 → q ≠ 47 → H.1 q = G.1 q) ∧ H.2 = G.2 ∧ (r = none → H.1 45 2 = -iN 1) ∧ ∀ b, r = some b → H.1 45 2 = iN (muN T ls b (pcS a)) ∧ ∀ i, i < pcS a → H.1 47 i = figS b (pcS a) i := by
  have h4 := t_pc4 a ha
  exact cfind_ok ha (by omega) (fun c hc ho => by
    have h1 := suC_ok (T := T) (ls := ls) (c := c) ha hf (pcS a) a 0 ha (t_sbe a ha) ho
    have h2 := (su_mu (T := T) (ls := ls) (pcS a) a ha rfl ho).2
    have h3 := su_le (T := T) (c := c) hl (pcS a) a
    rw [Nat.zero_add] at h1
    show suC (G.1 46) c (pcS a) a (iN 0) = iN (muN T ls c (pcS a)) ∧ muN T ls c (pcS a) ≤ 10000
    rw [h1, ← h2]
    exact ⟨rfl, by omega⟩)
/-! order: the reference's search -/
theorem m1_lt : (iN 0 - iN 1 < iN 0) = True := eq_true (by decide)
theorem m1_dn (x : Int32) : x + -iN 1 = x - iN 1 := (Int32.sub_eq_add_neg x (iN 1)).symm
theorem mu_le {T : Nat → Nat} {ls : Nat → Nat → Nat} {c : Nat} (hl : ∀ k t, ls k t ≤ 2000) : ∀ d, muN T ls c d ≤ 2000 * d := by
  intro d
  induction d with
  | zero => exact Nat.le_refl _
  | succ d ih =>
    have h2 := hl (c / 4 ^ d % 4) (buN T c d)
    show muN T ls c d + ls (c / 4 ^ d % 4) (buN T c d) ≤ _
    omega
theorem m9_eq : (-iN 9 = -iN 9) = True := eq_self _
/-! order -/
theorem t_shrN : ∀ x, x < 4 → ∀ s, s < 16 → (iN s >>> (iN x &&& iN 31)) &&& iN 1 = iN (s / 2 ^ x % 2) := by decide +kernel
def thr (G : G_) (k : Nat) : Prop := G.1 131 k = iN 1 ∧ G.1 133 k = iN 1
def thA4 (a : Nat) (G : G_) (j : Nat) : Prop := ∀ i, i < j → a / 2 ^ i % 2 = 1 → thr G i
theorem N01 : ¬ iN 0 = iN 1 := by decide
def cnJ (a : Nat) : Nat → Nat
  | 0 => 0
  | j + 1 => cnJ a j + a / 2 ^ j % 2
theorem t_cn : ∀ a, a < 16 → cnJ a 4 = pcS a := by decide +kernel
theorem fc_s (n : Nat) : iN (fcN n) * (iN n + iN 1) = iN (fcN (n + 1)) := by
  rw [iN_add, iN_mul, Nat.mul_comm]
  rfl
theorem bestAt_ok {i : Nat} {G : G_} (hi : i < 4) : f_X1_bestAt (iN i) G = some (G.1 47 i) := by
  have e1 : inS (iN 0) (iN 3) (iN i) = iN 1 := inS_t (by omega) (by omega)
  unfold f_X1_bestAt
  simp (disch := omega) only [chk_t, beq_self_eq_true, nm_s, bj1_s, bj2_s, bj3_s, mo_1, mo_0, l_0, l_1, l_2, l_3, l_4, l_5, l_6, l_7, l_8, l_9, l_10, l_11, l_12, l_13, l_14, l_15, l_16, l_17, l_18, l_19, l_20, l_21, l_24, l_30, l_31, l_32, l_36, l_40, l_41, l_42, l_43, l_44, l_45, l_46, l_47, l_48, l_49, l_50, l_51, l_52, l_57, l_58, l_60, l_61, l_64, l_72, l_80, l_92, l_98, l_99, l_100, l_102, l_105, l_111, l_112, l_114, l_115, l_116, l_117, l_120, l_144, l_200, l_201, l_240, l_300, l_320, l_400, l_500, l_512, l_550, l_560, l_649, l_650, l_1000, l_1032, l_1400, l_2000, l_4000, l_10000, l_268435455, iN_add, iN_sub, iN_mul, iN_le_t, iN_le_f, iN_lt_t, iN_lt_f, iN_eq_f, inb_iN, ix_iN, isZ_0, isZ_1, ↓reduceIte, eq_self, in7, e1]
theorem l111_ok {p n : Nat} {F : Nat → Int32} {G : G_} (ho : kd p = 4) (hp : 48 ≤ p) (hn : n ≤ 4) (h1 : G.1 p 1 = iN n) (hz : ∀ i, i < 40 → G.1 (p + 1) i = iN 0) (hF : ∀ i, i < n → G.1 47 i = F i) :
    ∃ H, f_X7_order_l111_27 p FU (iN 0) G = some H ∧ H.1 p 1 = iN n ∧ (∀ i, i < 40 → H.1 (p + 1) i = if i < n then F i else iN 0) ∧ (∀ q, q ≠ p + 1 → H.1 q = G.1 q) ∧ H.2 = G.2 := by
  refine loop_h (fun f v s => f_X7_order_l111_27 p f v s) (fun j B => B.1 p 1 = iN n ∧ (∀ i, i < 40 → B.1 (p + 1) i = if i < j then F i else iN 0) ∧ (∀ q, q ≠ p + 1 → B.1 q = G.1 q) ∧ B.2 = G.2) _ 0 n ?_ ?_ (by omega) (n := FU) (fu_lt (by omega)) ⟨h1, fun i hi => by rw [if_neg (by omega)]; exact hz i hi, fun _ _ => rfl, rfl⟩
  · intro f j B h3 h4 ⟨i0, i1, i2, i3⟩
    have ba := bestAt_ok (i := j) (G := B) (by omega)
    rw [i2 47 (by omega), hF j h4] at ba
    have rs := rset_ok (x := F j) ho i0 (show n ≤ 40 by omega) h4
    refine ⟨sI B (p + 1) j (F j), ⟨by rw [sI_p (by omega)]; exact i0, fun i hi => ?_, fun q h => by rw [sI_p h]; exact i2 q h, i3⟩, ?_⟩
    · by_cases c : i = j
      · subst c
        rw [sI_eq, if_pos (by omega)]
      · rw [sI_j c, i1 i hi]
        exact if_cg ⟨fun _ => by omega, fun _ => by omega⟩
    · show f_X7_order_l111_27 p (f + 1) (iN j) B = _
      conv => lhs; unfold f_X7_order_l111_27
      simp (disch := omega) only [chk_t, beq_self_eq_true, nm_s, bj1_s, bj2_s, bj3_s, mo_1, mo_0, l_0, l_1, l_2, l_3, l_4, l_5, l_6, l_7, l_8, l_9, l_10, l_11, l_12, l_13, l_14, l_15, l_16, l_17, l_18, l_19, l_20, l_21, l_24, l_30, l_31, l_32, l_36, l_40, l_41, l_42, l_43, l_44, l_45, l_46, l_47, l_48, l_49, l_50, l_51, l_52, l_57, l_58, l_60, l_61, l_64, l_72, l_80, l_92, l_98, l_99, l_100, l_102, l_105, l_111, l_112, l_114, l_115, l_116, l_117, l_120, l_144, l_200, l_201, l_240, l_300, l_320, l_400, l_500, l_512, l_550, l_560, l_649, l_650, l_1000, l_1032, l_1400, l_2000, l_4000, l_10000, l_268435455, iN_add, iN_sub, iN_mul, iN_le_t, iN_le_f, iN_lt_t, iN_lt_f, iN_eq_f, inb_iN, ix_iN, isZ_0, isZ_1, ↓reduceIte, eq_self, i0, ba, rs]
  · intro f B ⟨i0, i1, i2, i3⟩
    refine ⟨B, ?_, i0, i1, i2, i3⟩
    show f_X7_order_l111_27 p (f + 1) (iN n) B = _
    unfold f_X7_order_l111_27
    simp (disch := omega) only [chk_t, beq_self_eq_true, nm_s, bj1_s, bj2_s, bj3_s, mo_1, mo_0, l_0, l_1, l_2, l_3, l_4, l_5, l_6, l_7, l_8, l_9, l_10, l_11, l_12, l_13, l_14, l_15, l_16, l_17, l_18, l_19, l_20, l_21, l_24, l_30, l_31, l_32, l_36, l_40, l_41, l_42, l_43, l_44, l_45, l_46, l_47, l_48, l_49, l_50, l_51, l_52, l_57, l_58, l_60, l_61, l_64, l_72, l_80, l_92, l_98, l_99, l_100, l_102, l_105, l_111, l_112, l_114, l_115, l_116, l_117, l_120, l_144, l_200, l_201, l_240, l_300, l_320, l_400, l_500, l_512, l_550, l_560, l_649, l_650, l_1000, l_1032, l_1400, l_2000, l_4000, l_10000, l_268435455, iN_add, iN_sub, iN_mul, iN_le_t, iN_le_f, iN_lt_t, iN_lt_f, iN_eq_f, inb_iN, ix_iN, isZ_0, isZ_1, ↓reduceIte, eq_self, i0]

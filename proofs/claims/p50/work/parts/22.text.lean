/-! texts that the law writes, and what is read in them -/
theorem b8_tab : ∀ c, c < 128 → (iN c).toInt8.toInt32 = iN c := by decide +kernel
def dg (v : Nat) : List Nat := if v < 10 then [48 + v] else [48 + v / 10, 48 + v % 10]
/-- text 3 is of size z, begins with l, blank behind it -/
def TX (z : Nat) (l : List Nat) (G : G_) : Prop := G.1 69 1 = iN z ∧ (∀ i, i < z → G.1 70 i = iN (l.getD i 32)) ∧ l.length ≤ z ∧ z ≤ 80 ∧ ∀ c, c ∈ l → c < 128
theorem TX_fr {z : Nat} {l : List Nat} {G A : G_} (h : TX z l G) (e1 : A.1 69 = G.1 69) (e2 : A.1 70 = G.1 70) : TX z l A := ⟨by rw [e1]; exact h.1, fun i hi => by rw [e2]; exact h.2.1 i hi, h.2.2⟩
theorem TX_c {z : Nat} {l : List Nat} {G : G_} (h : TX z l G) : cT 3 z (fun i => iN (l.getD i 32)) G := ⟨h.1, h.2.1⟩
theorem tval_c {z p : Nat} {l : List Nat} {G : G_} (h : TX z l G) (hp : p ≤ 1000) : f_X6_value 69 (iN p) G = some (if p < z then iN (l.getD p 32) else iN 1000) := cval (t := 3) (by omega) h.2.2.2.1 (TX_c h) hp
theorem gD_snoc (l : List Nat) (c i : Nat) : (l ++ [c]).getD i 32 = if i = l.length then c else l.getD i 32 := by
  induction l generalizing i with
  | nil =>
    cases i with
    | zero => rfl
    | succ i => rfl
  | cons a l ih =>
    cases i with
    | zero => rfl
    | succ i =>
      show (l ++ [c]).getD i 32 = if i + 1 = l.length + 1 then c else l.getD i 32
      rw [ih]
      by_cases e : i = l.length
      · rw [if_pos e, if_pos (by omega)]
      · rw [if_neg e, if_neg (by omega)]
theorem gD_out (l : List Nat) (i : Nat) (h : l.length ≤ i) : l.getD i 32 = 32 := by
  rw [List.getD_eq_getElem?_getD, List.getElem?_eq_none h]
  rfl
theorem gD_drop {l r : List Nat} {p c : Nat} (h : l.drop p = c :: r) : l.getD p 32 = c ∧ l.drop (p + 1) = r ∧ p < l.length := by
  have hp : p < l.length := by
    rcases Nat.lt_or_ge p l.length with q | q
    · exact q
    · rw [List.drop_eq_nil_of_le q] at h
      cases h
  have e := List.drop_eq_getElem_cons hp
  rw [h] at e
  injection e with e1 e2
  refine ⟨?_, e2.symm, hp⟩
  rw [List.getD_eq_getElem?_getD, List.getElem?_eq_getElem hp, ← e1]
  rfl
theorem text_c {z : Nat} {G : G_} (hz : z ≤ 80) : ∃ A, f_X7_text (iN 3) (iN z) G = some (iN z, A) ∧ TX z [] A ∧ (∀ q, q ≠ 69 → q ≠ 70 → A.1 q = G.1 q) ∧ A.2 = G.2 := by
  have c1 : f_X7_textAt (iN 3) G = some (some 69) := (textAt_t (k := 3) (by omega) G).1
  have ho : kd 69 = 6 := rfl
  obtain ⟨A, hA, a0, a1, a2, a3⟩ := tbegin_ok (o := 69) (z := z) (G := G) ho hz
  refine ⟨A, ?_, ⟨a0, fun i hi => ?_, Nat.zero_le _, hz, fun c hc => absurd hc List.not_mem_nil⟩, a2, a3⟩
  · unfold f_X7_text
    simp (disch := omega) only [chk_t, beq_self_eq_true, nm_s, bj1_s, bj2_s, bj3_s, mo_1, mo_0, l_0, l_1, l_2, l_3, l_4, l_5, l_6, l_7, l_8, l_9, l_10, l_11, l_12, l_13, l_14, l_15, l_16, l_17, l_18, l_19, l_20, l_21, l_24, l_30, l_31, l_32, l_36, l_40, l_41, l_42, l_43, l_44, l_45, l_46, l_47, l_48, l_49, l_50, l_51, l_52, l_57, l_58, l_60, l_61, l_64, l_72, l_80, l_92, l_98, l_99, l_100, l_102, l_105, l_111, l_112, l_114, l_115, l_116, l_117, l_120, l_144, l_200, l_201, l_240, l_300, l_320, l_400, l_500, l_512, l_550, l_560, l_649, l_650, l_1000, l_1032, l_1400, l_2000, l_4000, l_10000, l_268435455, iN_add, iN_sub, iN_mul, iN_le_t, iN_le_f, iN_lt_t, iN_lt_f, iN_eq_f, inb_iN, ix_iN, isZ_0, isZ_1, ↓reduceIte, eq_self, c1, kd_b ho, hA]
  · rw [show 70 = 69 + 1 from rfl, a1 i (by omega), b8_tab 32 (by omega)]
    rfl
theorem lput_c {z c : Nat} {l : List Nat} {G : G_} (h : TX z l G) (hl : l.length < z) (hc : c < 128) : f_L_put (iN l.length) (iN c) G = some (iN (l.length + 1), sI G 70 l.length (iN c)) ∧ TX z (l ++ [c]) (sI G 70 l.length (iN c)) := by
  have hz := h.2.2.2.1
  have c1 : f_X7_textAt (iN 3) G = some (some 69) := (textAt_t (k := 3) (by omega) G).1
  have ho : kd 69 = 6 := rfl
  have ht := tthere_t ho h.1 hz
  have hv := tval_c (p := l.length) h (by omega)
  rw [if_pos hl, gD_out l l.length (Nat.le_refl _)] at hv
  have hb := b8_tab c hc
  constructor
  · have hh : f_X6_has 69 (iN l.length) G = some (iN 1) := by
      rcases thas_cases ho h.1 hz (iN l.length) with ⟨c2, c3⟩ | ⟨j, hj, e, c2, c3⟩
      · rw [iN_sub (by omega), inS_t (by omega) (by omega)] at c3
        exact absurd c3 (by decide)
      · have e := (iN_inj (by omega) (by omega)).mp e
        rw [e]
        exact c2
    have hs : f_X6_set 69 (iN l.length) (iN c) G = some (sI G 70 l.length (iN c)) := by
      unfold f_X6_set
      simp (disch := omega) only [chk_t, beq_self_eq_true, nm_s, bj1_s, bj2_s, bj3_s, mo_1, mo_0, l_0, l_1, l_2, l_3, l_4, l_5, l_6, l_7, l_8, l_9, l_10, l_11, l_12, l_13, l_14, l_15, l_16, l_17, l_18, l_19, l_20, l_21, l_24, l_30, l_31, l_32, l_36, l_40, l_41, l_42, l_43, l_44, l_45, l_46, l_47, l_48, l_49, l_50, l_51, l_52, l_57, l_58, l_60, l_61, l_64, l_72, l_80, l_92, l_98, l_99, l_100, l_102, l_105, l_111, l_112, l_114, l_115, l_116, l_117, l_120, l_144, l_200, l_201, l_240, l_300, l_320, l_400, l_500, l_512, l_550, l_560, l_649, l_650, l_1000, l_1032, l_1400, l_2000, l_4000, l_10000, l_268435455, iN_add, iN_sub, iN_mul, iN_le_t, iN_le_f, iN_lt_t, iN_lt_f, iN_eq_f, inb_iN, ix_iN, isZ_0, isZ_1, ↓reduceIte, eq_self, kd_b ho, hh, hb]
    generalize l.length = m at *
    unfold f_L_put f_X7_put
    simp (disch := omega) only [chk_t, beq_self_eq_true, nm_s, bj1_s, bj2_s, bj3_s, mo_1, mo_0, l_0, l_1, l_2, l_3, l_4, l_5, l_6, l_7, l_8, l_9, l_10, l_11, l_12, l_13, l_14, l_15, l_16, l_17, l_18, l_19, l_20, l_21, l_24, l_30, l_31, l_32, l_36, l_40, l_41, l_42, l_43, l_44, l_45, l_46, l_47, l_48, l_49, l_50, l_51, l_52, l_57, l_58, l_60, l_61, l_64, l_72, l_80, l_92, l_98, l_99, l_100, l_102, l_105, l_111, l_112, l_114, l_115, l_116, l_117, l_120, l_144, l_200, l_201, l_240, l_300, l_320, l_400, l_500, l_512, l_550, l_560, l_649, l_650, l_1000, l_1032, l_1400, l_2000, l_4000, l_10000, l_268435455, iN_add, iN_sub, iN_mul, iN_le_t, iN_le_f, iN_lt_t, iN_lt_f, iN_eq_f, inb_iN, ix_iN, isZ_0, isZ_1, ↓reduceIte, eq_self, c1, kd_b ho, ht, hh, hv, hb, hs]
  · refine ⟨by rw [sI_p (by omega)]; exact h.1, fun i hi => ?_, by rw [List.length_append]; exact hl, hz, fun x hx => ?_⟩
    · rw [gD_snoc]
      by_cases e : i = l.length
      · rw [if_pos e, e, sI_eq]
      · rw [if_neg e, sI_j e]
        exact h.2.1 i hi
    · rcases List.mem_append.mp hx with hx | hx
      · exact h.2.2.2.2 x hx
      · rw [List.mem_singleton.mp hx]
        exact hc
theorem dg_len (v : Nat) : 1 ≤ (dg v).length ∧ (dg v).length ≤ 2 := by
  unfold dg
  split
  · exact ⟨Nat.le_refl 1, show 1 ≤ 2 by omega⟩
  · exact ⟨show 1 ≤ 2 by omega, Nat.le_refl 2⟩
theorem lnum_c {z v : Nat} {l : List Nat} {G : G_} (h : TX z l G) (hv : v < 100) (hl : l.length + 2 ≤ z) : ∃ A, f_L_number (iN l.length) (iN v) G = some (iN (l ++ dg v).length, A) ∧ TX z (l ++ dg v) A ∧ (∀ q, q ≠ 70 → A.1 q = G.1 q) ∧ A.2 = G.2 := by
  have hz := h.2.2.2.1
  by_cases c : v < 10
  · obtain ⟨h1, h2⟩ := lput_c (c := 48 + v) h (by omega) (by omega)
    have ed : dg v = [48 + v] := if_pos c
    refine ⟨_, ?_, by rw [ed]; exact h2, fun q hq => sI_p hq, rfl⟩
    rw [ed, List.length_append]
    show _ = some (iN (l.length + 1), _)
    generalize l.length = m at *
    unfold f_L_number
    simp (disch := omega) only [chk_t, beq_self_eq_true, nm_s, bj1_s, bj2_s, bj3_s, mo_1, mo_0, l_0, l_1, l_2, l_3, l_4, l_5, l_6, l_7, l_8, l_9, l_10, l_11, l_12, l_13, l_14, l_15, l_16, l_17, l_18, l_19, l_20, l_21, l_24, l_30, l_31, l_32, l_36, l_40, l_41, l_42, l_43, l_44, l_45, l_46, l_47, l_48, l_49, l_50, l_51, l_52, l_57, l_58, l_60, l_61, l_64, l_72, l_80, l_92, l_98, l_99, l_100, l_102, l_105, l_111, l_112, l_114, l_115, l_116, l_117, l_120, l_144, l_200, l_201, l_240, l_300, l_320, l_400, l_500, l_512, l_550, l_560, l_649, l_650, l_1000, l_1032, l_1400, l_2000, l_4000, l_10000, l_268435455, iN_add, iN_sub, iN_mul, iN_le_t, iN_le_f, iN_lt_t, iN_lt_f, iN_eq_f, inb_iN, ix_iN, isZ_0, isZ_1, ↓reduceIte, eq_self, h1]
  · obtain ⟨h1, h2⟩ := lput_c (c := 48 + v / 10) h (by omega) (by omega)
    have hl2 : (l ++ [48 + v / 10]).length = l.length + 1 := by rw [List.length_append]; rfl
    obtain ⟨h3, h4⟩ := lput_c (c := 48 + v % 10) h2 (by rw [hl2]; omega) (by omega)
    rw [hl2] at h3 h4
    have ed : dg v = [48 + v / 10, 48 + v % 10] := if_neg c
    refine ⟨sI (sI G 70 l.length (iN (48 + v / 10))) 70 (l.length + 1) (iN (48 + v % 10)), ?_, by rw [ed, show l ++ [48 + v / 10, 48 + v % 10] = l ++ [48 + v / 10] ++ [48 + v % 10] by rw [List.append_assoc]; rfl]; exact h4, fun q hq => by rw [sI_p hq, sI_p hq], rfl⟩
    rw [ed, List.length_append]
    show _ = some (iN (l.length + 2), _)
    have e1 : v - v / 10 * 10 = v % 10 := by omega
    generalize l.length = m at *
    unfold f_L_number
    simp (disch := omega) only [chk_t, beq_self_eq_true, nm_s, bj1_s, bj2_s, bj3_s, mo_1, mo_0, l_0, l_1, l_2, l_3, l_4, l_5, l_6, l_7, l_8, l_9, l_10, l_11, l_12, l_13, l_14, l_15, l_16, l_17, l_18, l_19, l_20, l_21, l_24, l_30, l_31, l_32, l_36, l_40, l_41, l_42, l_43, l_44, l_45, l_46, l_47, l_48, l_49, l_50, l_51, l_52, l_57, l_58, l_60, l_61, l_64, l_72, l_80, l_92, l_98, l_99, l_100, l_102, l_105, l_111, l_112, l_114, l_115, l_116, l_117, l_120, l_144, l_200, l_201, l_240, l_300, l_320, l_400, l_500, l_512, l_550, l_560, l_649, l_650, l_1000, l_1032, l_1400, l_2000, l_4000, l_10000, l_268435455, iN_add, iN_sub, iN_mul, iN_le_t, iN_le_f, iN_lt_t, iN_lt_f, iN_eq_f, inb_iN, ix_iN, isZ_0, isZ_1, ↓reduceIte, eq_self, iN_div, h1, e1, h3]
/-- one item written -/
theorem lslab_s {a1 : Int32} {a2 n z i c v : Nat} {l : List Nat} {G : G_} (h : TX z l G) (hl : l.length + 3 ≤ z) (hi : (i = 0 ∧ c = 116) ∨ (i = 1 ∧ c = 99) ∨ (i = 2 ∧ c = 115) ∨ (i = 3 ∧ c = 102)) (ha : a2 ≠ 70) (hv : G.1 a2 i = iN v) (hv2 : v < 100) : ∃ A, f_L_slab_l19_7 a1 a2 (n + 1) (iN l.length) (iN i) G = f_L_slab_l19_7 a1 a2 n (iN (l ++ c :: dg v).length) (iN (i + 1)) A ∧ TX z (l ++ c :: dg v) A ∧ (∀ q, q ≠ 70 → A.1 q = G.1 q) ∧ A.2 = G.2 := by
  have hz := h.2.2.2.1
  have hc : c < 128 := by omega
  obtain ⟨h1, h2⟩ := lput_c (c := c) h (by omega) hc
  have hl2 : (l ++ [c]).length = l.length + 1 := by rw [List.length_append]; rfl
  obtain ⟨A, h3, h4, h5, h6⟩ := lnum_c (v := v) h2 hv2 (by rw [hl2]; omega)
  have el : l ++ [c] ++ dg v = l ++ c :: dg v := by rw [List.append_assoc]; rfl
  rw [el] at h3 h4
  rw [hl2] at h3
  have hv' : (sI G 70 l.length (iN c)).1 a2 i = iN v := by rw [sI_p ha]; exact hv
  refine ⟨A, ?_, h4, fun q hq => by rw [h5 q hq, sI_p hq], h6⟩
  generalize (l ++ c :: dg v).length = m2 at *
  generalize l.length = m at *
  conv => lhs; unfold f_L_slab_l19_7
  rcases hi with ⟨rfl, rfl⟩ | ⟨rfl, rfl⟩ | ⟨rfl, rfl⟩ | ⟨rfl, rfl⟩
  · simp (disch := omega) only [chk_t, beq_self_eq_true, nm_s, bj1_s, bj2_s, bj3_s, mo_1, mo_0, l_0, l_1, l_2, l_3, l_4, l_5, l_6, l_7, l_8, l_9, l_10, l_11, l_12, l_13, l_14, l_15, l_16, l_17, l_18, l_19, l_20, l_21, l_24, l_30, l_31, l_32, l_36, l_40, l_41, l_42, l_43, l_44, l_45, l_46, l_47, l_48, l_49, l_50, l_51, l_52, l_57, l_58, l_60, l_61, l_64, l_72, l_80, l_92, l_98, l_99, l_100, l_102, l_105, l_111, l_112, l_114, l_115, l_116, l_117, l_120, l_144, l_200, l_201, l_240, l_300, l_320, l_400, l_500, l_512, l_550, l_560, l_649, l_650, l_1000, l_1032, l_1400, l_2000, l_4000, l_10000, l_268435455, iN_add, iN_sub, iN_mul, iN_le_t, iN_le_f, iN_lt_t, iN_lt_f, iN_eq_f, inb_iN, ix_iN, isZ_0, isZ_1, ↓reduceIte, eq_self, h1, hv', h3]
  · simp (disch := omega) only [chk_t, beq_self_eq_true, nm_s, bj1_s, bj2_s, bj3_s, mo_1, mo_0, l_0, l_1, l_2, l_3, l_4, l_5, l_6, l_7, l_8, l_9, l_10, l_11, l_12, l_13, l_14, l_15, l_16, l_17, l_18, l_19, l_20, l_21, l_24, l_30, l_31, l_32, l_36, l_40, l_41, l_42, l_43, l_44, l_45, l_46, l_47, l_48, l_49, l_50, l_51, l_52, l_57, l_58, l_60, l_61, l_64, l_72, l_80, l_92, l_98, l_99, l_100, l_102, l_105, l_111, l_112, l_114, l_115, l_116, l_117, l_120, l_144, l_200, l_201, l_240, l_300, l_320, l_400, l_500, l_512, l_550, l_560, l_649, l_650, l_1000, l_1032, l_1400, l_2000, l_4000, l_10000, l_268435455, iN_add, iN_sub, iN_mul, iN_le_t, iN_le_f, iN_lt_t, iN_lt_f, iN_eq_f, inb_iN, ix_iN, isZ_0, isZ_1, ↓reduceIte, eq_self, h1, hv', h3]
  · simp (disch := omega) only [chk_t, beq_self_eq_true, nm_s, bj1_s, bj2_s, bj3_s, mo_1, mo_0, l_0, l_1, l_2, l_3, l_4, l_5, l_6, l_7, l_8, l_9, l_10, l_11, l_12, l_13, l_14, l_15, l_16, l_17, l_18, l_19, l_20, l_21, l_24, l_30, l_31, l_32, l_36, l_40, l_41, l_42, l_43, l_44, l_45, l_46, l_47, l_48, l_49, l_50, l_51, l_52, l_57, l_58, l_60, l_61, l_64, l_72, l_80, l_92, l_98, l_99, l_100, l_102, l_105, l_111, l_112, l_114, l_115, l_116, l_117, l_120, l_144, l_200, l_201, l_240, l_300, l_320, l_400, l_500, l_512, l_550, l_560, l_649, l_650, l_1000, l_1032, l_1400, l_2000, l_4000, l_10000, l_268435455, iN_add, iN_sub, iN_mul, iN_le_t, iN_le_f, iN_lt_t, iN_lt_f, iN_eq_f, inb_iN, ix_iN, isZ_0, isZ_1, ↓reduceIte, eq_self, h1, hv', h3]
  · simp (disch := omega) only [chk_t, beq_self_eq_true, nm_s, bj1_s, bj2_s, bj3_s, mo_1, mo_0, l_0, l_1, l_2, l_3, l_4, l_5, l_6, l_7, l_8, l_9, l_10, l_11, l_12, l_13, l_14, l_15, l_16, l_17, l_18, l_19, l_20, l_21, l_24, l_30, l_31, l_32, l_36, l_40, l_41, l_42, l_43, l_44, l_45, l_46, l_47, l_48, l_49, l_50, l_51, l_52, l_57, l_58, l_60, l_61, l_64, l_72, l_80, l_92, l_98, l_99, l_100, l_102, l_105, l_111, l_112, l_114, l_115, l_116, l_117, l_120, l_144, l_200, l_201, l_240, l_300, l_320, l_400, l_500, l_512, l_550, l_560, l_649, l_650, l_1000, l_1032, l_1400, l_2000, l_4000, l_10000, l_268435455, iN_add, iN_sub, iN_mul, iN_le_t, iN_le_f, iN_lt_t, iN_lt_f, iN_eq_f, inb_iN, ix_iN, isZ_0, isZ_1, ↓reduceIte, eq_self, h1, hv', h3]
def slT (f : Nat → Nat) : List Nat := [32] ++ 116 :: dg (f 0) ++ 99 :: dg (f 1) ++ 115 :: dg (f 2) ++ 102 :: dg (f 3)
theorem lslab_w {a1 : Int32} {a2 : Nat} {f : Nat → Nat} {G : G_} (h : TX 24 [] G) (ha : a2 ≠ 70) (hv : ∀ i, i < 4 → G.1 a2 i = iN (f i)) (hf : ∀ i, i < 4 → f i < 100) : ∃ A, f_L_slab_l19_7 a1 a2 FU (iN 1) (iN 0) G = some (iN (slT f).length, A) ∧ TX 24 (slT f) A ∧ (∀ q, q ≠ 70 → A.1 q = G.1 q) ∧ A.2 = G.2 := by
  have d0 := dg_len (f 0)
  have d1 := dg_len (f 1)
  have d2 := dg_len (f 2)
  have d3 := dg_len (f 3)
  have h0 : TX 24 [32] G := ⟨h.1, fun i hi => by
    rw [h.2.1 i hi]
    cases i with
    | zero => rfl
    | succ i =>
      cases i with
      | zero => rfl
      | succ i => rfl, by decide, by decide, fun c hc => by rw [List.mem_singleton.mp hc]; decide⟩
  obtain ⟨A, a1', a2', a3', a4'⟩ := lslab_s (a1 := a1) (n := 999) (i := 0) h0 (by decide) (Or.inl ⟨rfl, rfl⟩) ha (hv 0 (by omega)) (hf 0 (by omega))
  have la : ([32] ++ 116 :: dg (f 0)).length = 2 + (dg (f 0)).length := by simp; omega
  obtain ⟨B, b1, b2, b3, b4⟩ := lslab_s (a1 := a1) (n := 998) (i := 1) a2' (by rw [la]; omega) (Or.inr (Or.inl ⟨rfl, rfl⟩)) ha (by rw [a3' a2 ha]; exact hv 1 (by omega)) (hf 1 (by omega))
  have lb : ([32] ++ 116 :: dg (f 0) ++ 99 :: dg (f 1)).length = 3 + (dg (f 0)).length + (dg (f 1)).length := by simp; omega
  obtain ⟨C, c1, c2, c3, c4⟩ := lslab_s (a1 := a1) (n := 997) (i := 2) b2 (by rw [lb]; omega) (Or.inr (Or.inr (Or.inl ⟨rfl, rfl⟩))) ha (by rw [b3 a2 ha, a3' a2 ha]; exact hv 2 (by omega)) (hf 2 (by omega))
  have lc : ([32] ++ 116 :: dg (f 0) ++ 99 :: dg (f 1) ++ 115 :: dg (f 2)).length = 4 + (dg (f 0)).length + (dg (f 1)).length + (dg (f 2)).length := by simp; omega
  obtain ⟨D, e1, e2, e3, e4⟩ := lslab_s (a1 := a1) (n := 996) (i := 3) c2 (by rw [lc]; omega) (Or.inr (Or.inr (Or.inr ⟨rfl, rfl⟩))) ha (by rw [c3 a2 ha, b3 a2 ha, a3' a2 ha]; exact hv 3 (by omega)) (hf 3 (by omega))
  refine ⟨D, ?_, e2, fun q hq => by rw [e3 q hq, c3 q hq, b3 q hq, a3' q hq], by rw [e4, c4, b4, a4']⟩
  have a1' : f_L_slab_l19_7 a1 a2 FU (iN 1) (iN 0) G = f_L_slab_l19_7 a1 a2 999 (iN ([32] ++ 116 :: dg (f 0)).length) (iN 1) A := a1'
  rw [a1', b1, c1, e1]
  show f_L_slab_l19_7 a1 a2 (995 + 1) (iN (slT f).length) (iN 4) D = _
  generalize (slT f).length = m
  unfold f_L_slab_l19_7
  simp (disch := omega) only [chk_t, beq_self_eq_true, nm_s, bj1_s, bj2_s, bj3_s, mo_1, mo_0, l_0, l_1, l_2, l_3, l_4, l_5, l_6, l_7, l_8, l_9, l_10, l_11, l_12, l_13, l_14, l_15, l_16, l_17, l_18, l_19, l_20, l_21, l_24, l_30, l_31, l_32, l_36, l_40, l_41, l_42, l_43, l_44, l_45, l_46, l_47, l_48, l_49, l_50, l_51, l_52, l_57, l_58, l_60, l_61, l_64, l_72, l_80, l_92, l_98, l_99, l_100, l_102, l_105, l_111, l_112, l_114, l_115, l_116, l_117, l_120, l_144, l_200, l_201, l_240, l_300, l_320, l_400, l_500, l_512, l_550, l_560, l_649, l_650, l_1000, l_1032, l_1400, l_2000, l_4000, l_10000, l_268435455, iN_add, iN_sub, iN_mul, iN_le_t, iN_le_f, iN_lt_t, iN_lt_f, iN_eq_f, inb_iN, ix_iN, isZ_0, isZ_1, ↓reduceIte, eq_self]
/-! numbers read -/
theorem rd_step {a2 a3 : Int32} {n z p d v2 acc : Nat} {l r : List Nat} {G : G_} (h : TX z l G) (h39 : G.1 39 0 = iN p) (hd : l.drop p = (48 + d) :: r) (hd2 : d < 10) (hv : v2 < 2) (ha : acc < 100) : f_X3_readNumber_l16_5 69 a2 a3 (n + 1) (iN v2) (iN acc) G = f_X3_readNumber_l16_5 69 a2 a3 n (iN (v2 + 1)) (iN (10 * acc + d)) (sI G 39 0 (iN (p + 1))) := by
  obtain ⟨e1, e2, e3⟩ := gD_drop hd
  have hz := h.2.2.2.1
  have hl := h.2.2.1
  have hx := tval_c (p := p) h (by omega)
  rw [if_pos (by omega), e1] at hx
  have hw := in_1 (a := 48) (k := 48 + d) (b := 57) (by omega) (by omega)
  have e4 : 10 * acc + (48 + d) - 48 = 10 * acc + d := by omega
  conv => lhs; unfold f_X3_readNumber_l16_5
  simp (disch := omega) only [chk_t, beq_self_eq_true, nm_s, bj1_s, bj2_s, bj3_s, mo_1, mo_0, l_0, l_1, l_2, l_3, l_4, l_5, l_6, l_7, l_8, l_9, l_10, l_11, l_12, l_13, l_14, l_15, l_16, l_17, l_18, l_19, l_20, l_21, l_24, l_30, l_31, l_32, l_36, l_40, l_41, l_42, l_43, l_44, l_45, l_46, l_47, l_48, l_49, l_50, l_51, l_52, l_57, l_58, l_60, l_61, l_64, l_72, l_80, l_92, l_98, l_99, l_100, l_102, l_105, l_111, l_112, l_114, l_115, l_116, l_117, l_120, l_144, l_200, l_201, l_240, l_300, l_320, l_400, l_500, l_512, l_550, l_560, l_649, l_650, l_1000, l_1032, l_1400, l_2000, l_4000, l_10000, l_268435455, iN_add, iN_sub, iN_mul, iN_le_t, iN_le_f, iN_lt_t, iN_lt_f, iN_eq_f, inb_iN, ix_iN, isZ_0, isZ_1, ↓reduceIte, eq_self, h39, hx, hw, e4]
def noD (r : List Nat) : Prop := ∀ c r', r = c :: r' → c < 48 ∨ 57 < c
theorem rd_end {a2 a3 acc : Int32} {n z p v2 : Nat} {l r : List Nat} {G : G_} (h : TX z l G) (h39 : G.1 39 0 = iN p) (hp : p ≤ 100) (hd : l.drop p = r) (hr : noD r) (hv : v2 ≤ 2) : f_X3_readNumber_l16_5 69 a2 a3 (n + 1) (iN v2) acc G = some (iN v2, acc, G) := by
  have hx := tval_c (p := p) h (by omega)
  have hw : ∃ y, (if p < z then iN (l.getD p 32) else iN 1000) = iN y ∧ (y < 48 ∨ 57 < y) ∧ y < 2147483648 := by
    by_cases c : p < z
    · rw [if_pos c]
      cases r with
      | nil =>
        rw [gD_out l p (by have e := congrArg List.length hd; rw [List.length_drop] at e; have e : l.length - p = 0 := e; omega)]
        exact ⟨32, rfl, by omega, by omega⟩
      | cons c r' =>
        obtain ⟨e1, -, e3⟩ := gD_drop hd
        have hc : c < 128 := h.2.2.2.2 c (List.mem_of_mem_drop (i := p) (by rw [hd]; exact List.mem_cons_self))
        rw [e1]
        exact ⟨c, rfl, hr c r' rfl, by omega⟩
    · rw [if_neg c]
      exact ⟨1000, rfl, by omega, by omega⟩
  obtain ⟨y, hy, hy2, hy3⟩ := hw
  rw [hy] at hx
  have hw2 : f_X7_within (iN y) (iN 48) (iN 57) = some (iN 0) := by rw [in7, inS_f (by omega) (by omega) (by omega) hy3]
  conv => lhs; unfold f_X3_readNumber_l16_5
  by_cases c2 : 2 ≤ v2
  · simp (disch := omega) only [chk_t, beq_self_eq_true, nm_s, bj1_s, bj2_s, bj3_s, mo_1, mo_0, l_0, l_1, l_2, l_3, l_4, l_5, l_6, l_7, l_8, l_9, l_10, l_11, l_12, l_13, l_14, l_15, l_16, l_17, l_18, l_19, l_20, l_21, l_24, l_30, l_31, l_32, l_36, l_40, l_41, l_42, l_43, l_44, l_45, l_46, l_47, l_48, l_49, l_50, l_51, l_52, l_57, l_58, l_60, l_61, l_64, l_72, l_80, l_92, l_98, l_99, l_100, l_102, l_105, l_111, l_112, l_114, l_115, l_116, l_117, l_120, l_144, l_200, l_201, l_240, l_300, l_320, l_400, l_500, l_512, l_550, l_560, l_649, l_650, l_1000, l_1032, l_1400, l_2000, l_4000, l_10000, l_268435455, iN_add, iN_sub, iN_mul, iN_le_t, iN_le_f, iN_lt_t, iN_lt_f, iN_eq_f, inb_iN, ix_iN, isZ_0, isZ_1, ↓reduceIte, eq_self]
  · simp (disch := omega) only [chk_t, beq_self_eq_true, nm_s, bj1_s, bj2_s, bj3_s, mo_1, mo_0, l_0, l_1, l_2, l_3, l_4, l_5, l_6, l_7, l_8, l_9, l_10, l_11, l_12, l_13, l_14, l_15, l_16, l_17, l_18, l_19, l_20, l_21, l_24, l_30, l_31, l_32, l_36, l_40, l_41, l_42, l_43, l_44, l_45, l_46, l_47, l_48, l_49, l_50, l_51, l_52, l_57, l_58, l_60, l_61, l_64, l_72, l_80, l_92, l_98, l_99, l_100, l_102, l_105, l_111, l_112, l_114, l_115, l_116, l_117, l_120, l_144, l_200, l_201, l_240, l_300, l_320, l_400, l_500, l_512, l_550, l_560, l_649, l_650, l_1000, l_1032, l_1400, l_2000, l_4000, l_10000, l_268435455, iN_add, iN_sub, iN_mul, iN_le_t, iN_le_f, iN_lt_t, iN_lt_f, iN_eq_f, inb_iN, ix_iN, isZ_0, isZ_1, ↓reduceIte, eq_self, h39, hx, hw2]
/-- the second figure is the last one, whatever comes -/
theorem rd_two {a2 a3 acc : Int32} {n : Nat} {G : G_} : f_X3_readNumber_l16_5 69 a2 a3 (n + 1) (iN 2) acc G = some (iN 2, acc, G) := by
  conv => lhs; unfold f_X3_readNumber_l16_5
  simp (disch := omega) only [chk_t, beq_self_eq_true, nm_s, bj1_s, bj2_s, bj3_s, mo_1, mo_0, l_0, l_1, l_2, l_3, l_4, l_5, l_6, l_7, l_8, l_9, l_10, l_11, l_12, l_13, l_14, l_15, l_16, l_17, l_18, l_19, l_20, l_21, l_24, l_30, l_31, l_32, l_36, l_40, l_41, l_42, l_43, l_44, l_45, l_46, l_47, l_48, l_49, l_50, l_51, l_52, l_57, l_58, l_60, l_61, l_64, l_72, l_80, l_92, l_98, l_99, l_100, l_102, l_105, l_111, l_112, l_114, l_115, l_116, l_117, l_120, l_144, l_200, l_201, l_240, l_300, l_320, l_400, l_500, l_512, l_550, l_560, l_649, l_650, l_1000, l_1032, l_1400, l_2000, l_4000, l_10000, l_268435455, iN_add, iN_sub, iN_mul, iN_le_t, iN_le_f, iN_lt_t, iN_lt_f, iN_eq_f, inb_iN, ix_iN, isZ_0, isZ_1, ↓reduceIte, eq_self]
theorem rdnum_c {lo hi z p v : Nat} {l r : List Nat} {G : G_} (h : TX z l G) (h39 : G.1 39 0 = iN p) (hd : l.drop (p + 1) = dg v ++ r) (hr : noD r) (hv : lo ≤ v ∧ v ≤ hi) (hh : hi < 100) : f_X3_readNumber 69 (iN lo) (iN hi) G = some (iN v, sI G 39 0 (iN (p + 1 + (dg v).length))) := by
  have ho : kd 69 = 6 := rfl
  have hz := h.2.2.2.1
  have hl := h.2.2.1
  have hw := in_1 (a := lo) (k := v) (b := hi) hv (by omega)
  have hp : p + 1 < l.length := by
    rcases Nat.lt_or_ge (p + 1) l.length with q | q
    · exact q
    · rw [List.drop_eq_nil_of_le q] at hd
      have := dg_len v
      have e := congrArg List.length hd
      rw [List.length_append] at e
      have e : 0 = _ := e
      omega
  have h1 : TX z l (sI G 39 0 (iN (p + 1))) := TX_fr h (sI_p (by omega)) (sI_p (by omega))
  have eF : FU = 997 + 1 + 1 + 1 := rfl
  unfold f_X3_readNumber
  by_cases c : v < 10
  · have ed : dg v = [48 + v] := if_pos c
    rw [ed] at hd ⊢
    have hd : l.drop (p + 1) = (48 + v) :: r := hd
    have s1 := rd_step (a2 := iN lo) (a3 := iN hi) (n := 999) (v2 := 0) (acc := 0) h1 sI_eq hd c (by omega) (by omega)
    rw [show 10 * 0 + v = v by omega, sI_sI] at s1
    obtain ⟨-, hd2, -⟩ := gD_drop hd
    have h2 : TX z l (sI G 39 0 (iN (p + 1 + 1))) := TX_fr h (sI_p (by omega)) (sI_p (by omega))
    have s2 := rd_end (a2 := iN lo) (a3 := iN hi) (n := 998) (v2 := 0 + 1) (acc := iN v) h2 sI_eq (by omega) hd2 hr (by omega)
    have s3 : f_X3_readNumber_l16_5 69 (iN lo) (iN hi) FU (iN 0) (iN 0) (sI G 39 0 (iN (p + 1))) = some (iN 1, iN v, sI G 39 0 (iN (p + 1 + 1))) := s1.trans s2
    show _ = some (iN v, sI G 39 0 (iN (p + 1 + 1)))
    simp (disch := omega) only [chk_t, beq_self_eq_true, nm_s, bj1_s, bj2_s, bj3_s, mo_1, mo_0, l_0, l_1, l_2, l_3, l_4, l_5, l_6, l_7, l_8, l_9, l_10, l_11, l_12, l_13, l_14, l_15, l_16, l_17, l_18, l_19, l_20, l_21, l_24, l_30, l_31, l_32, l_36, l_40, l_41, l_42, l_43, l_44, l_45, l_46, l_47, l_48, l_49, l_50, l_51, l_52, l_57, l_58, l_60, l_61, l_64, l_72, l_80, l_92, l_98, l_99, l_100, l_102, l_105, l_111, l_112, l_114, l_115, l_116, l_117, l_120, l_144, l_200, l_201, l_240, l_300, l_320, l_400, l_500, l_512, l_550, l_560, l_649, l_650, l_1000, l_1032, l_1400, l_2000, l_4000, l_10000, l_268435455, iN_add, iN_sub, iN_mul, iN_le_t, iN_le_f, iN_lt_t, iN_lt_f, iN_eq_f, inb_iN, ix_iN, isZ_0, isZ_1, ↓reduceIte, eq_self, kd_b ho, h39, s3, hw]
  · have ed : dg v = [48 + v / 10, 48 + v % 10] := if_neg c
    rw [ed] at hd ⊢
    have hd : l.drop (p + 1) = (48 + v / 10) :: (48 + v % 10) :: r := hd
    have s1 := rd_step (a2 := iN lo) (a3 := iN hi) (n := 999) (v2 := 0) (acc := 0) h1 sI_eq hd (by omega) (by omega) (by omega)
    rw [show 10 * 0 + v / 10 = v / 10 by omega, sI_sI] at s1
    obtain ⟨-, hd2, hp2⟩ := gD_drop hd
    have h2 : TX z l (sI G 39 0 (iN (p + 1 + 1))) := TX_fr h (sI_p (by omega)) (sI_p (by omega))
    have s2 := rd_step (a2 := iN lo) (a3 := iN hi) (n := 998) (v2 := 0 + 1) (acc := v / 10) h2 sI_eq hd2 (by omega) (by omega) (by omega)
    rw [show 10 * (v / 10) + v % 10 = v by omega, sI_sI] at s2
    have s3 : f_X3_readNumber_l16_5 69 (iN lo) (iN hi) FU (iN 0) (iN 0) (sI G 39 0 (iN (p + 1))) = some (iN 2, iN v, sI G 39 0 (iN (p + 1 + 1 + 1))) := (s1.trans s2).trans rd_two
    show _ = some (iN v, sI G 39 0 (iN (p + 1 + 2)))
    simp (disch := omega) only [chk_t, beq_self_eq_true, nm_s, bj1_s, bj2_s, bj3_s, mo_1, mo_0, l_0, l_1, l_2, l_3, l_4, l_5, l_6, l_7, l_8, l_9, l_10, l_11, l_12, l_13, l_14, l_15, l_16, l_17, l_18, l_19, l_20, l_21, l_24, l_30, l_31, l_32, l_36, l_40, l_41, l_42, l_43, l_44, l_45, l_46, l_47, l_48, l_49, l_50, l_51, l_52, l_57, l_58, l_60, l_61, l_64, l_72, l_80, l_92, l_98, l_99, l_100, l_102, l_105, l_111, l_112, l_114, l_115, l_116, l_117, l_120, l_144, l_200, l_201, l_240, l_300, l_320, l_400, l_500, l_512, l_550, l_560, l_649, l_650, l_1000, l_1032, l_1400, l_2000, l_4000, l_10000, l_268435455, iN_add, iN_sub, iN_mul, iN_le_t, iN_le_f, iN_lt_t, iN_lt_f, iN_eq_f, inb_iN, ix_iN, isZ_0, isZ_1, ↓reduceIte, eq_self, kd_b ho, h39, s3, hw]
/-! a slab read -/
def itT (c j lo hi : Nat) : Prop := (c = 116 ∧ j = 1 ∧ lo = 3 ∧ hi = 20) ∨ (c = 99 ∧ j = 2 ∧ lo = 0 ∧ hi = 40) ∨ (c = 115 ∧ j = 3 ∧ lo = 0 ∧ hi = 60) ∨ (c = 102 ∧ j = 4 ∧ lo = 0 ∧ hi = 9)
theorem item_c {c j lo hi z p v : Nat} {l r : List Nat} {G : G_} (h : TX z l G) (h39 : G.1 39 0 = iN p) (hd : l.drop p = c :: (dg v ++ r)) (hr : noD r) (hi' : itT c j lo hi) (hv : lo ≤ v ∧ v ≤ hi) : f_X3_readItem 69 40 G = some (sI (sI G 39 0 (iN (p + 1 + (dg v).length))) 40 j (iN v)) := by
  obtain ⟨e1, e2, e3⟩ := gD_drop hd
  have hz := h.2.2.2.1
  have hl := h.2.2.1
  have ho : kd 69 = 6 := rfl
  have ho2 : kd 40 = 5 := rfl
  have hx := tval_c (p := p) h (by omega)
  rw [if_pos (by omega), e1] at hx
  have hh : hi < 100 := by
    unfold itT at hi'
    omega
  have hn := rdnum_c (lo := lo) (hi := hi) h h39 e2 hr hv hh
  unfold f_X3_readItem
  rcases hi' with ⟨rfl, rfl, rfl, rfl⟩ | ⟨rfl, rfl, rfl, rfl⟩ | ⟨rfl, rfl, rfl, rfl⟩ | ⟨rfl, rfl, rfl, rfl⟩
  · simp (disch := omega) only [chk_t, beq_self_eq_true, nm_s, bj1_s, bj2_s, bj3_s, mo_1, mo_0, l_0, l_1, l_2, l_3, l_4, l_5, l_6, l_7, l_8, l_9, l_10, l_11, l_12, l_13, l_14, l_15, l_16, l_17, l_18, l_19, l_20, l_21, l_24, l_30, l_31, l_32, l_36, l_40, l_41, l_42, l_43, l_44, l_45, l_46, l_47, l_48, l_49, l_50, l_51, l_52, l_57, l_58, l_60, l_61, l_64, l_72, l_80, l_92, l_98, l_99, l_100, l_102, l_105, l_111, l_112, l_114, l_115, l_116, l_117, l_120, l_144, l_200, l_201, l_240, l_300, l_320, l_400, l_500, l_512, l_550, l_560, l_649, l_650, l_1000, l_1032, l_1400, l_2000, l_4000, l_10000, l_268435455, iN_add, iN_sub, iN_mul, iN_le_t, iN_le_f, iN_lt_t, iN_lt_f, iN_eq_f, inb_iN, ix_iN, isZ_0, isZ_1, ↓reduceIte, eq_self, kd_b ho, kd_b ho2, h39, hx, hn]
  · simp (disch := omega) only [chk_t, beq_self_eq_true, nm_s, bj1_s, bj2_s, bj3_s, mo_1, mo_0, l_0, l_1, l_2, l_3, l_4, l_5, l_6, l_7, l_8, l_9, l_10, l_11, l_12, l_13, l_14, l_15, l_16, l_17, l_18, l_19, l_20, l_21, l_24, l_30, l_31, l_32, l_36, l_40, l_41, l_42, l_43, l_44, l_45, l_46, l_47, l_48, l_49, l_50, l_51, l_52, l_57, l_58, l_60, l_61, l_64, l_72, l_80, l_92, l_98, l_99, l_100, l_102, l_105, l_111, l_112, l_114, l_115, l_116, l_117, l_120, l_144, l_200, l_201, l_240, l_300, l_320, l_400, l_500, l_512, l_550, l_560, l_649, l_650, l_1000, l_1032, l_1400, l_2000, l_4000, l_10000, l_268435455, iN_add, iN_sub, iN_mul, iN_le_t, iN_le_f, iN_lt_t, iN_lt_f, iN_eq_f, inb_iN, ix_iN, isZ_0, isZ_1, ↓reduceIte, eq_self, kd_b ho, kd_b ho2, h39, hx, hn]
  · simp (disch := omega) only [chk_t, beq_self_eq_true, nm_s, bj1_s, bj2_s, bj3_s, mo_1, mo_0, l_0, l_1, l_2, l_3, l_4, l_5, l_6, l_7, l_8, l_9, l_10, l_11, l_12, l_13, l_14, l_15, l_16, l_17, l_18, l_19, l_20, l_21, l_24, l_30, l_31, l_32, l_36, l_40, l_41, l_42, l_43, l_44, l_45, l_46, l_47, l_48, l_49, l_50, l_51, l_52, l_57, l_58, l_60, l_61, l_64, l_72, l_80, l_92, l_98, l_99, l_100, l_102, l_105, l_111, l_112, l_114, l_115, l_116, l_117, l_120, l_144, l_200, l_201, l_240, l_300, l_320, l_400, l_500, l_512, l_550, l_560, l_649, l_650, l_1000, l_1032, l_1400, l_2000, l_4000, l_10000, l_268435455, iN_add, iN_sub, iN_mul, iN_le_t, iN_le_f, iN_lt_t, iN_lt_f, iN_eq_f, inb_iN, ix_iN, isZ_0, isZ_1, ↓reduceIte, eq_self, kd_b ho, kd_b ho2, h39, hx, hn]
  · simp (disch := omega) only [chk_t, beq_self_eq_true, nm_s, bj1_s, bj2_s, bj3_s, mo_1, mo_0, l_0, l_1, l_2, l_3, l_4, l_5, l_6, l_7, l_8, l_9, l_10, l_11, l_12, l_13, l_14, l_15, l_16, l_17, l_18, l_19, l_20, l_21, l_24, l_30, l_31, l_32, l_36, l_40, l_41, l_42, l_43, l_44, l_45, l_46, l_47, l_48, l_49, l_50, l_51, l_52, l_57, l_58, l_60, l_61, l_64, l_72, l_80, l_92, l_98, l_99, l_100, l_102, l_105, l_111, l_112, l_114, l_115, l_116, l_117, l_120, l_144, l_200, l_201, l_240, l_300, l_320, l_400, l_500, l_512, l_550, l_560, l_649, l_650, l_1000, l_1032, l_1400, l_2000, l_4000, l_10000, l_268435455, iN_add, iN_sub, iN_mul, iN_le_t, iN_le_f, iN_lt_t, iN_lt_f, iN_eq_f, inb_iN, ix_iN, isZ_0, isZ_1, ↓reduceIte, eq_self, kd_b ho, kd_b ho2, h39, hx, hn]
theorem skip_c {z p m : Nat} {l : List Nat} {G : G_} (h : TX z l G) (h39 : G.1 39 0 = iN p) (hm : p + m ≤ z) (h1 : ∀ i, i < m → l.getD (p + i) 32 = 32) (h2 : p + m < z → l.getD (p + m) 32 ≠ 32) : f_X3_skipBlanks 69 G = some (sI G 39 0 (iN (p + m))) := by
  have hz := h.2.2.2.1
  refine cskip (t := 3) (by omega) hz (TX_c h) h39 hm (fun i hi => by show iN (l.getD (p + i) 32) = _; rw [h1 i hi]) (fun e => ?_)
  obtain ⟨e1, e2⟩ := e
  have e2 : iN (l.getD (p + m) 32) = iN 32 := e2
  have hc : l.getD (p + m) 32 < 128 := by
    rw [List.getD_eq_getElem?_getD]
    cases e3 : l[p + m]? with
    | none => show 32 < 128; omega
    | some x => exact h.2.2.2.2 x (List.mem_of_getElem? e3)
  exact h2 e1 ((iN_inj (by omega) (by omega)).mp e2)
/-- one item more -/
theorem sl_step {c j lo hi z p v n w m : Nat} {l r : List Nat} {G : G_} (h : TX z l G) (h39 : G.1 39 0 = iN p) (h9 : G.1 39 1 = -iN 9) (hm : ∀ i, i < m → l.getD (p + i) 32 = 32) (hd : l.drop (p + m) = c :: (dg v ++ r)) (hr : noD r) (hi' : itT c j lo hi) (hv : lo ≤ v ∧ v ≤ hi) (hw : w ≤ 80) : ∃ A, f_X3_readSlab_l17_7 69 40 (n + 1) (iN w) G = f_X3_readSlab_l17_7 69 40 n (iN (w + 1)) A ∧ TX z l A ∧ A.1 39 0 = iN (p + m + 1 + (dg v).length) ∧ A.1 39 1 = -iN 9 ∧ A.1 40 j = iN v ∧ (∀ i, i ≠ j → A.1 40 i = G.1 40 i) ∧ (∀ q, q ≠ 39 → q ≠ 40 → A.1 q = G.1 q) ∧ A.2 = G.2 := by
  obtain ⟨e1, e2, e3⟩ := gD_drop hd
  have hz := h.2.2.2.1
  have hl := h.2.2.1
  have hs := skip_c (m := m) h h39 (by omega) hm (fun _ => by rw [e1]; unfold itT at hi'; omega)
  have h1 : TX z l (sI G 39 0 (iN (p + m))) := TX_fr h (sI_p (by omega)) (sI_p (by omega))
  have ht := item_c h1 sI_eq hd hr hi' hv
  rw [sI_sI] at ht
  have h69 : G.1 69 1 = iN z := h.1
  refine ⟨sI (sI G 39 0 (iN (p + m + 1 + (dg v).length))) 40 j (iN v), ?_, TX_fr h (by rw [sI_p (by omega), sI_p (by omega)]) (by rw [sI_p (by omega), sI_p (by omega)]), by rw [sI_p (by omega), sI_eq], by rw [sI_p (by omega), sI_j (by omega)]; exact h9, sI_eq, fun i hi => by rw [sI_j hi, sI_p (by omega)], fun q q1 q2 => by rw [sI_p q2, sI_p q1], rfl⟩
  conv => lhs; unfold f_X3_readSlab_l17_7
  have x1 : (sI G 39 0 (iN (p + m))).1 39 0 = iN (p + m) := sI_eq
  have x2 : (sI G 39 0 (iN (p + m))).1 69 1 = iN z := by rw [sI_p (by omega)]; exact h69
  have x3 : (sI (sI G 39 0 (iN (p + m + 1 + (dg v).length))) 40 j (iN v)).1 39 1 = -iN 9 := by rw [sI_p (by omega), sI_j (by omega)]; exact h9
  simp (disch := omega) only [chk_t, beq_self_eq_true, nm_s, bj1_s, bj2_s, bj3_s, mo_1, mo_0, l_0, l_1, l_2, l_3, l_4, l_5, l_6, l_7, l_8, l_9, l_10, l_11, l_12, l_13, l_14, l_15, l_16, l_17, l_18, l_19, l_20, l_21, l_24, l_30, l_31, l_32, l_36, l_40, l_41, l_42, l_43, l_44, l_45, l_46, l_47, l_48, l_49, l_50, l_51, l_52, l_57, l_58, l_60, l_61, l_64, l_72, l_80, l_92, l_98, l_99, l_100, l_102, l_105, l_111, l_112, l_114, l_115, l_116, l_117, l_120, l_144, l_200, l_201, l_240, l_300, l_320, l_400, l_500, l_512, l_550, l_560, l_649, l_650, l_1000, l_1032, l_1400, l_2000, l_4000, l_10000, l_268435455, iN_add, iN_sub, iN_mul, iN_le_t, iN_le_f, iN_lt_t, iN_lt_f, iN_eq_f, inb_iN, ix_iN, isZ_0, isZ_1, ↓reduceIte, eq_self, hs, x1, x2, ht, x3]
theorem sl_end {z p n w : Nat} {l : List Nat} {G : G_} (h : TX z l G) (h39 : G.1 39 0 = iN p) (hp : l.length ≤ p) (hp2 : p ≤ z) (hw : w ≤ 80) : f_X3_readSlab_l17_7 69 40 (n + 1) (iN w) G = some (iN w, sI G 39 0 (iN z)) := by
  have hz := h.2.2.2.1
  have hs := skip_c (m := z - p) h h39 (by omega) (fun i hi => gD_out _ _ (by omega)) (fun e => by omega)
  rw [show p + (z - p) = z by omega] at hs
  have x1 : (sI G 39 0 (iN z)).1 39 0 = iN z := sI_eq
  have x2 : (sI G 39 0 (iN z)).1 69 1 = iN z := by rw [sI_p (by omega)]; exact h.1
  conv => lhs; unfold f_X3_readSlab_l17_7
  simp (disch := omega) only [chk_t, beq_self_eq_true, nm_s, bj1_s, bj2_s, bj3_s, mo_1, mo_0, l_0, l_1, l_2, l_3, l_4, l_5, l_6, l_7, l_8, l_9, l_10, l_11, l_12, l_13, l_14, l_15, l_16, l_17, l_18, l_19, l_20, l_21, l_24, l_30, l_31, l_32, l_36, l_40, l_41, l_42, l_43, l_44, l_45, l_46, l_47, l_48, l_49, l_50, l_51, l_52, l_57, l_58, l_60, l_61, l_64, l_72, l_80, l_92, l_98, l_99, l_100, l_102, l_105, l_111, l_112, l_114, l_115, l_116, l_117, l_120, l_144, l_200, l_201, l_240, l_300, l_320, l_400, l_500, l_512, l_550, l_560, l_649, l_650, l_1000, l_1032, l_1400, l_2000, l_4000, l_10000, l_268435455, iN_add, iN_sub, iN_mul, iN_le_t, iN_le_f, iN_lt_t, iN_lt_f, iN_eq_f, inb_iN, ix_iN, isZ_0, isZ_1, ↓reduceIte, eq_self, hs, x1, x2]
theorem noD_nil : noD [] := fun c r' e => by cases e
theorem noD_c {c : Nat} {r : List Nat} (h : c < 48 ∨ 57 < c) : noD (c :: r) := fun c' r' e => by
  injection e with e1 e2
  rw [← e1]
  exact h
def slOK (f : Nat → Nat) : Prop := 3 ≤ f 0 ∧ f 0 ≤ 20 ∧ f 1 ≤ 40 ∧ f 2 ≤ 60 ∧ f 3 ≤ 9
theorem rdslab_c {f : Nat → Nat} {G : G_} (h : TX 24 (slT f) G) (hf : slOK f) : ∃ A, f_X3_readSlab 69 40 G = some (iN 4, A) ∧ A.1 39 1 = -iN 9 ∧ A.1 40 0 = iN 1 ∧ (∀ j, j < 4 → A.1 40 (j + 1) = iN (f j)) ∧ (∀ q, q ≠ 39 → q ≠ 40 → A.1 q = G.1 q) ∧ A.2 = G.2 := by
  obtain ⟨f0, f0', f1, f2, f3⟩ := hf
  have ho : kd 69 = 6 := rfl
  have ho2 : kd 40 = 5 := rfl
  have d0 := dg_len (f 0)
  have d1 := dg_len (f 1)
  have d2 := dg_len (f 2)
  have d3 := dg_len (f 3)
  obtain ⟨S, hS⟩ : ∃ S, S = sI (sI (sI (sI (sI (sI (sI G 39 0 (iN 0)) 39 1 (-iN 9)) 40 0 (iN 1)) 40 1 (iN 10)) 40 2 (iN 5)) 40 3 (iN 0)) 40 4 (iN 2) := ⟨_, rfl⟩
  have hq : ∀ q, q ≠ 39 → q ≠ 40 → S.1 q = G.1 q := fun q q1 q2 => by rw [hS, sI_p q2, sI_p q2, sI_p q2, sI_p q2, sI_p q2, sI_p q1, sI_p q1]
  have hT : TX 24 (slT f) S := TX_fr h (hq 69 (by omega) (by omega)) (hq 70 (by omega) (by omega))
  have s0 : S.1 39 0 = iN 0 := by
    rw [hS]
    simp (disch := omega) only [chk_t, beq_self_eq_true, nm_s, bj1_s, bj2_s, bj3_s, mo_1, mo_0, l_0, l_1, l_2, l_3, l_4, l_5, l_6, l_7, l_8, l_9, l_10, l_11, l_12, l_13, l_14, l_15, l_16, l_17, l_18, l_19, l_20, l_21, l_24, l_30, l_31, l_32, l_36, l_40, l_41, l_42, l_43, l_44, l_45, l_46, l_47, l_48, l_49, l_50, l_51, l_52, l_57, l_58, l_60, l_61, l_64, l_72, l_80, l_92, l_98, l_99, l_100, l_102, l_105, l_111, l_112, l_114, l_115, l_116, l_117, l_120, l_144, l_200, l_201, l_240, l_300, l_320, l_400, l_500, l_512, l_550, l_560, l_649, l_650, l_1000, l_1032, l_1400, l_2000, l_4000, l_10000, l_268435455, iN_add, iN_sub, iN_mul, iN_le_t, iN_le_f, iN_lt_t, iN_lt_f, iN_eq_f, inb_iN, ix_iN, isZ_0, isZ_1, ↓reduceIte, eq_self, sI_p, sI_j, sI_eq]
  have s1 : S.1 39 1 = -iN 9 := by
    rw [hS]
    simp (disch := omega) only [chk_t, beq_self_eq_true, nm_s, bj1_s, bj2_s, bj3_s, mo_1, mo_0, l_0, l_1, l_2, l_3, l_4, l_5, l_6, l_7, l_8, l_9, l_10, l_11, l_12, l_13, l_14, l_15, l_16, l_17, l_18, l_19, l_20, l_21, l_24, l_30, l_31, l_32, l_36, l_40, l_41, l_42, l_43, l_44, l_45, l_46, l_47, l_48, l_49, l_50, l_51, l_52, l_57, l_58, l_60, l_61, l_64, l_72, l_80, l_92, l_98, l_99, l_100, l_102, l_105, l_111, l_112, l_114, l_115, l_116, l_117, l_120, l_144, l_200, l_201, l_240, l_300, l_320, l_400, l_500, l_512, l_550, l_560, l_649, l_650, l_1000, l_1032, l_1400, l_2000, l_4000, l_10000, l_268435455, iN_add, iN_sub, iN_mul, iN_le_t, iN_le_f, iN_lt_t, iN_lt_f, iN_eq_f, inb_iN, ix_iN, isZ_0, isZ_1, ↓reduceIte, eq_self, sI_p, sI_j, sI_eq]
  have s2 : S.1 40 0 = iN 1 := by
    rw [hS]
    simp (disch := omega) only [chk_t, beq_self_eq_true, nm_s, bj1_s, bj2_s, bj3_s, mo_1, mo_0, l_0, l_1, l_2, l_3, l_4, l_5, l_6, l_7, l_8, l_9, l_10, l_11, l_12, l_13, l_14, l_15, l_16, l_17, l_18, l_19, l_20, l_21, l_24, l_30, l_31, l_32, l_36, l_40, l_41, l_42, l_43, l_44, l_45, l_46, l_47, l_48, l_49, l_50, l_51, l_52, l_57, l_58, l_60, l_61, l_64, l_72, l_80, l_92, l_98, l_99, l_100, l_102, l_105, l_111, l_112, l_114, l_115, l_116, l_117, l_120, l_144, l_200, l_201, l_240, l_300, l_320, l_400, l_500, l_512, l_550, l_560, l_649, l_650, l_1000, l_1032, l_1400, l_2000, l_4000, l_10000, l_268435455, iN_add, iN_sub, iN_mul, iN_le_t, iN_le_f, iN_lt_t, iN_lt_f, iN_eq_f, inb_iN, ix_iN, isZ_0, isZ_1, ↓reduceIte, eq_self, sI_p, sI_j, sI_eq]
  have s3 : S.2 = G.2 := by rw [hS]; rfl
  have l0 : slT f = 32 :: 116 :: (dg (f 0) ++ (99 :: (dg (f 1) ++ (115 :: (dg (f 2) ++ (102 :: (dg (f 3) ++ []))))))) := by
    unfold slT
    simp only [List.append_assoc, List.cons_append, List.nil_append, List.append_nil]
  have D0 : (slT f).drop (0 + 1) = 116 :: (dg (f 0) ++ (99 :: (dg (f 1) ++ (115 :: (dg (f 2) ++ (102 :: (dg (f 3) ++ []))))))) := by rw [l0]; rfl
  have hb : ∀ i, i < 1 → (slT f).getD (0 + i) 32 = 32 := fun i hi => by
    rw [show i = 0 by omega, l0]
    rfl
  obtain ⟨A, a1, a2, a3, a4, a5, a6, a7, a8⟩ := sl_step (n := 999) (w := 0) hT s0 s1 hb D0 (noD_c (by omega)) (j := 1) (lo := 3) (hi := 20) (Or.inl ⟨rfl, rfl, rfl, rfl⟩) (by omega) (by omega)
  have dr : ∀ (p : Nat) (c v : Nat) (r : List Nat), (slT f).drop p = c :: (dg v ++ r) → (slT f).drop (p + 1 + (dg v).length + 0) = r := by
    intro p c v r e
    obtain ⟨-, e2, -⟩ := gD_drop e
    rw [Nat.add_zero, ← List.drop_drop, e2, List.drop_left]
  have D1 := dr _ _ _ _ D0
  obtain ⟨B, b1, b2, b3, b4, b5, b6, b7, b8⟩ := sl_step (n := 998) (w := 0 + 1) (m := 0) a2 a3 a4 (fun i hi => by omega) D1 (noD_c (by omega)) (j := 2) (lo := 0) (hi := 40) (Or.inr (Or.inl ⟨rfl, rfl, rfl, rfl⟩)) (by omega) (by omega)
  have D2 := dr _ _ _ _ D1
  obtain ⟨C, c1, c2, c3, c4, c5, c6, c7, c8⟩ := sl_step (n := 997) (w := 0 + 1 + 1) (m := 0) b2 b3 b4 (fun i hi => by omega) D2 (noD_c (by omega)) (j := 3) (lo := 0) (hi := 60) (Or.inr (Or.inr (Or.inl ⟨rfl, rfl, rfl, rfl⟩))) (by omega) (by omega)
  have D3 := dr _ _ _ _ D2
  obtain ⟨E, e1, e2, e3, e4, e5, e6, e7, e8⟩ := sl_step (n := 996) (w := 0 + 1 + 1 + 1) (m := 0) c2 c3 c4 (fun i hi => by omega) D3 noD_nil (j := 4) (lo := 0) (hi := 9) (Or.inr (Or.inr (Or.inr ⟨rfl, rfl, rfl, rfl⟩))) (by omega) (by omega)
  have ll : (slT f).length = 5 + (dg (f 0)).length + (dg (f 1)).length + (dg (f 2)).length + (dg (f 3)).length := by
    rw [l0]
    simp
    omega
  have fin := sl_end (n := 995) (w := 0 + 1 + 1 + 1 + 1) e2 e3 (by omega) (by omega) (by omega)
  have key : f_X3_readSlab_l17_7 69 40 FU (iN 0) S = some (iN 4, sI E 39 0 (iN 24)) := a1.trans (b1.trans (c1.trans (e1.trans fin)))
  refine ⟨sI E 39 0 (iN 24), ?_, by rw [sI_j (by omega)]; exact e4, ?_, fun j hj => ?_, fun q q1 q2 => ?_, ?_⟩
  · unfold f_X3_readSlab f_X5_begin
    simp (disch := omega) only [chk_t, beq_self_eq_true, nm_s, bj1_s, bj2_s, bj3_s, mo_1, mo_0, l_0, l_1, l_2, l_3, l_4, l_5, l_6, l_7, l_8, l_9, l_10, l_11, l_12, l_13, l_14, l_15, l_16, l_17, l_18, l_19, l_20, l_21, l_24, l_30, l_31, l_32, l_36, l_40, l_41, l_42, l_43, l_44, l_45, l_46, l_47, l_48, l_49, l_50, l_51, l_52, l_57, l_58, l_60, l_61, l_64, l_72, l_80, l_92, l_98, l_99, l_100, l_102, l_105, l_111, l_112, l_114, l_115, l_116, l_117, l_120, l_144, l_200, l_201, l_240, l_300, l_320, l_400, l_500, l_512, l_550, l_560, l_649, l_650, l_1000, l_1032, l_1400, l_2000, l_4000, l_10000, l_268435455, iN_add, iN_sub, iN_mul, iN_le_t, iN_le_f, iN_lt_t, iN_lt_f, iN_eq_f, inb_iN, ix_iN, isZ_0, isZ_1, ↓reduceIte, eq_self, kd_b ho, kd_b ho2, ← hS, key]
  · rw [sI_p (by omega), e6 0 (by omega), c6 0 (by omega), b6 0 (by omega), a6 0 (by omega)]
    exact s2
  · rw [sI_p (by omega)]
    have : j = 0 ∨ j = 1 ∨ j = 2 ∨ j = 3 := by omega
    rcases this with rfl | rfl | rfl | rfl
    · rw [e6 _ (by omega), c6 _ (by omega), b6 _ (by omega)]; exact a5
    · rw [e6 _ (by omega), c6 _ (by omega)]; exact b5
    · rw [e6 _ (by omega)]; exact c5
    · exact e5
  · rw [sI_p q1, e7 q q1 q2, c7 q q1 q2, b7 q q1 q2, a7 q q1 q2, hq q q1 q2]
  · show E.2 = G.2
    rw [e8, c8, b8, a8, s3]
/-- the law's slab(): written, read -/
theorem slab_c {k a2 : Nat} {f : Nat → Nat} {G : G_} (hk : k < 4) (ha : 124 ≤ a2) (hv : ∀ i, i < 4 → G.1 a2 i = iN (f i)) (hf : slOK f) : ∃ A, f_L_slab (iN k) a2 G = some (iN 1, A) ∧ A.1 69 1 = iN 24 ∧ A.1 (71 + k) 0 = iN 1 ∧ (∀ j, j < 4 → A.1 (71 + k) (j + 1) = iN (f j)) ∧ (∀ q, q ≠ 39 → q ≠ 40 → q ≠ 69 → q ≠ 70 → q ≠ 71 + k → A.1 q = G.1 q) ∧ A.2 = G.2 := by
  obtain ⟨A, a1, a2', a3, a4⟩ := text_c (z := 24) (G := G) (by omega)
  have hf' := hf
  obtain ⟨f0, f0', f1, f2, f3⟩ := hf
  obtain ⟨B, b1, b2, b3, b4⟩ := lslab_w (a1 := iN k) (a2 := a2) (f := f) a2' (by omega) (fun i hi => by rw [a3 a2 (by omega) (by omega)]; exact hv i hi) (fun i hi => by
    have : i = 0 ∨ i = 1 ∨ i = 2 ∨ i = 3 := by omega
    rcases this with rfl | rfl | rfl | rfl <;> omega)
  obtain ⟨C, c1, c2, c3, c4, c5, c6⟩ := rdslab_c b2 hf'
  have hTC : TX 24 (slT f) C := TX_fr b2 (c5 69 (by omega) (by omega)) (c5 70 (by omega) (by omega))
  obtain ⟨D, d1, d2, d3, d4, d5, d6⟩ := rdslab_c hTC hf'
  obtain ⟨q1, ho⟩ := slabAt_t hk C
  obtain ⟨E, e1, e2, e3, e4, e5⟩ := become5 (o := 71 + k) (G := D) ho (by omega) d3
  have o69 : kd 69 = 6 := rfl
  have tC : f_X7_textAt (iN 3) C = some (some 69) := (textAt_t (k := 3) (by omega) C).1
  have tB : f_X7_textAt (iN 3) B = some (some 69) := (textAt_t (k := 3) (by omega) B).1
  have hB := tthere_t o69 b2.1 (by omega)
  have hC := tthere_t o69 hTC.1 (by omega)
  have ll : 1 ≤ (slT f).length ∧ (slT f).length ≤ 80 := ⟨by unfold slT; simp, by have := b2.2.2.1; omega⟩
  refine ⟨E, ?_, ?_, e2, fun j hj => by rw [e3 j hj]; exact d4 j hj, fun q g1 g2 g3 g4 g5 => by rw [e4 q g5, d5 q g1 g2, c5 q g1 g2, b3 q g4, a3 q g3 g4], by rw [e5, d6, c6, b4, a4]⟩
  · generalize (slT f).length = m at *
    unfold f_L_slab f_X7_fault f_X7_slab
    simp (maxSteps := 4000000) (disch := omega) only [chk_t, beq_self_eq_true, nm_s, bj1_s, bj2_s, bj3_s, mo_1, mo_0, l_0, l_1, l_2, l_3, l_4, l_5, l_6, l_7, l_8, l_9, l_10, l_11, l_12, l_13, l_14, l_15, l_16, l_17, l_18, l_19, l_20, l_21, l_24, l_30, l_31, l_32, l_36, l_40, l_41, l_42, l_43, l_44, l_45, l_46, l_47, l_48, l_49, l_50, l_51, l_52, l_57, l_58, l_60, l_61, l_64, l_72, l_80, l_92, l_98, l_99, l_100, l_102, l_105, l_111, l_112, l_114, l_115, l_116, l_117, l_120, l_144, l_200, l_201, l_240, l_300, l_320, l_400, l_500, l_512, l_550, l_560, l_649, l_650, l_1000, l_1032, l_1400, l_2000, l_4000, l_10000, l_268435455, iN_add, iN_sub, iN_mul, iN_le_t, iN_le_f, iN_lt_t, iN_lt_f, iN_eq_f, inb_iN, ix_iN, isZ_0, isZ_1, ↓reduceIte, eq_self, a1, b1, tB, kd_b o69, hB, c1, c2, q1, tC, kd_b ho, hC, d1, d2, e1]
  · rw [e4 69 (by omega)]
    have : D.1 69 1 = iN 24 := by rw [d5 69 (by omega) (by omega)]; exact hTC.1
    exact this

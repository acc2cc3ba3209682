/-! the law: every call answers alike, so the run ends with 1 -/
theorem ex_ite {c : Prop} [Decidable c] {A B : Option Int32} {R : G_ → Option Int32} (h1 : ∃ G', RR G' ∧ A = R G') (h2 : ∃ G', RR G' ∧ B = R G') : ∃ G', RR G' ∧ (if c then A else B) = R G' := by
  split
  · exact h1
  · exact h2
theorem fin2 {c m : G_ → Option (Int32 × G_)} {G : G_} (R : G_ → Option Int32) (h : pOK c m G) : ∃ G', RR G' ∧ (bj2 (c G) fun x A => bj2 (m A) fun y B => if x = y then R B else some 0) = R G' := by
  obtain ⟨x, A, B, h1, h2, h3⟩ := h
  refine ⟨B, h3, ?_⟩
  rw [h1, bj2_s, h2, bj2_s, if_pos rfl]
theorem lg_self (x : Int64) : lg_cmp x x = 0 := (lgc_0 x x).mpr rfl
def nxt (L : Nat) (xs : Nat → Int32) (n : Nat) (v : Int32) (G : G_) : Option Int32 := f_L_law L xs n (v + 7) G
set_option maxHeartbeats 4000000 in
theorem law_step {L n : Nat} {xs : Nat → Int32} {v : Int32} {G : G_} (h : RR G) (hs : ¬ (Int32.ofNat L) - 7 < v) (c0 : inb v L = true) (c1 : inb (v + 1) L = true) (c2 : inb (v + 2) L = true) (c3 : inb (v + 3) L = true) (c4 : inb (v + 4) L = true) (c5 : inb (v + 5) L = true) (c6 : inb (v + 6) L = true) : ∃ G', RR G' ∧ f_L_law L xs (n + 1) v G = nxt L xs n v G' := by
  unfold f_L_law
  rw [if_neg hs, c0, chk_t]
  refine ex_ite ?_ ?_
  · simp only [c1, c2, chk_t]
    exact fin2 (c := f_X7_row (xs (ix (v + 1))) (xs (ix (v + 2)))) (m := f_X8_row (xs (ix (v + 1))) (xs (ix (v + 2)))) (fun G' => f_L_law L xs n (v + 7) G') (op_row (xs (ix (v + 1))) (xs (ix (v + 2))) h)
  refine ex_ite ?_ ?_
  · simp only [c1, c2, c3, chk_t]
    exact fin2 (c := f_X7_lay (xs (ix (v + 1))) (xs (ix (v + 2))) (xs (ix (v + 3)))) (m := f_X8_lay (xs (ix (v + 1))) (xs (ix (v + 2))) (xs (ix (v + 3)))) (fun G' => f_L_law L xs n (v + 7) G') (op_lay (xs (ix (v + 1))) (xs (ix (v + 2))) (xs (ix (v + 3))) h)
  refine ex_ite ?_ ?_
  · simp only [c1, c2, chk_t]
    exact fin2 (c := f_X7_at (xs (ix (v + 1))) (xs (ix (v + 2)))) (m := f_X8_at (xs (ix (v + 1))) (xs (ix (v + 2)))) (fun G' => f_L_law L xs n (v + 7) G') (op_at (xs (ix (v + 1))) (xs (ix (v + 2))) h)
  refine ex_ite ?_ ?_
  · simp only [c1, chk_t]
    exact fin2 (c := f_X7_tear (xs (ix (v + 1)))) (m := f_X8_tear (xs (ix (v + 1)))) (fun G' => f_L_law L xs n (v + 7) G') (op_tear (xs (ix (v + 1))) h)
  refine ex_ite ?_ ?_
  · simp only [c1, c2, c3, c4, c5, chk_t]
    exact fin2 (c := f_X7_copy (xs (ix (v + 1))) (xs (ix (v + 2))) (xs (ix (v + 3))) (xs (ix (v + 4))) (xs (ix (v + 5)))) (m := f_X8_copy (xs (ix (v + 1))) (xs (ix (v + 2))) (xs (ix (v + 3))) (xs (ix (v + 4))) (xs (ix (v + 5)))) (fun G' => f_L_law L xs n (v + 7) G') (op_copy (xs (ix (v + 1))) (xs (ix (v + 2))) (xs (ix (v + 3))) (xs (ix (v + 4))) (xs (ix (v + 5))) h)
  refine ex_ite ?_ ?_
  · simp only [c1, chk_t]
    exact fin2 (c := f_X7_mean (xs (ix (v + 1)))) (m := f_X8_mean (xs (ix (v + 1)))) (fun G' => f_L_law L xs n (v + 7) G') (op_mean (xs (ix (v + 1))) h)
  refine ex_ite ?_ ?_
  · simp only [c1, c2, chk_t]
    exact fin2 (c := f_X7_text (xs (ix (v + 1))) (xs (ix (v + 2)))) (m := f_X8_text (xs (ix (v + 1))) (xs (ix (v + 2)))) (fun G' => f_L_law L xs n (v + 7) G') (op_text (xs (ix (v + 1))) (xs (ix (v + 2))) h)
  refine ex_ite ?_ ?_
  · simp only [c1, c2, c3, chk_t]
    exact fin2 (c := f_X7_put (xs (ix (v + 1))) (xs (ix (v + 2))) (xs (ix (v + 3)))) (m := f_X8_put (xs (ix (v + 1))) (xs (ix (v + 2))) (xs (ix (v + 3)))) (fun G' => f_L_law L xs n (v + 7) G') (op_put (xs (ix (v + 1))) (xs (ix (v + 2))) (xs (ix (v + 3))) h)
  refine ex_ite ?_ ?_
  · simp only [c1, c2, chk_t]
    by_cases e : xs (ix (v + 2)) = 0
    · simp only [if_pos e, bj1_s]
      exact fin2 (c := f_X7_fault (xs (ix (v + 1))) 0) (m := f_X8_fault (xs (ix (v + 1))) 0) (fun G' => f_L_law L xs n (v + 7) G') (op_fault (xs (ix (v + 1))) 0 h)
    · simp only [if_neg e, bj1_s]
      exact fin2 (c := f_X7_fault (xs (ix (v + 1))) 1) (m := f_X8_fault (xs (ix (v + 1))) 1) (fun G' => f_L_law L xs n (v + 7) G') (op_fault (xs (ix (v + 1))) 1 h)
  refine ex_ite ?_ ?_
  · simp only [c1, c2, chk_t]
    exact fin2 (c := f_X7_slab (xs (ix (v + 1))) (xs (ix (v + 2)))) (m := f_X8_slab (xs (ix (v + 1))) (xs (ix (v + 2)))) (fun G' => f_L_law L xs n (v + 7) G') (op_slab (xs (ix (v + 1))) (xs (ix (v + 2))) h)
  refine ex_ite ?_ ?_
  · simp only [c1, c2, chk_t]
    exact fin2 (c := f_X7_plan (xs (ix (v + 1))) (xs (ix (v + 2)))) (m := f_X8_plan (xs (ix (v + 1))) (xs (ix (v + 2)))) (fun G' => f_L_law L xs n (v + 7) G') (op_plan (xs (ix (v + 1))) (xs (ix (v + 2))) h)
  refine ex_ite ?_ ?_
  · simp only [c1, c2, chk_t]
    exact fin2 (c := f_X7_about (xs (ix (v + 1))) (xs (ix (v + 2)))) (m := f_X8_about (xs (ix (v + 1))) (xs (ix (v + 2)))) (fun G' => f_L_law L xs n (v + 7) G') (op_about (xs (ix (v + 1))) (xs (ix (v + 2))) h)
  refine ex_ite ?_ ?_
  · simp only [c1, c2, chk_t]
    exact fin2 (c := f_X7_step (xs (ix (v + 1))) (xs (ix (v + 2)))) (m := f_X8_step (xs (ix (v + 1))) (xs (ix (v + 2)))) (fun G' => f_L_law L xs n (v + 7) G') (op_step (xs (ix (v + 1))) (xs (ix (v + 2))) h)
  refine ex_ite ?_ ?_
  · simp only [c1, c2, chk_t]
    exact fin2 (c := f_X7_dish (xs (ix (v + 1))) (xs (ix (v + 2)))) (m := f_X8_dish (xs (ix (v + 1))) (xs (ix (v + 2)))) (fun G' => f_L_law L xs n (v + 7) G') (op_dish (xs (ix (v + 1))) (xs (ix (v + 2))) h)
  refine ex_ite ?_ ?_
  · simp only [c1, chk_t]
    exact fin2 (c := f_X7_go (xs (ix (v + 1)))) (m := f_X8_go (xs (ix (v + 1)))) (fun G' => f_L_law L xs n (v + 7) G') (op_go (xs (ix (v + 1))) h)
  refine ex_ite ?_ ?_
  · simp only [c1, c2, chk_t]
    exact fin2 (c := f_X7_depth (xs (ix (v + 1))) (xs (ix (v + 2)))) (m := f_X8_depth (xs (ix (v + 1))) (xs (ix (v + 2)))) (fun G' => f_L_law L xs n (v + 7) G') (op_depth (xs (ix (v + 1))) (xs (ix (v + 2))) h)
  refine ex_ite ?_ ?_
  · simp only [c1, c2, chk_t]
    exact fin2 (c := f_X7_skin (xs (ix (v + 1))) (xs (ix (v + 2)))) (m := f_X8_skin (xs (ix (v + 1))) (xs (ix (v + 2)))) (fun G' => f_L_law L xs n (v + 7) G') (op_skin (xs (ix (v + 1))) (xs (ix (v + 2))) h)
  refine ex_ite ?_ ?_
  · simp only [c1, c2, chk_t]
    exact fin2 (c := f_X7_mark (xs (ix (v + 1))) (xs (ix (v + 2)))) (m := f_X8_mark (xs (ix (v + 1))) (xs (ix (v + 2)))) (fun G' => f_L_law L xs n (v + 7) G') (op_mark (xs (ix (v + 1))) (xs (ix (v + 2))) h)
  refine ex_ite ?_ ?_
  · simp only [c1, chk_t]
    exact fin2 (c := f_X7_keep (xs (ix (v + 1)))) (m := f_X8_keep (xs (ix (v + 1)))) (fun G' => f_L_law L xs n (v + 7) G') (op_keep (xs (ix (v + 1))) h)
  refine ex_ite ?_ ?_
  · simp only [c1, chk_t]
    exact fin2 (c := f_X7_on (xs (ix (v + 1)))) (m := f_X8_on (xs (ix (v + 1)))) (fun G' => f_L_law L xs n (v + 7) G') (op_on (xs (ix (v + 1))) h)
  refine ex_ite ?_ ?_
  · simp only [c1, c2, chk_t]
    exact fin2 (c := f_X7_just (xs (ix (v + 1))) (xs (ix (v + 2)))) (m := f_X8_just (xs (ix (v + 1))) (xs (ix (v + 2)))) (fun G' => f_L_law L xs n (v + 7) G') (op_just (xs (ix (v + 1))) (xs (ix (v + 2))) h)
  refine ex_ite ?_ ?_
  · simp only [c1, chk_t]
    exact fin2 (c := f_X7_slice (xs (ix (v + 1)))) (m := f_X8_slice (xs (ix (v + 1)))) (fun G' => f_L_law L xs n (v + 7) G') (op_slice (xs (ix (v + 1))) h)
  refine ex_ite ?_ ?_
  · simp only [c1, chk_t]
    exact fin2 (c := f_X7_cut (xs (ix (v + 1)))) (m := f_X8_cut (xs (ix (v + 1)))) (fun G' => f_L_law L xs n (v + 7) G') (op_cut (xs (ix (v + 1))) h)
  refine ex_ite ?_ ?_
  · exact fin2 (c := f_X7_rise) (m := f_X8_rise) (fun G' => f_L_law L xs n (v + 7) G') (op_rise h)
  refine ex_ite ?_ ?_
  · simp only [c1, chk_t]
    exact fin2 (c := f_X7_wire (xs (ix (v + 1)))) (m := f_X8_wire (xs (ix (v + 1)))) (fun G' => f_L_law L xs n (v + 7) G') (op_wire (xs (ix (v + 1))) h)
  refine ex_ite ?_ ?_
  · simp only [c1, c2, c3, c4, chk_t]
    exact fin2 (c := f_X7_way (xs (ix (v + 1))) (xs (ix (v + 2))) (xs (ix (v + 3))) (xs (ix (v + 4)))) (m := f_X8_way (xs (ix (v + 1))) (xs (ix (v + 2))) (xs (ix (v + 3))) (xs (ix (v + 4)))) (fun G' => f_L_law L xs n (v + 7) G') (op_way (xs (ix (v + 1))) (xs (ix (v + 2))) (xs (ix (v + 3))) (xs (ix (v + 4))) h)
  refine ex_ite ?_ ?_
  · simp only [c1, c2, c3, c4, chk_t]
    exact fin2 (c := f_X7_often (xs (ix (v + 1))) (xs (ix (v + 2))) (xs (ix (v + 3))) (xs (ix (v + 4)))) (m := f_X8_often (xs (ix (v + 1))) (xs (ix (v + 2))) (xs (ix (v + 3))) (xs (ix (v + 4)))) (fun G' => f_L_law L xs n (v + 7) G') (op_often (xs (ix (v + 1))) (xs (ix (v + 2))) (xs (ix (v + 3))) (xs (ix (v + 4))) h)
  refine ex_ite ?_ ?_
  · simp only [c1, c2, c3, chk_t]
    exact fin2 (c := f_X7_turns (xs (ix (v + 1))) (xs (ix (v + 2))) (xs (ix (v + 3)))) (m := f_X8_turns (xs (ix (v + 1))) (xs (ix (v + 2))) (xs (ix (v + 3)))) (fun G' => f_L_law L xs n (v + 7) G') (op_turns (xs (ix (v + 1))) (xs (ix (v + 2))) (xs (ix (v + 3))) h)
  refine ex_ite ?_ ?_
  · simp only [c1, c2, c3, c4, chk_t]
    exact fin2 (c := f_X7_most (xs (ix (v + 1))) (xs (ix (v + 2))) (xs (ix (v + 3))) (xs (ix (v + 4)))) (m := f_X8_most (xs (ix (v + 1))) (xs (ix (v + 2))) (xs (ix (v + 3))) (xs (ix (v + 4)))) (fun G' => f_L_law L xs n (v + 7) G') (op_most (xs (ix (v + 1))) (xs (ix (v + 2))) (xs (ix (v + 3))) (xs (ix (v + 4))) h)
  refine ex_ite ?_ ?_
  · simp only [c1, c2, c3, c4, chk_t]
    exact fin2 (c := f_X7_off (xs (ix (v + 1))) (xs (ix (v + 2))) (xs (ix (v + 3))) (xs (ix (v + 4)))) (m := f_X8_off (xs (ix (v + 1))) (xs (ix (v + 2))) (xs (ix (v + 3))) (xs (ix (v + 4)))) (fun G' => f_L_law L xs n (v + 7) G') (op_off (xs (ix (v + 1))) (xs (ix (v + 2))) (xs (ix (v + 3))) (xs (ix (v + 4))) h)
  refine ex_ite ?_ ?_
  · simp only [c1, c2, chk_t]
    exact fin2 (c := f_X7_rest (xs (ix (v + 1))) (xs (ix (v + 2)))) (m := f_X8_rest (xs (ix (v + 1))) (xs (ix (v + 2)))) (fun G' => f_L_law L xs n (v + 7) G') (op_rest (xs (ix (v + 1))) (xs (ix (v + 2))) h)
  refine ex_ite ?_ ?_
  · simp only [c1, c2, chk_t]
    exact fin2 (c := f_X7_salt (xs (ix (v + 1))) (xs (ix (v + 2)))) (m := f_X8_salt (xs (ix (v + 1))) (xs (ix (v + 2)))) (fun G' => f_L_law L xs n (v + 7) G') (op_salt (xs (ix (v + 1))) (xs (ix (v + 2))) h)
  refine ex_ite ?_ ?_
  · simp only [c1, c2, c3, c4, chk_t]
    exact fin2 (c := f_X7_thick (xs (ix (v + 1))) (xs (ix (v + 2))) (xs (ix (v + 3))) (xs (ix (v + 4)))) (m := f_X8_thick (xs (ix (v + 1))) (xs (ix (v + 2))) (xs (ix (v + 3))) (xs (ix (v + 4)))) (fun G' => f_L_law L xs n (v + 7) G') (op_thick (xs (ix (v + 1))) (xs (ix (v + 2))) (xs (ix (v + 3))) (xs (ix (v + 4))) h)
  refine ex_ite ?_ ?_
  · simp only [c1, c2, c3, c4, c5, c6, chk_t]
    exact fin2 (c := f_X7_same (xs (ix (v + 1))) (xs (ix (v + 2))) (xs (ix (v + 3))) (xs (ix (v + 4))) (xs (ix (v + 5))) (xs (ix (v + 6)))) (m := f_X8_same (xs (ix (v + 1))) (xs (ix (v + 2))) (xs (ix (v + 3))) (xs (ix (v + 4))) (xs (ix (v + 5))) (xs (ix (v + 6)))) (fun G' => f_L_law L xs n (v + 7) G') (op_same (xs (ix (v + 1))) (xs (ix (v + 2))) (xs (ix (v + 3))) (xs (ix (v + 4))) (xs (ix (v + 5))) (xs (ix (v + 6))) h)
  refine ex_ite ?_ ?_
  · simp only [c1, c2, chk_t]
    exact fin2 (c := f_X7_order (xs (ix (v + 1))) (xs (ix (v + 2)))) (m := f_X8_order (xs (ix (v + 1))) (xs (ix (v + 2)))) (fun G' => f_L_law L xs n (v + 7) G') (op_order (xs (ix (v + 1))) (xs (ix (v + 2))) h)
  refine ex_ite ?_ ?_
  · simp only [c1, c2, c3, c4, c5, chk_t]
    exact fin2 (c := f_X7_both (xs (ix (v + 1))) (xs (ix (v + 2))) (xs (ix (v + 3))) (xs (ix (v + 4))) (xs (ix (v + 5)))) (m := f_X8_both (xs (ix (v + 1))) (xs (ix (v + 2))) (xs (ix (v + 3))) (xs (ix (v + 4))) (xs (ix (v + 5)))) (fun G' => f_L_law L xs n (v + 7) G') (op_both (xs (ix (v + 1))) (xs (ix (v + 2))) (xs (ix (v + 3))) (xs (ix (v + 4))) (xs (ix (v + 5))) h)
  refine ex_ite ?_ ?_
  · simp only [c1, c2, chk_t]
    exact fin2 (c := f_X7_safe (xs (ix (v + 1))) (xs (ix (v + 2)))) (m := f_X8_safe (xs (ix (v + 1))) (xs (ix (v + 2)))) (fun G' => f_L_law L xs n (v + 7) G') (op_safe (xs (ix (v + 1))) (xs (ix (v + 2))) h)
  refine ex_ite ?_ ?_
  · simp only [c1, chk_t]
    exact fin2 (c := f_X7_which (xs (ix (v + 1)))) (m := f_X8_which (xs (ix (v + 1)))) (fun G' => f_L_law L xs n (v + 7) G') (op_which (xs (ix (v + 1))) h)
  refine ex_ite ?_ ?_
  · simp only [c1, c2, chk_t]
    exact fin2 (c := f_X7_odds (xs (ix (v + 1))) (xs (ix (v + 2)))) (m := f_X8_odds (xs (ix (v + 1))) (xs (ix (v + 2)))) (fun G' => f_L_law L xs n (v + 7) G') (op_odds (xs (ix (v + 1))) (xs (ix (v + 2))) h)
  refine ex_ite ?_ ?_
  · simp only [c1, c2, c3, c4, chk_t]
    exact fin2 (c := f_X7_rule (xs (ix (v + 1))) (xs (ix (v + 2))) (xs (ix (v + 3))) (xs (ix (v + 4)))) (m := f_X8_rule (xs (ix (v + 1))) (xs (ix (v + 2))) (xs (ix (v + 3))) (xs (ix (v + 4)))) (fun G' => f_L_law L xs n (v + 7) G') (op_rule (xs (ix (v + 1))) (xs (ix (v + 2))) (xs (ix (v + 3))) (xs (ix (v + 4))) h)
  refine ex_ite ?_ ?_
  · refine ⟨G, h, ?_⟩
    unfold f_X7_asked f_X8_asked
    rw [bj1_s, bj1_s, if_pos h.2]
    rfl
  refine ex_ite ?_ ?_
  · refine ⟨G, h, ?_⟩
    unfold f_X7_upper f_X8_upper
    rw [bj1_s, bj1_s, h.1.2.2.2.2.2.2.2.1, if_pos (lg_self _)]
    rfl
  refine ex_ite ?_ ?_
  · refine ⟨G, h, ?_⟩
    unfold f_X7_lower f_X8_lower
    rw [bj1_s, bj1_s, h.1.2.2.2.2.2.2.2.2.1, if_pos (lg_self _)]
    rfl
  refine ex_ite ?_ ?_
  · obtain ⟨x, H, h1, h2, h3⟩ := op_count (xs (ix (v + 1))) h
    refine ⟨H, h3, ?_⟩
    rw [c1, chk_t, h1, bj1_s, chk_t, h2, bj2_s, if_pos rfl]
    rfl
  refine ex_ite ?_ ?_
  · refine ⟨G, h, ?_⟩
    unfold f_X7_finding f_X8_finding
    rw [bj1_s, bj1_s, if_pos h.1.2.2.2.2.2.1]
    rfl
  refine ex_ite ?_ ?_
  · obtain ⟨x, h1, h2⟩ := op_findings (xs (ix (v + 1))) h
    refine ⟨G, h, ?_⟩
    rw [c1, chk_t, h1, bj1_s, chk_t, h2, bj1_s, if_pos rfl]
    rfl
  refine ex_ite ?_ ?_
  · obtain ⟨x, H, h1, h2, h3⟩ := op_digest h
    refine ⟨H, h3, ?_⟩
    rw [h1, bj1_s, h2, bj2_s, if_pos (lg_self x)]
    rfl
  exact ⟨G, h, rfl⟩
theorem law_all {L : Nat} (hL : L ≤ 3584) (xs : Nat → Int32) : ∀ (n k : Nat) (G : G_), RR G → L < 7 * (k + n) + 7 → k + n ≤ 999 → f_L_law L xs (n + 1) (iN (7 * k)) G = some 1 := by
  have eL : ((Int32.ofNat L) - 7).toInt = (L : Int) - 7 := by
    show (iN L - iN 7).toInt = _
    rw [t_sub (by rw [li (by omega), li (by omega)]; omega) (by rw [li (by omega), li (by omega)]; omega), li (by omega), li (by omega)]
    rfl
  have stop : ∀ n k G, L < 7 * k + 7 → k ≤ 999 → f_L_law L xs (n + 1) (iN (7 * k)) G = some 1 := fun n k G h1 h2 => by
    unfold f_L_law
    rw [if_pos (t_lt.mpr (by rw [eL, li (by omega)]; omega))]
  intro n
  induction n with
  | zero => exact fun k G _ h1 h2 => stop 0 k G h1 h2
  | succ n ih =>
    intro k G h h1 h2
    by_cases c : L < 7 * k + 7
    · exact stop (n + 1) k G c (by omega)
    · have hb : ∀ i, i < 7 → inb (iN (7 * k) + iN i) L = true := fun i hi => by
        rw [iN_add]
        exact inb_iN (by omega) (by omega)
      obtain ⟨G', h3, h4⟩ := law_step (L := L) (n := n + 1) (xs := xs) (v := iN (7 * k)) h (fun e => by have := t_lt.mp e; rw [eL, li (by omega)] at this; omega) (inb_iN (by omega) (by omega)) (hb 1 (by omega)) (hb 2 (by omega)) (hb 3 (by omega)) (hb 4 (by omega)) (hb 5 (by omega)) (hb 6 (by omega))
      rw [h4]
      unfold nxt
      have e7 : iN (7 * k) + 7 = iN (7 * (k + 1)) := iN_add (7 * k) 7
      rw [e7]
      exact ih (k + 1) G' h3 (by omega) (by omega)
def G8 : G_ := gi_X8 (gi_X7 ((fun _ _ => 0), (fun _ _ => 0)))
theorem RR_G8 : RR G8 := by
  have d1 : ∀ r, r < 6 → G8.1 (51 + 2 * r) 1 = G8.1 126 r ∧ G8.1 126 r = -iN 1 ∧ ∀ i, i < 40 → G8.1 (52 + 2 * r) i = G8.1 127 (40 * r + i) := by decide +kernel
  have d2 : ∀ r, r < 4 → G8.1 (63 + 2 * r) 1 = G8.1 129 r ∧ G8.1 129 r = -iN 1 ∧ ∀ i, i < 80 → G8.1 (64 + 2 * r) i = G8.1 130 (80 * r + i) := by decide +kernel
  have d3 : ∀ k, k < 4 → G8.1 (71 + k) 0 = G8.1 131 k ∧ G8.1 131 k = iN 0 ∧ G8.1 (71 + k) 1 = G8.1 132 (4 * k + 0) ∧ G8.1 (71 + k) 2 = G8.1 132 (4 * k + 1) ∧ G8.1 (71 + k) 3 = G8.1 132 (4 * k + 2) ∧ G8.1 (71 + k) 4 = G8.1 132 (4 * k + 3) := by decide +kernel
  have d4 : ∀ k, k < 4 → G8.1 (75 + 4 * k) 3 = G8.1 133 k ∧ G8.1 133 k = iN 0 := by decide +kernel
  have d5 : ∀ k, k < 4 → G8.1 (dp k) 7 = G8.1 138 k ∧ G8.1 138 k = iN 0 := by decide +kernel
  have d6 : ∀ f, f < 6 → G8.1 50 f = G8.1 125 f := by decide +kernel
  have d7 : G8.1 0 15 = G8.1 124 0 ∧ G8.2 0 17 = G8.2 124 3 ∧ G8.2 0 18 = G8.2 124 4 ∧ isZ (G8.1 17 7) = true ∧ G8.1 0 16 = G8.1 124 2 := by decide +kernel
  refine ⟨⟨fun r hr => ⟨(d1 r hr).1, Or.inl (d1 r hr).2.1, (d1 r hr).2.2⟩, fun r hr => ⟨(d2 r hr).1, Or.inl (d2 r hr).2.1, (d2 r hr).2.2⟩, fun k hk => ⟨(d3 k hk).1, Or.inl (d3 k hk).2.1, (d3 k hk).2.2⟩, fun k hk => ⟨(d4 k hk).1, Or.inl (d4 k hk).2, fun e => ?_⟩, fun k hk => ⟨(d5 k hk).1, Or.inl (d5 k hk).2⟩, d7.1, fun f h1 h5 => d6 f (by omega), d7.2.1, d7.2.2.1, d7.2.2.2.1⟩, d7.2.2.2.2⟩
  rw [(d4 k hk).2] at e
  exact absurd e (by decide)
theorem law_pure (L : Nat) (hL : L ≤ 3584) (xs : Nat → Int32) : f_L_law L xs FU 0 G8 = some 1 := law_all hL xs 999 0 G8 RR_G8 (by omega) (by omega)

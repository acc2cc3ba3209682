/-! the law's start -/
theorem wl_D {V : VT} (h : VZ V) : VD V := by
  intro G
  have key : ∀ (k : Nat) (q : Nat × va_E), (wl V G)[k]? = some q → q.1 = V.2.2.1 k := by
    intro k q hq
    by_cases hk : k < wv_n V
    · rw [wl_get V G hk] at hq
      cases hq
      rfl
    · rw [List.getElem?_eq_none (by rw [wl_len]; exact Nat.le_of_not_lt hk)] at hq
      cases hq
  refine ⟨fun i j p q hi hj e => ?_, fun k q hk => ?_⟩
  · have h1 := key i p hi
    have h2 := key j q hj
    rw [h.1] at h1 h2
    omega
  · rw [key k q hk]
    exact h.2 _ (by rw [h.1 k]; omega)
/-- all references are set -/
def fullZ (Z : Nat → Nat → Bool) : Bool := (List.range NO).all fun p => if kd p < 9 then (List.range (fl (kd p)).length).all (fun j => match (fl (kd p)).getD j (0, 0) with | (0, _) => true | (1, _) => true | _ => Z p j) else if kd p < 12 then true else (List.range (ln p)).all (fun j => Z p j)
theorem fvZ_full {ad : Nat → Nat} {Z : Nat → Nat → Bool} {G : G_} {p : Nat} : ∀ (l : List (Nat × Nat)) (j : Nat), (∀ i d, l[i]? = some d → 2 ≤ d.1 → Z p (j + i) = true) → fvZ ad Z G p l j = fvl ad G p l j
  | [], _, _ => rfl
  | (0, _) :: r, j, h => by
    simp only [fvZ, fvl]
    rw [fvZ_full r (j + 1) (fun i d h1 h2 => by have := h (i + 1) d (by simpa using h1) h2; rwa [show j + 1 + i = j + (i + 1) by omega])]
  | (1, _) :: r, j, h => by
    simp only [fvZ, fvl]
    rw [fvZ_full r (j + 1) (fun i d h1 h2 => by have := h (i + 1) d (by simpa using h1) h2; rwa [show j + 1 + i = j + (i + 1) by omega])]
  | (x + 2, y) :: r, j, h => by
    simp only [fvZ, fvl]
    have h0 := h 0 (x + 2, y) rfl (by show 2 ≤ x + 2; omega)
    rw [Nat.add_zero] at h0
    rw [if_pos h0, fvZ_full r (j + 1) (fun i d h1 h2 => by have := h (i + 1) d (by simpa using h1) h2; rwa [show j + 1 + i = j + (i + 1) by omega])]
theorem full_P {V : VT} {Z : Nat → Nat → Bool} {G : G_} {H : Heap} (h0 : vNL V = 0) (hZ : fullZ Z = true) (h : va_P V.1 vwCl (wlZ V Z G NO) H) : va_P V.1 vwCl (wl V G) H := by
  have elv : wv_n V = NO := by show NO + min 6 (vNL V) = NO; rw [h0]; rfl
  intro k q hq
  by_cases hk : k < NO
  · rw [wl_get V G (by rw [elv]; exact hk)] at hq
    cases hq
    have h1 := h k _ (wlZ_get V Z G hk)
    have h2 := List.all_eq_true.mp hZ k (List.mem_range.mpr hk)
    by_cases c1 : kd k < 9
    · rw [if_pos c1] at h2
      rw [enZ_obj rfl c1] at h1
      rw [en_obj rfl c1, ← fvZ_full (Z := Z) (fl (kd k)) 0 (fun i d h3 h4 => ?_)]
      · exact h1
      · have hl := (List.getElem?_eq_some_iff.mp h3).1
        have h5 := List.all_eq_true.mp h2 i (List.mem_range.mpr hl)
        rw [List.getD_eq_getElem?_getD, h3] at h5
        obtain ⟨x, y⟩ := d
        match x, h4 with
        | x + 2, _ => simpa using h5
    · rw [if_neg c1] at h2
      by_cases c2 : kd k < 12
      · rw [enZ_arr rfl (by omega) c2] at h1
        rw [en_arr rfl (by omega) c2]
        exact h1
      · rw [if_neg c2] at h2
        rw [enZ_ra rfl (by omega)] at h1
        rw [en_ra rfl (by omega) (kd_lo k hk)]
        have h1 : H[V.2.2.1 k]? = some (vp_cell (V.2.1 (kd k)) (ln k, .inr (.inr (.inr (.inr (fun i => if Z k i = true then some (V.2.2.1 (rbp k + rs (kd k) * i)) else none)))))) := h1
        show H[V.2.2.1 k]? = some (vp_cell (V.2.1 (kd k)) (ln k, .inr (.inr (.inr (.inr (fun i => some (V.2.2.1 (rbp k + rs (kd k) * i))))))))
        rw [h1, vp_cell_q, vp_cell_q]
        congr 1
        refine arrV_congr (fun j hj => ?_)
        have h5 := List.all_eq_true.mp h2 j (List.mem_range.mpr hj)
        rw [if_pos h5]
  · rw [List.getElem?_eq_none (by rw [wl_len, elv]; exact Nat.le_of_not_lt hk)] at hq
    cases hq

theorem z_callI {K : CT} {cc : ByteArray} {own : String} {Ts : List Cond} {fr lo cl0 sl0 nL0 : Nat} {Z : Nat → Nat → Bool} {n cs sl pc : Nat} {L : List (Nat × Value)} {st : List Value} {G : G_} {y : MethodName} {bytes : ByteArray} {maxL index frc loc mc ms n' : Nat} {Z' : Nat → Nat → Bool} {G1 : G_} {p0 : Nat} (hc : OkZ K cc own Ts fr lo cl0 sl0 nL0) (hM : MCZ (kl K) (kV K) y bytes maxL frc loc [.ref (kad K p0)] Z n G Z' n' G1 mc ms) (mw : MWI y bytes maxL 0) (hlink : Cond.methodLink own index y ∈ TB) (hw : (st.map fun v => v.category).sum ≤ 8) (hroom : frc + 1 ≤ fr ∧ 8 + (maxL + 11) + loc ≤ lo) (hcs : cs + mc ≤ cl0) (hsl0 : sl + ms ≤ sl0) (hd : decode cc pc = .ok (.invokespecial index, 3)) (k : XZ K Z' n' (cs + mc) (sl + ms) (pc + 3) L st G1) : XZ K Z n cs sl pc L (.ref (kad K p0) :: st) G := by
  obtain ⟨p, l, e, R, s, m, args, below, meth, c, nL, V, cells, slots, Q⟩ := K
  obtain ⟨hx, hb, hml, hown, hts, ⟨hK, hZ, hVA⟩, hlk, hR, hnL, ⟨w0, hw0⟩, hbase⟩ := hc
  obtain ⟨hd1, hcode, hini, hinst, hyn⟩ := mw
  intro hF H locs ls hz hP hS hl
  subst hw0 hnL
  have hr := va_runI (As := []) (rest := st) (cells := cs) (slots := sl) (g := F0 m pc ls (.ref (V.2.2.1 p0) :: st)) (b := V.2.2.1 p0) (e := e) (below := below) (meth := meth) (locs := locs) (H := H) ⟨hx, hb, hml, hown, hts⟩ hM (cwI 0 hts (TB_in (fun w hw1 => by
    rcases List.mem_cons.mp hw1 with rfl | h
    · exact hcode
    · exact h)) rfl rfl rfl (TB_use hts rfl hini) (TB_use hts rfl hlink) (TB_use hts rfl hinst) hyn hd1 (by rw [hR.1, hR.2.1]; exact hroom)) ⟨fun a U g mk q => ⟨q.1, ⟨va_K.moved (u := U) (U := U.calling g mk a) (Vm.Alike.refl U.vm) q.2.1.1, fun w hw => va_Nw.same (nest_tab w hw) (u := U) (U := U.calling g mk a) rfl (q.2.1.2 w hw)⟩, q.2.2.1, ⟨va_AO.moved (u := U) (U := U.calling g mk a) (Vm.Alike.refl U.vm) q.2.2.2.1.1, va_AO.moved (u := U) (U := U.calling g mk a) (Vm.Alike.refl U.vm) q.2.2.2.1.2.1, va_AO.moved (u := U) (U := U.calling g mk a) (Vm.Alike.refl U.vm) q.2.2.2.1.2.2.1, va_AO.moved (u := U) (U := U.calling g mk a) (Vm.Alike.refl U.vm) q.2.2.2.1.2.2.2.1, va_AO.moved (u := U) (U := U.calling g mk a) (Vm.Alike.refl U.vm) q.2.2.2.1.2.2.2.2⟩, q.2.2.2.2⟩, fun U hU hW => ⟨rfl, hK.warm hW, hZ, hVA.warm hW, by rw [hU]; exact hz, hF, by rw [hU]; exact hP⟩⟩ rfl rfl hl.1 rfl (lv_room hw) hd ⟨by rw [hR.2.2.1]; exact hcs, by rw [hR.2.2.2]; exact hsl0⟩
  intro T hT X0
  obtain ⟨v, st₀, t, T', L1, h0, X', hL, e1, e2, ⟨⟨hv, h4, h5, h6⟩, hz2, hk⟩, st2⟩ := hr T hT X0
  cases hv
  rw [h0] at hz2 hk
  obtain ⟨t2, a1, b1⟩ := k h5 T'.heap (locs ++ L1) ls (by rw [e1]; exact h4) (by rw [e1]; exact h6) ⟨Nat.le_trans hS.1 (by rw [e1]; exact hz2), fun q h1 h2 => by rw [e1, hk q (Nat.lt_of_lt_of_le h1 hS.1) h2]; exact hS.2.1 q h1 h2, fun q hq => by
      rcases List.mem_append.mp hq with h | h
      · exact hS.2.2 q h
      · exact hL q h⟩ hl T' rfl X'
  exact ⟨t2, st2 t2 a1, b1⟩

theorem ty_28 : Cond.initialized RX7 ∈ TB := TB_mem 28 (by decide +kernel) (by decide +kernel)
theorem ty_38 : Cond.classLink RL 9 RX7 ∈ TB := TB_mem 38 (by decide +kernel) (by decide +kernel)
theorem ty_39 : Cond.instantiable RX7 19 ∈ TB := TB_mem 39 (by decide +kernel) (by decide +kernel)
theorem ty_40 : Cond.methodLink RL 64 yX7_init ∈ TB := TB_mem 40 (by decide +kernel) (by decide +kernel)
theorem ty_55 : Cond.instantiable RX0 17 ∈ TB := TB_mem 55 (by decide +kernel) (by decide +kernel)
theorem ty_61 : Cond.instantiable RX2 6 ∈ TB := TB_mem 61 (by decide +kernel) (by decide +kernel)
theorem ty_150 : Cond.instantiable RX3 2 ∈ TB := TB_mem 150 (by decide +kernel) (by decide +kernel)
theorem ty_163 : Cond.instantiable RX5 5 ∈ TB := TB_mem 163 (by decide +kernel) (by decide +kernel)
theorem ty_197 : Cond.instantiable RX1 3 ∈ TB := TB_mem 197 (by decide +kernel) (by decide +kernel)
theorem ty_213 : Cond.instantiable RX4 2 ∈ TB := TB_mem 213 (by decide +kernel) (by decide +kernel)
theorem ty_226 : Cond.instantiable RX6 2 ∈ TB := TB_mem 226 (by decide +kernel) (by decide +kernel)
theorem ty_637 : Cond.laysStatic "SlabTurn" "PARENT" "[I" ∈ lw_tbl := List.mem_of_getElem? (i := 637) (by decide +kernel)
theorem ty_798 : Cond.laysStatic "SlabTurn" "TURNS_TRIED" "[I" ∈ lw_tbl := List.mem_of_getElem? (i := 798) (by decide +kernel)
theorem nest_in : ∀ w ∈ nestWs, w ∈ lw_tbl := by
  intro w h
  simp only [nestWs, List.mem_cons, List.not_mem_nil, or_false] at h
  rcases h with rfl | rfl | rfl | rfl | rfl | rfl | rfl | rfl | rfl | rfl | rfl | rfl
  · exact List.mem_of_getElem? (i := 56) (by decide +kernel)
  · exact List.mem_of_getElem? (i := 62) (by decide +kernel)
  · exact List.mem_of_getElem? (i := 151) (by decide +kernel)
  · exact List.mem_of_getElem? (i := 164) (by decide +kernel)
  · exact List.mem_of_getElem? (i := 195) (by decide +kernel)
  · exact List.mem_of_getElem? (i := 198) (by decide +kernel)
  · exact List.mem_of_getElem? (i := 214) (by decide +kernel)
  · exact List.mem_of_getElem? (i := 227) (by decide +kernel)
  · exact List.mem_of_getElem? (i := 349) (by decide +kernel)
  · exact List.mem_of_getElem? (i := 492) (by decide +kernel)
  · exact List.mem_of_getElem? (i := 870) (by decide +kernel)
  · exact List.mem_of_getElem? (i := 888) (by decide +kernel)
theorem z_astore_n {K : CT} {cc : ByteArray} {own : String} {Ts : List Cond} {fr lo cl0 sl0 nL0 : Nat} {Z : Nat → Nat → Bool} {n cs sl pc : Nat} {L : List (Nat × Value)} {st : List Value} {G : G_} {j : Fin 4} {i : Nat} {x : Nat} {L' : List (Nat × Value)} (hc : OkZ K cc own Ts fr lo cl0 sl0 nL0) (ks : List Nat) (hd : decode cc pc = .ok (.astore_n j, 1)) (hi : (j : Nat) = i) (hn : i < nL0) (hL : lv_pick ((i, Value.ref x) :: L.filter (fun q => !(q.1 == i) && !(q.1 + 1 == i && q.2.category == 2))) ks = L') (k : XZ K Z n cs sl (pc + 1) L' st G) : XZ K Z n cs sl pc L (.ref x :: st) G := by
  obtain ⟨p, l, e, R, s, m, args, below, meth, c, nL, V, cells, slots, Q⟩ := K
  obtain ⟨hx, hb, hml, hown, hts, ⟨hK, hZ, hVA⟩, hlk, hR, hnL, ⟨w0, hw0⟩, hbase⟩ := hc
  subst hnL
  exact fun hF H locs ls hz hP hS hl => lv_astore_n hx hb hd hi hl hn rfl (fun ls hl => k hF H locs ls hz hP hS (lv_sub hl ks hL))
def Z8 : Nat → Nat → Bool := zi_X7q (zi_X7 (fun _ _ => false))
theorem full_8 : fullZ Z8 = true := by decide +kernel
def G8 : G_ := gi_X7q (gi_X7 ((fun _ _ => 0), (fun _ _ => 0)))
theorem scr_T {b L : Nat} {xs : Nat → Int32} {A : Nat → Prop} {s : State} (hX : va_X b L xs s s.heap) (hbl : b < s.heap.size) (hA : ¬ A b) : va_T .int b L (fun j => .int (xs j)) A s s.heap := by
  obtain ⟨scr, h1, h2, h3, h4, h5⟩ := hX
  exact ⟨scr, h1, h2, h3, Nat.le_of_eq h4.symm, by rw [h4], h5, hA⟩
/-- the rows that the law makes, and its segments, one behind the other -/
def f_L_law (sl : Nat) (xs : Nat → Int32) (G : G_) : Option Int32 :=
  bj3 (f_L_lawB sl xs (z0 250 (z0 249 (z0 248 G)))) fun u6 u7 G1 =>
  bj2 (f_L_lawC sl xs u6 u7 (z0 252 (z0 251 G1))) fun u12 G2 =>
  bj2 (f_L_salts G2) fun r G3 =>
  f_L_lawD u12 r G3
set_option maxHeartbeats 8000000 in
set_option maxRecDepth 100000 in
theorem law_rows {p : Program} (l : Launch) {e : Env} {s : State} {m : MethodId} {args : Array Value} {below : List Frame} {meth : Method} {c : Code} {V : VT} {Q : State → Prop} {Ts : List Cond} {b L : Nat} {xs : Nat → Int32} {G : G_} (hVA : V.2.2.2.1 = fun q : Nat => s.heap.size ≤ q) (hnl : vNL V = 0) (hsb : vSB V = b) (hsc : SCO V L xs) (hc : Ok (p, l, e, room_1, s, m, args, below, meth, c, 19, V, 248, 3658, Q) cL_law RL Ts ret 10 398 19) (hav : ∀ q, V.2.2.1 0 ≤ q → s.heap.size ≤ q)
    (hend : ∀ (V2 : VT) (c2 s2 : Nat), V2.2.2.2.1 = V.2.2.2.1 → c2 ≤ 600000 → s2 ≤ 7302250 → ∀ (L' : List (Nat × Value)) (G : G_), X (p, l, e, room_1, s, m, args, below, meth, c, 19, V2, c2, s2, Q) 965 L' [.int 1] G) (hf : f_L_law L xs G = some 1) :
    X (p, l, e, room_1, s, m, args, below, meth, c, 19, V, 248, 3658, Q) 16 [(0, .ref b), (1, .ref (V.2.2.1 0)), (2, .ref (V.2.2.1 124))] [] G := by
  unfold f_L_law at hf
  obtain ⟨u6, u7, G1, hB, hf⟩ := bj3_ok hf
  obtain ⟨u12, G2, hC, hf⟩ := bj2_ok hf
  obtain ⟨r, G3, hS, hf⟩ := bj2_ok hf
  subst hsb
  have hA : ∀ q, s.heap.size ≤ q → V.2.2.2.1 q := fun q h => by rw [hVA]; exact h
  have n0 : wv_n V = 248 := by rw [wv_eq hnl]; rfl
  have t0 : ∀ q, q < 248 → q < wv_n V := fun q h => by rw [n0]; exact h
  refine x_bipush (v := 8) hc rfl dL_law_16 ?_
  refine x_newarr (N' := 8) (fun ad => [(0, .ref (vSB V)), (1, .ref (ad 0)), (2, .ref (ad 124))]) hc hA (by rw [hnl]; decide) (by rw [n0]; rfl) (by decide) rfl (by decide) tw_91 (Nat.le_of_ble_eq_true rfl) (Nat.le_of_ble_eq_true rfl) (fun ad ad' h => by simp only [h 0 (t0 0 (by decide)), h 124 (t0 124 (by decide))]) dL_law_18 (fun x1 c1 => ?_)
  rw [n0]
  have h1 : vNL (setN V x1) = 1 := by show vNL V + 1 = 1; rw [hnl]
  generalize eV1 : setN V x1 = V1 at c1 h1 ⊢
  have a1 : V1.2.2.2.1 = V.2.2.2.1 := by rw [← eV1]; rfl
  have b1 : vSB V1 = vSB V := by rw [← eV1]; rfl
  have s1 : SCO V1 L xs := by rw [← eV1]; exact hsc
  have p1 : V1.2.2.1 0 = V.2.2.1 0 := by rw [← eV1]; exact setN_ne (by rw [n0]; decide)
  have n1 : wv_n V1 = 249 := by rw [wv_eq h1]; rfl
  have t1 : ∀ q, q < 249 → q < wv_n V1 := fun q h => by rw [n1]; exact h
  refine x_astore_n (L' := [(0, .ref (vSB V)), (1, .ref (V1.2.2.1 0)), (2, .ref (V1.2.2.1 124)), (3, .ref (V1.2.2.1 248))]) c1 [1, 2, 3, 0] dL_law_20 rfl (by decide) rfl ?_
  refine x_bipush (v := 40) c1 rfl dL_law_21 ?_
  refine x_newarr (N' := 40) (fun ad => [(0, .ref (vSB V)), (1, .ref (ad 0)), (2, .ref (ad 124)), (3, .ref (ad 248))]) c1 (by rw [a1]; exact hA) (by rw [h1]; decide) (by rw [n1]; rfl) (by decide) rfl (by decide) tw_91 (Nat.le_of_ble_eq_true rfl) (Nat.le_of_ble_eq_true rfl) (fun ad ad' h => by simp only [h 0 (t1 0 (by decide)), h 124 (t1 124 (by decide)), h 248 (t1 248 (by decide))]) dL_law_23 (fun x2 c2 => ?_)
  rw [n1]
  have h2 : vNL (setN V1 x2) = 2 := by show vNL V1 + 1 = 2; rw [h1]
  generalize eV2 : setN V1 x2 = V2 at c2 h2 ⊢
  have a2 : V2.2.2.2.1 = V.2.2.2.1 := by rw [← eV2]; exact a1
  have b2 : vSB V2 = vSB V := by rw [← eV2]; exact b1
  have s2 : SCO V2 L xs := by rw [← eV2]; exact s1
  have p2 : V2.2.2.1 0 = V.2.2.1 0 := by rw [← eV2, ← p1]; exact setN_ne (by rw [n1]; decide)
  have n2 : wv_n V2 = 250 := by rw [wv_eq h2]; rfl
  have t2 : ∀ q, q < 250 → q < wv_n V2 := fun q h => by rw [n2]; exact h
  refine x_astore (L' := [(0, .ref (vSB V)), (1, .ref (V2.2.2.1 0)), (2, .ref (V2.2.2.1 124)), (3, .ref (V2.2.2.1 248)), (4, .ref (V2.2.2.1 249))]) c2 [1, 2, 3, 4, 0] dL_law_25 (by decide) rfl ?_
  refine x_bipush (v := 40) c2 rfl dL_law_27 ?_
  refine x_newarr (N' := 40) (fun ad => [(0, .ref (vSB V)), (1, .ref (ad 0)), (2, .ref (ad 124)), (3, .ref (ad 248)), (4, .ref (ad 249))]) c2 (by rw [a2]; exact hA) (by rw [h2]; decide) (by rw [n2]; rfl) (by decide) rfl (by decide) tw_91 (Nat.le_of_ble_eq_true rfl) (Nat.le_of_ble_eq_true rfl) (fun ad ad' h => by simp only [h 0 (t2 0 (by decide)), h 124 (t2 124 (by decide)), h 248 (t2 248 (by decide)), h 249 (t2 249 (by decide))]) dL_law_29 (fun x3 c3 => ?_)
  rw [n2]
  have h3 : vNL (setN V2 x3) = 3 := by show vNL V2 + 1 = 3; rw [h2]
  generalize eV3 : setN V2 x3 = V3 at c3 h3 ⊢
  have a3 : V3.2.2.2.1 = V.2.2.2.1 := by rw [← eV3]; exact a2
  have b3 : vSB V3 = vSB V := by rw [← eV3]; exact b2
  have s3 : SCO V3 L xs := by rw [← eV3]; exact s2
  have p3 : V3.2.2.1 0 = V.2.2.1 0 := by rw [← eV3, ← p2]; exact setN_ne (by rw [n2]; decide)
  have n3 : wv_n V3 = 251 := by rw [wv_eq h3]; rfl
  have t3 : ∀ q, q < 251 → q < wv_n V3 := fun q h => by rw [n3]; exact h
  refine x_astore (L' := [(0, .ref (vSB V)), (1, .ref (V3.2.2.1 0)), (2, .ref (V3.2.2.1 124)), (3, .ref (V3.2.2.1 248)), (4, .ref (V3.2.2.1 249)), (5, .ref (V3.2.2.1 250))]) c3 [1, 2, 3, 4, 5, 0] dL_law_31 (by decide) rfl ?_
  rw [← b3]
  refine c_L_lawB (K := (p, l, e, room_1, s, m, args, below, meth, c, 19, V3, 248 + 1 + 1 + 1, 3658 + 8 + 40 + 40, Q)) L xs _ u6 u7 G1 c3 h3 s3 hB ?_
  refine x_bipush (v := 24) c3 rfl dL_law_257 ?_
  refine x_newarr (N' := 24) (fun ad => [(0, .ref (vSB V3)), (1, .ref (ad 0)), (2, .ref (ad 124)), (3, .ref (ad 248)), (4, .ref (ad 249)), (5, .ref (ad 250)), (6, .int u6), (7, .int u7)]) c3 (by rw [a3]; exact hA) (by rw [h3]; decide) (by rw [n3]; rfl) (by decide) rfl (by decide) tw_91 (Nat.le_of_ble_eq_true rfl) (Nat.le_of_ble_eq_true rfl) (fun ad ad' h => by simp only [h 0 (t3 0 (by decide)), h 124 (t3 124 (by decide)), h 248 (t3 248 (by decide)), h 249 (t3 249 (by decide)), h 250 (t3 250 (by decide))]) dL_law_259 (fun x4 c4 => ?_)
  rw [n3]
  have h4 : vNL (setN V3 x4) = 4 := by show vNL V3 + 1 = 4; rw [h3]
  generalize eV4 : setN V3 x4 = V4 at c4 h4 ⊢
  have a4 : V4.2.2.2.1 = V.2.2.2.1 := by rw [← eV4]; exact a3
  have b4 : vSB V4 = vSB V3 := by rw [← eV4]; rfl
  have s4 : SCO V4 L xs := by rw [← eV4]; exact s3
  have p4 : V4.2.2.1 0 = V.2.2.1 0 := by rw [← eV4, ← p3]; exact setN_ne (by rw [n3]; decide)
  have n4 : wv_n V4 = 252 := by rw [wv_eq h4]; rfl
  have t4 : ∀ q, q < 252 → q < wv_n V4 := fun q h => by rw [n4]; exact h
  refine x_astore (L' := [(0, .ref (vSB V3)), (1, .ref (V4.2.2.1 0)), (2, .ref (V4.2.2.1 124)), (3, .ref (V4.2.2.1 248)), (4, .ref (V4.2.2.1 249)), (5, .ref (V4.2.2.1 250)), (6, .int u6), (7, .int u7), (8, .ref (V4.2.2.1 251))]) c4 [1, 2, 3, 4, 5, 6, 7, 8, 0] dL_law_261 (by decide) rfl ?_
  refine x_bipush (v := 24) c4 rfl dL_law_263 ?_
  refine x_newarr (N' := 24) (fun ad => [(0, .ref (vSB V3)), (1, .ref (ad 0)), (2, .ref (ad 124)), (3, .ref (ad 248)), (4, .ref (ad 249)), (5, .ref (ad 250)), (6, .int u6), (7, .int u7), (8, .ref (ad 251))]) c4 (by rw [a4]; exact hA) (by rw [h4]; decide) (by rw [n4]; rfl) (by decide) rfl (by decide) tw_91 (Nat.le_of_ble_eq_true rfl) (Nat.le_of_ble_eq_true rfl) (fun ad ad' h => by simp only [h 0 (t4 0 (by decide)), h 124 (t4 124 (by decide)), h 248 (t4 248 (by decide)), h 249 (t4 249 (by decide)), h 250 (t4 250 (by decide)), h 251 (t4 251 (by decide))]) dL_law_265 (fun x5 c5 => ?_)
  rw [n4]
  have h5 : vNL (setN V4 x5) = 5 := by show vNL V4 + 1 = 5; rw [h4]
  generalize eV5 : setN V4 x5 = V5 at c5 h5 ⊢
  have a5 : V5.2.2.2.1 = V.2.2.2.1 := by rw [← eV5]; exact a4
  have b5 : vSB V5 = vSB V3 := by rw [← eV5]; exact b4
  have s5 : SCO V5 L xs := by rw [← eV5]; exact s4
  have p5 : V5.2.2.1 0 = V.2.2.1 0 := by rw [← eV5, ← p4]; exact setN_ne (by rw [n4]; decide)
  refine x_astore (L' := [(0, .ref (vSB V3)), (1, .ref (V5.2.2.1 0)), (2, .ref (V5.2.2.1 124)), (3, .ref (V5.2.2.1 248)), (4, .ref (V5.2.2.1 249)), (5, .ref (V5.2.2.1 250)), (6, .int u6), (7, .int u7), (8, .ref (V5.2.2.1 251)), (9, .ref (V5.2.2.1 252))]) c5 [1, 2, 3, 4, 5, 6, 7, 8, 9, 0] dL_law_267 (by decide) rfl ?_
  rw [← b5]
  refine c_L_lawC (K := (p, l, e, room_1, s, m, args, below, meth, c, 19, V5, 248 + 1 + 1 + 1 + 1 + 1, 3658 + 8 + 40 + 40 + 24 + 24, Q)) L xs u6 u7 _ u12 G2 c5 h5 s5 hC ?_
  refine x_aload_n c5 0 dL_law_939 rfl rfl ?_
  refine x_aload_n c5 1 dL_law_940 rfl rfl ?_
  refine x_aload_n c5 2 dL_law_941 rfl rfl ?_
  refine x_aload c5 3 dL_law_942 rfl ?_
  refine x_callSn (As := [.ref (V5.2.2.1 0), .ref (V5.2.2.1 124), .ref (V5.2.2.1 248), .ref (V5.2.2.1 249)]) (st := []) c5 (c_L_salts l V5 G2 r G3 h5 (fun q hq => by rw [a5, hVA]; exact hav q (by rw [← p5]; exact hq)) hS) mw_L_salts tw_833 rfl (Nat.le_of_ble_eq_true rfl) ⟨Nat.le_of_ble_eq_true rfl, Nat.le_of_ble_eq_true rfl⟩ (Nat.le_of_ble_eq_true rfl) (Nat.le_of_ble_eq_true rfl) dL_law_944 rfl ?_
  have c6 : Ok (p, l, e, room_1, s, m, args, below, meth, c, 19, V5, 248 + 1 + 1 + 1 + 1 + 1 + 1, 3658 + 8 + 40 + 40 + 24 + 24 + 8, Q) cL_law RL Ts ret 10 398 19 := by
    obtain ⟨q1, q2, q3, q4, q5, q6, q7, q8, q9, q10⟩ := c5
    exact ⟨q1, q2, q3, q4, q5, q6, q7, q8, ⟨q9.1, q9.2.1, Nat.le_of_ble_eq_true rfl, Nat.le_of_ble_eq_true rfl⟩, q10⟩
  refine x_sub [0, 4] (c_L_lawD (K := (p, l, e, room_1, s, m, args, below, meth, c, 19, V5, 248 + 1 + 1 + 1 + 1 + 1 + 1, 3658 + 8 + 40 + 40 + 24 + 24 + 8, Q)) u12 r G3 c6 h5 (hend V5 _ _ a5 (Nat.le_of_ble_eq_true rfl) (Nat.le_of_ble_eq_true rfl)) hf) rfl


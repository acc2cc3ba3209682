/-! the law's start -/
theorem wl_D {V : VT} (h : VZ V) : VD V := by
  intro G
  have key : ∀ (k : Nat) (q : Nat × va_E), (wl V G)[k]? = some q → q.1 = V.2.2.1 k := by
    intro k q hq
    by_cases hk : k < NP
    · rw [wl_get V G hk] at hq
      cases hq
      rfl
    · rw [List.getElem?_eq_none (by simp [wl]; omega)] at hq
      cases hq
  refine ⟨fun i j p q hi hj e => ?_, fun k q hk => ?_⟩
  · have h1 := key i p hi
    have h2 := key j q hj
    rw [h.1] at h1 h2
    omega
  · rw [key k q hk]
    exact h.2 _ (by rw [h.1 k]; omega)
theorem arrV_congr {c0 : ClassId} {N : Nat} {f g : Nat → Value} (h : ∀ j, j < N → f j = g j) : arrV c0 N f = arrV c0 N g := by
  unfold arrV
  have e : (fun j : Fin N => f j.val) = fun j : Fin N => g j.val := funext fun j => h j.val j.isLt
  rw [e]
/-- all references are set -/
def fullZ (Z : Nat → Nat → Bool) : Bool := (List.range NP).all fun p => if kd p < 9 then (List.range (fl (kd p)).length).all (fun j => match (fl (kd p)).getD j (0, 0) with | (0, _) => true | (1, _) => true | _ => Z p j) else if kd p < 12 then true else (List.range (ln p)).all (fun j => Z p j)
theorem fvZ_full {ad : Nat → Nat} {Z : Nat → Nat → Bool} {G : G_} {p : Nat} : ∀ (l : List (Nat × Nat)) (j : Nat), (∀ i d, l[i]? = some d → 2 ≤ d.1 → Z p (j + i) = true) → fvZ ad Z G p l j = fvl ad G p l j
  | [], _, _ => rfl
  | (0, _) :: r, j, h => by
    simp only [fvZ, fvl]
    rw [fvZ_full r (j + 1) (fun i d h1 h2 => by have := h (i + 1) d (by simpa using h1) h2; rwa [show j + 1 + i = j + (i + 1) by omega])]
  | (1, _) :: r, j, h => by
    simp only [fvZ, fvl]
    rw [fvZ_full r (j + 1) (fun i d h1 h2 => by have := h (i + 1) d (by simpa using h1) h2; rwa [show j + 1 + i = j + (i + 1) by omega])]
  | (x + 2, y) :: r, j, h => by
    simp only [fvZ, fvl]
    have h0 := h 0 (x + 2, y) rfl (by show 2 ≤ x + 2; omega)
    rw [Nat.add_zero] at h0
    rw [if_pos h0, fvZ_full r (j + 1) (fun i d h1 h2 => by have := h (i + 1) d (by simpa using h1) h2; rwa [show j + 1 + i = j + (i + 1) by omega])]
theorem full_P {V : VT} {Z : Nat → Nat → Bool} {G : G_} {H : Heap} (hZ : fullZ Z = true) (h : va_P V.1 vwCl (wlZ V Z G NP) H) : va_P V.1 vwCl (wl V G) H := by
  intro k q hq
  by_cases hk : k < NP
  · rw [wl_get V G hk] at hq
    cases hq
    have h1 := h k _ (wlZ_get V Z G hk)
    have h2 := List.all_eq_true.mp hZ k (List.mem_range.mpr hk)
    by_cases c1 : kd k < 9
    · rw [if_pos c1] at h2
      rw [enZ_obj rfl c1] at h1
      rw [en_obj rfl c1, ← fvZ_full (Z := Z) (fl (kd k)) 0 (fun i d h3 h4 => ?_)]
      · exact h1
      · have hl := (List.getElem?_eq_some_iff.mp h3).1
        have h5 := List.all_eq_true.mp h2 i (List.mem_range.mpr hl)
        rw [List.getD_eq_getElem?_getD, h3] at h5
        obtain ⟨x, y⟩ := d
        match x, h4 with
        | x + 2, _ => simpa using h5
    · rw [if_neg c1] at h2
      by_cases c2 : kd k < 12
      · rw [enZ_arr rfl (by omega) c2] at h1
        rw [en_arr rfl (by omega) c2]
        exact h1
      · rw [if_neg c2] at h2
        rw [enZ_ra rfl (by omega)] at h1
        rw [en_ra rfl (by omega)]
        have h1 : H[V.2.2.1 k]? = some (vp_cell (V.2.1 (kd k)) (ln k, .inr (.inr (.inr (.inr (fun i => if Z k i = true then some (V.2.2.1 (rb (kd k) + rs (kd k) * i)) else none)))))) := h1
        show H[V.2.2.1 k]? = some (vp_cell (V.2.1 (kd k)) (ln k, .inr (.inr (.inr (.inr (fun i => some (V.2.2.1 (rb (kd k) + rs (kd k) * i))))))))
        rw [h1, vp_cell_q, vp_cell_q]
        congr 1
        refine arrV_congr (fun j hj => ?_)
        have h5 := List.all_eq_true.mp h2 j (List.mem_range.mpr hj)
        rw [if_pos h5]
  · rw [List.getElem?_eq_none (by simp [wl]; omega)] at hq
    cases hq

theorem z_callI {K : CT} {cc : ByteArray} {own : String} {Ts : List Cond} {fr lo cl0 sl0 nL0 : Nat} {Z : Nat → Nat → Bool} {n cs sl pc : Nat} {L : List (Nat × Value)} {st : List Value} {G : G_} {y : MethodName} {bytes : ByteArray} {maxL index frc loc mc ms n' : Nat} {Z' : Nat → Nat → Bool} {G1 : G_} {p0 : Nat} (hc : OkZ K cc own Ts fr lo cl0 sl0 nL0) (hM : MCZ (kl K) (kV K) y bytes maxL frc loc [.ref (kad K p0)] Z n G Z' n' G1 mc ms) (mw : MWI y bytes maxL 0) (hlink : Cond.methodLink own index y ∈ TB) (hw : (st.map fun v => v.category).sum ≤ 8) (hroom : frc + 1 ≤ fr ∧ 8 + (maxL + 11) + loc ≤ lo) (hcs : cs + mc ≤ cl0) (hsl0 : sl + ms ≤ sl0) (hd : decode cc pc = .ok (.invokespecial index, 3)) (k : XZ K Z' n' (cs + mc) (sl + ms) (pc + 3) L st G1) : XZ K Z n cs sl pc L (.ref (kad K p0) :: st) G := by
  obtain ⟨p, l, e, R, s, m, args, below, meth, c, nL, V, cells, slots, Q⟩ := K
  obtain ⟨hx, hb, hml, hown, hts, ⟨hK, hZ, hVA⟩, hlk, hR, hnL, ⟨w0, hw0⟩, hbase⟩ := hc
  obtain ⟨hd1, hcode, hini, hinst, hyn⟩ := mw
  intro hF H locs ls hz hP hS hl
  subst hw0 hnL
  have hr := va_runI (As := []) (rest := st) (cells := cs) (slots := sl) (g := F0 m pc ls (.ref (V.2.2.1 p0) :: st)) (b := V.2.2.1 p0) (e := e) (below := below) (meth := meth) (locs := locs) (H := H) ⟨hx, hb, hml, hown, hts⟩ hM (cwI 0 hts (TB_in (fun w hw1 => by
    rcases List.mem_cons.mp hw1 with rfl | h
    · exact hcode
    · exact h)) rfl rfl rfl (TB_use hts rfl hini) (TB_use hts rfl hlink) (TB_use hts rfl hinst) hyn hd1 (by rw [hR.1, hR.2.1]; exact hroom)) ⟨fun a U g mk q => ⟨q.1, ⟨va_K.moved (u := U) (U := U.calling g mk a) (Vm.Alike.refl U.vm) q.2.1.1, fun w hw => va_Nw.same (nest_tab w hw) (u := U) (U := U.calling g mk a) rfl (q.2.1.2 w hw)⟩, q.2.2.1, ⟨va_AO.moved (u := U) (U := U.calling g mk a) (Vm.Alike.refl U.vm) q.2.2.2.1.1, va_AO.moved (u := U) (U := U.calling g mk a) (Vm.Alike.refl U.vm) q.2.2.2.1.2.1, va_AO.moved (u := U) (U := U.calling g mk a) (Vm.Alike.refl U.vm) q.2.2.2.1.2.2.1, va_AO.moved (u := U) (U := U.calling g mk a) (Vm.Alike.refl U.vm) q.2.2.2.1.2.2.2.1, va_AO.moved (u := U) (U := U.calling g mk a) (Vm.Alike.refl U.vm) q.2.2.2.1.2.2.2.2⟩, q.2.2.2.2⟩, fun U hU hW => ⟨rfl, hK.warm hW, hZ, hVA.warm hW, by rw [hU]; exact hz, hF, by rw [hU]; exact hP⟩⟩ rfl rfl hl.1 rfl (lv_room hw) hd ⟨by rw [hR.2.2.1]; exact hcs, by rw [hR.2.2.2]; exact hsl0⟩
  intro T hT X0
  obtain ⟨v, st₀, t, T', L1, h0, X', hL, e1, e2, ⟨⟨hv, h4, h5, h6⟩, hz2, hk⟩, st2⟩ := hr T hT X0
  cases hv
  rw [h0] at hz2 hk
  obtain ⟨t2, a1, b1⟩ := k h5 T'.heap (locs ++ L1) ls (by rw [e1]; exact h4) (by rw [e1]; exact h6) ⟨Nat.le_trans hS.1 (by rw [e1]; exact hz2), fun q h1 h2 => by rw [e1, hk q (Nat.lt_of_lt_of_le h1 hS.1) h2]; exact hS.2.1 q h1 h2, fun q hq => by
      rcases List.mem_append.mp hq with h | h
      · exact hS.2.2 q h
      · exact hL q h⟩ hl T' rfl X'
  exact ⟨t2, st2 t2 a1, b1⟩

theorem ty_84 : Cond.initialized RX7 ∈ TB := TB_mem 84 (by decide +kernel) (by decide +kernel)
theorem ty_92 : Cond.initialized RX8 ∈ TB := TB_mem 92 (by decide +kernel) (by decide +kernel)
theorem ty_96 : Cond.classLink RL 7 RX7 ∈ TB := TB_mem 96 (by decide +kernel) (by decide +kernel)
theorem ty_97 : Cond.instantiable RX7 19 ∈ TB := TB_mem 97 (by decide +kernel) (by decide +kernel)
theorem ty_98 : Cond.methodLink RL 9 yX7_init ∈ TB := TB_mem 98 (by decide +kernel) (by decide +kernel)
theorem ty_113 : Cond.instantiable RX0 17 ∈ TB := TB_mem 113 (by decide +kernel) (by decide +kernel)
theorem ty_119 : Cond.instantiable RX2 6 ∈ TB := TB_mem 119 (by decide +kernel) (by decide +kernel)
theorem ty_208 : Cond.instantiable RX3 2 ∈ TB := TB_mem 208 (by decide +kernel) (by decide +kernel)
theorem ty_221 : Cond.instantiable RX5 5 ∈ TB := TB_mem 221 (by decide +kernel) (by decide +kernel)
theorem ty_255 : Cond.instantiable RX1 3 ∈ TB := TB_mem 255 (by decide +kernel) (by decide +kernel)
theorem ty_271 : Cond.instantiable RX4 2 ∈ TB := TB_mem 271 (by decide +kernel) (by decide +kernel)
theorem ty_285 : Cond.instantiable RX6 2 ∈ TB := TB_mem 285 (by decide +kernel) (by decide +kernel)
theorem ty_674 : Cond.laysStatic "SlabTurn" "PARENT" "[I" ∈ lw_tbl := List.mem_of_getElem? (i := 674) (by decide +kernel)
theorem ty_795 : Cond.laysStatic "SlabTurn" "TURNS_TRIED" "[I" ∈ lw_tbl := List.mem_of_getElem? (i := 795) (by decide +kernel)
theorem ty_1011 : Cond.classLink RL 10 RX8 ∈ TB := TB_mem 1011 (by decide +kernel) (by decide +kernel)
theorem ty_1012 : Cond.instantiable RX8 31 ∈ TB := TB_mem 1012 (by decide +kernel) (by decide +kernel)
theorem ty_1013 : Cond.methodLink RL 12 yX8_init ∈ TB := TB_mem 1013 (by decide +kernel) (by decide +kernel)
theorem nest_in : ∀ w ∈ nestWs, w ∈ lw_tbl := by
  intro w h
  simp only [nestWs, List.mem_cons, List.not_mem_nil, or_false] at h
  rcases h with rfl | rfl | rfl | rfl | rfl | rfl | rfl | rfl | rfl | rfl | rfl | rfl
  · exact List.mem_of_getElem? (i := 114) (by decide +kernel)
  · exact List.mem_of_getElem? (i := 120) (by decide +kernel)
  · exact List.mem_of_getElem? (i := 209) (by decide +kernel)
  · exact List.mem_of_getElem? (i := 222) (by decide +kernel)
  · exact List.mem_of_getElem? (i := 253) (by decide +kernel)
  · exact List.mem_of_getElem? (i := 256) (by decide +kernel)
  · exact List.mem_of_getElem? (i := 272) (by decide +kernel)
  · exact List.mem_of_getElem? (i := 286) (by decide +kernel)
  · exact List.mem_of_getElem? (i := 495) (by decide +kernel)
  · exact List.mem_of_getElem? (i := 707) (by decide +kernel)
  · exact List.mem_of_getElem? (i := 858) (by decide +kernel)
  · exact List.mem_of_getElem? (i := 876) (by decide +kernel)
theorem z_astore_n {K : CT} {cc : ByteArray} {own : String} {Ts : List Cond} {fr lo cl0 sl0 nL0 : Nat} {Z : Nat → Nat → Bool} {n cs sl pc : Nat} {L : List (Nat × Value)} {st : List Value} {G : G_} {j : Fin 4} {i : Nat} {x : Nat} {L' : List (Nat × Value)} (hc : OkZ K cc own Ts fr lo cl0 sl0 nL0) (ks : List Nat) (hd : decode cc pc = .ok (.astore_n j, 1)) (hi : (j : Nat) = i) (hn : i < nL0) (hL : lv_pick ((i, Value.ref x) :: L.filter (fun q => !(q.1 == i) && !(q.1 + 1 == i && q.2.category == 2))) ks = L') (k : XZ K Z n cs sl (pc + 1) L' st G) : XZ K Z n cs sl pc L (.ref x :: st) G := by
  obtain ⟨p, l, e, R, s, m, args, below, meth, c, nL, V, cells, slots, Q⟩ := K
  obtain ⟨hx, hb, hml, hown, hts, ⟨hK, hZ, hVA⟩, hlk, hR, hnL, ⟨w0, hw0⟩, hbase⟩ := hc
  subst hnL
  exact fun hF H locs ls hz hP hS hl => lv_astore_n hx hb hd hi hl hn rfl (fun ls hl => k hF H locs ls hz hP hS (lv_sub hl ks hL))
def Z8 : Nat → Nat → Bool := zi_X8 (zi_X7 (fun _ _ => false))
theorem full_8 : fullZ Z8 = true := by decide +kernel

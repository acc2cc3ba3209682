/-! THE CLAIM OUT OF ONE WALK OF THE LAW'S BODY. Your part is whole_start (and what it stands on); all else here is the same for every law, but numbers. -/
def R_law : String := "SlabTurnLaw"
def lw_P (b : Addr) (xs : List Int32) (args : Array Value) (s : State) : Prop := args = #[.ref b] ∧ s.IntsAt b xs ∧ xs.length ≤ 260 ∧ (Jvm.Cond.and given_1 narrow_1).before args s = true
def lw_Q (_ : Array Value) (s : State) (o : Outcome) (t : State) : Prop := o = .returned (some (.int 1)) ∧ Framed s o t [] 600000 7302250
def lw_Z (below : List Frame) (a : Array Value) (s : State) : State → Prop := fun t => ∃ o, t.status = .running ∧ Ended t below o ∧ lw_Q a s o t
/-- the law's own end, with 1 on the stack, nothing written that was there before, its room as the claim has it -/
theorem lw_ret {p : Program} {l : Launch} {e : Env} {s : State} {m : MethodId} {below : List Frame} {meth : Method} {c : Code} {b : Nat} (hx : p.tables.exec = Jvm.exec) (hb : c.code = code) (hr : meth.sig.returnType = ret) (hlocks : meth.locks = false) {pc : Nat} {H : Heap} {ls : Array Slot} (hdg : decode code pc = .ok (.ireturn, 1)) : W p l e room_1 s m #[Value.ref b] below meth c H [] 600000 7302250 (lw_Z below #[Value.ref b] s) (F0 m pc ls [.int 1]) := by
  intro T hT X
  obtain ⟨fs, hret, hrun, hended, hW, hframe⟩ := X.leave (v := some (.int 1)) (hlocks := hlocks) (fun h => by rw [hr] at h; cases h)
  have hmeth' : T.vm.method? m = some meth := X.method'
  refine ⟨T.setFrames fs, ?_, .returned (some (.int 1)), hrun, hended, rfl, ⟨_, rfl⟩, hW, hframe⟩
  jvm_step X.here [X.here.top, hx, hb, hdg, hmeth', hr, ret, narrow_b1]
  (try refine ⟨rfl, ?_⟩); (try refine ⟨rfl, ?_⟩)
  first | (intro acts; rw [hret _ acts rfl rfl rfl]) | rw [hret _ _ rfl rfl rfl]
  exact Steps.refl _
/-- what holds at the law's entry: the machine, the code, the tables' words (any of lw_tbl by 'hts w (by decide +kernel)'), the script of L ints xs at the cell b, what the Statement gives of the start (any of its parts by flat_of_before) -/
def lw_At (p : Program) (s : State) (m : MethodId) (meth : Method) (c : Code) (b L : Nat) (xs : Nat → Int32) : Prop :=
  p.tables.exec = Jvm.exec ∧ c.code = code ∧ meth.sig.returnType = ret ∧ c.maxLocals = 19 ∧ s.vm.findClass R_law = some m.cls ∧ (∀ w ∈ lw_tbl, w.before #[Value.ref b] s = true) ∧ va_X b L xs s s.heap ∧ b < s.heap.size ∧ meth.locks = false ∧ (Jvm.Cond.and given_1 narrow_1).before #[Value.ref b] s = true

set_option maxHeartbeats 8000000 in
set_option maxRecDepth 100000 in
theorem whole_start {p : Program} {e : Env} {s : State} {m : MethodId} {below : List Frame} {meth : Method} {c : Code} (l : Launch) (hflags : l.flags = flags0) {b L : Nat} {xs : Nat → Int32} (hL : L ≤ 260) (C0 : lw_At p s m meth c b L xs) : W p l e room_1 s m #[Value.ref b] below meth c s.heap [] 0 0 (lw_Z below #[Value.ref b] s) (entryFrame m ([Value.ref b] : List Value).toArray 19) := by
  obtain ⟨hx, hb, hr, hml, hown, hts, hX, hbl, hlocks, hgv⟩ := id C0
  have hA : ∀ a : Nat, a < s.heap.size → ¬ (fun q : Nat => s.heap.size ≤ q) a := fun a h q => Nat.not_le.mpr h q
  have sub : ∀ {w : Cond}, w ∈ TB → w.before #[Value.ref b] s = true := fun h => hts _ (List.mem_filter.mp h).1
  obtain ⟨c0, i0, k0⟩ := u_known (C := RX0) (T := TX0) (N := 17) (n := 17) hts (fun w h => (List.mem_filter.mp (in_X0 w h)).1) (sub ty_55)
  obtain ⟨c1, i1, k1⟩ := u_known (C := RX1) (T := TX1) (N := 3) (n := 3) hts (fun w h => (List.mem_filter.mp (in_X1 w h)).1) (sub ty_197)
  obtain ⟨c2, i2, k2⟩ := u_known (C := RX2) (T := TX2) (N := 6) (n := 6) hts (fun w h => (List.mem_filter.mp (in_X2 w h)).1) (sub ty_61)
  obtain ⟨c3, i3, k3⟩ := u_known (C := RX3) (T := TX3) (N := 2) (n := 2) hts (fun w h => (List.mem_filter.mp (in_X3 w h)).1) (sub ty_150)
  obtain ⟨c4, i4, k4⟩ := u_known (C := RX4) (T := TX4) (N := 2) (n := 2) hts (fun w h => (List.mem_filter.mp (in_X4 w h)).1) (sub ty_213)
  obtain ⟨c5, i5, k5⟩ := u_known (C := RX5) (T := TX5) (N := 5) (n := 5) hts (fun w h => (List.mem_filter.mp (in_X5 w h)).1) (sub ty_163)
  obtain ⟨c6, i6, k6⟩ := u_known (C := RX6) (T := TX6) (N := 2) (n := 2) hts (fun w h => (List.mem_filter.mp (in_X6 w h)).1) (sub ty_226)
  obtain ⟨c7, i7, k7⟩ := u_known (C := RX7) (T := TX7) (N := 19) (n := 19) hts (fun w h => (List.mem_filter.mp (in_X7 w h)).1) (sub ty_39)
  obtain ⟨a9, ka9, co9, f9, g9, h9⟩ := Cond.arrayClass_spec (hts (.arrayClass .byte) (List.mem_of_getElem? (i := 239) (by decide +kernel)))
  obtain ⟨a10, ka10, co10, f10, g10, h10⟩ := Cond.arrayClass_spec (hts (.arrayClass .int) (List.mem_of_getElem? (i := 91) (by decide +kernel)))
  have ao12 := hts (.arrayOver (.object "SlabTurn$Dish")) (List.mem_of_getElem? (i := 148) (by decide +kernel))
  obtain ⟨co12, a12, ka12, e12, j12, g12, h12, f12⟩ := Cond.arrayOver_spec ao12
  have ao13 := hts (.arrayOver (.object "SlabTurn$Plan")) (List.mem_of_getElem? (i := 53) (by decide +kernel))
  obtain ⟨co13, a13, ka13, e13, j13, g13, h13, f13⟩ := Cond.arrayOver_spec ao13
  have ao14 := hts (.arrayOver (.object "SlabTurn$Row")) (List.mem_of_getElem? (i := 47) (by decide +kernel))
  obtain ⟨co14, a14, ka14, e14, j14, g14, h14, f14⟩ := Cond.arrayOver_spec ao14
  have ao15 := hts (.arrayOver (.object "SlabTurn$Slab")) (List.mem_of_getElem? (i := 51) (by decide +kernel))
  obtain ⟨co15, a15, ka15, e15, j15, g15, h15, f15⟩ := Cond.arrayOver_spec ao15
  have ao16 := hts (.arrayOver (.object "SlabTurn$Text")) (List.mem_of_getElem? (i := 49) (by decide +kernel))
  obtain ⟨co16, a16, ka16, e16, j16, g16, h16, f16⟩ := Cond.arrayOver_spec ao16
  have hs0 := flat_of_before _ hgv
  have el_sPA : ∀ j : Nat, j < 7 → (Term.elem (Term.static "SlabTurn" "PARENT" "[I") (.int (Int32.ofNat j))).eval #[Value.ref b] s none [] s = some (.int (sPA j)) := by
    intro j hj
    match j, hj with
    | 0, _ => exact va_eqt (hs0 (Cond.eq (.elem (Term.static "SlabTurn" "PARENT" "[I") (.int 0)) (.int (-1))) (by decide +kernel))
    | 1, _ => exact va_eqt (hs0 (Cond.eq (.elem (Term.static "SlabTurn" "PARENT" "[I") (.int 1)) (.int 0)) (by decide +kernel))
    | 2, _ => exact va_eqt (hs0 (Cond.eq (.elem (Term.static "SlabTurn" "PARENT" "[I") (.int 2)) (.int 0)) (by decide +kernel))
    | 3, _ => exact va_eqt (hs0 (Cond.eq (.elem (Term.static "SlabTurn" "PARENT" "[I") (.int 3)) (.int 0)) (by decide +kernel))
    | 4, _ => exact va_eqt (hs0 (Cond.eq (.elem (Term.static "SlabTurn" "PARENT" "[I") (.int 4)) (.int 2)) (by decide +kernel))
    | 5, _ => exact va_eqt (hs0 (Cond.eq (.elem (Term.static "SlabTurn" "PARENT" "[I") (.int 5)) (.int 1)) (by decide +kernel))
    | 6, _ => exact va_eqt (hs0 (Cond.eq (.elem (Term.static "SlabTurn" "PARENT" "[I") (.int 6)) (.int 3)) (by decide +kernel))
    | j + 7, h => exact absurd h (by omega)
  obtain ⟨tsPA, usPA, vsPA⟩ := va_Tof (A := fun q : Nat => s.heap.size ≤ q) (tm := (Term.static "SlabTurn" "PARENT" "[I")) (ty := .int) (N := 7) (f := fun j => .int (sPA j)) (by decide) (hs0 (Cond.arrayOf (Term.static "SlabTurn" "PARENT" "[I") .int) (by decide +kernel)) (va_eqt (hs0 (Cond.eq (.length (Term.static "SlabTurn" "PARENT" "[I")) (.int 7)) (by decide +kernel))) el_sPA hA
  have zsPA := va_Zof (A := fun q : Nat => s.heap.size ≤ q) (hts _ ty_637) (sub ty_28) usPA hA
  have el_sTU : ∀ j : Nat, j < 5 → (Term.elem (Term.static "SlabTurn" "TURNS_TRIED" "[I") (.int (Int32.ofNat j))).eval #[Value.ref b] s none [] s = some (.int (sTU j)) := by
    intro j hj
    match j, hj with
    | 0, _ => exact va_eqt (hs0 (Cond.eq (.elem (Term.static "SlabTurn" "TURNS_TRIED" "[I") (.int 0)) (.int 1)) (by decide +kernel))
    | 1, _ => exact va_eqt (hs0 (Cond.eq (.elem (Term.static "SlabTurn" "TURNS_TRIED" "[I") (.int 1)) (.int 2)) (by decide +kernel))
    | 2, _ => exact va_eqt (hs0 (Cond.eq (.elem (Term.static "SlabTurn" "TURNS_TRIED" "[I") (.int 2)) (.int 4)) (by decide +kernel))
    | 3, _ => exact va_eqt (hs0 (Cond.eq (.elem (Term.static "SlabTurn" "TURNS_TRIED" "[I") (.int 3)) (.int 8)) (by decide +kernel))
    | 4, _ => exact va_eqt (hs0 (Cond.eq (.elem (Term.static "SlabTurn" "TURNS_TRIED" "[I") (.int 4)) (.int 40)) (by decide +kernel))
    | j + 5, h => exact absurd h (by omega)
  obtain ⟨tsTU, usTU, vsTU⟩ := va_Tof (A := fun q : Nat => s.heap.size ≤ q) (tm := (Term.static "SlabTurn" "TURNS_TRIED" "[I")) (ty := .int) (N := 5) (f := fun j => .int (sTU j)) (by decide) (hs0 (Cond.arrayOf (Term.static "SlabTurn" "TURNS_TRIED" "[I") .int) (by decide +kernel)) (va_eqt (hs0 (Cond.eq (.length (Term.static "SlabTurn" "TURNS_TRIED" "[I")) (.int 5)) (by decide +kernel))) el_sTU hA
  have zsTU := va_Zof (A := fun q : Nat => s.heap.size ≤ q) (hts _ ty_798) (sub ty_28) usTU hA
  obtain ⟨D, hD1⟩ : ∃ D : va_G, ∀ (k : Nat) (q : vw_C), vwCl[k]? = some q → u_Kn s q.1 q.2.1 q.2.2 (D.1 k) (D.2 k) := by
    refine ⟨(fun k => [c0, c1, c2, c3, c4, c5, c6, c7].getD k 0, fun k => [i0, i1, i2, i3, i4, i5, i6, i7].getD k (fun _ => 0)), fun k q hq => ?_⟩
    match k, hq with
    | 0, hq => cases hq; exact k0
    | 1, hq => cases hq; exact k1
    | 2, hq => cases hq; exact k2
    | 3, hq => cases hq; exact k3
    | 4, hq => cases hq; exact k4
    | 5, hq => cases hq; exact k5
    | 6, hq => cases hq; exact k6
    | 7, hq => cases hq; exact k7
    | k + 8, hq => simp [vwCl] at hq
  obtain ⟨cA, hcA⟩ : ∃ cA : Nat → ClassId, ∀ (k : Nat) (q : ClassId × FieldType), (vtys cA)[k]? = some q → ArrOfT s q.1 q.2 ∧ va_RA s q.1 q.2 := by
    refine ⟨fun k => [a9, a10, a10, a12, a13, a14, a15, a16].getD (k - 9) 0, fun k q hq => ?_⟩
    match k, hq with
    | 0, hq => cases hq; exact ⟨fun n z => ⟨fun k h => (by cases h), ka9, g9, co9, h9⟩, f9⟩
    | 1, hq => cases hq; exact ⟨fun n z => ⟨fun k h => (by cases h), ka10, g10, co10, h10⟩, f10⟩
    | 2, hq => cases hq; exact ⟨fun n z => ⟨fun k h => (by cases h), ka10, g10, co10, h10⟩, f10⟩
    | 3, hq => cases hq; exact ⟨fun n z => ⟨fun k h => (by cases h), ka12, g12, co12, h12⟩, ka12, co12, g12, h12, e12, f12⟩
    | 4, hq => cases hq; exact ⟨fun n z => ⟨fun k h => (by cases h), ka13, g13, co13, h13⟩, ka13, co13, g13, h13, e13, f13⟩
    | 5, hq => cases hq; exact ⟨fun n z => ⟨fun k h => (by cases h), ka14, g14, co14, h14⟩, ka14, co14, g14, h14, e14, f14⟩
    | 6, hq => cases hq; exact ⟨fun n z => ⟨fun k h => (by cases h), ka15, g15, co15, h15⟩, ka15, co15, g15, h15, e15, f15⟩
    | 7, hq => cases hq; exact ⟨fun n z => ⟨fun k h => (by cases h), ka16, g16, co16, h16⟩, ka16, co16, g16, h16, e16, f16⟩
    | k + 8, hq => simp [vtys] at hq
  generalize hVe : ((D, cA, (fun k => s.heap.size + k), (fun q : Nat => s.heap.size ≤ q), tsPA, tsTU, 0, b, L, xs) : VT) = V
  have hVZ : VZ V := by rw [← hVe]; exact ⟨fun k => by simp, fun q h => by simpa using h⟩
  have hVK : VK V s := by
    rw [← hVe]
    refine ⟨⟨hD1, hcA⟩, fun w hw => va_Nw.of (nest_tab w hw) (hts w (nest_in w hw))⟩
  have hVH : VH V s s.heap := by rw [← hVe]; exact ⟨⟨zsPA, vsPA⟩, ⟨zsTU, vsTU⟩, scr_T hX hbl (hA b hbl)⟩
  have hVA : VA s := ⟨va_AO.of ao14, va_AO.of ao16, va_AO.of ao15, va_AO.of ao13, va_AO.of ao12⟩
  have htsT : ∀ w ∈ (Cond.initialized "SlabTurn" :: TB), w.before #[Value.ref b] s = true := fun w h => (List.mem_cons.mp h).elim (fun e => by rw [e]; exact sub ty_28) sub
  have had0 : V.2.2.1 0 = s.heap.size := by rw [← hVe]; rfl
  have hVb : ¬ V.2.2.2.1 b := by rw [← hVe]; exact Nat.not_le.mpr hbl
  have hVA2 : V.2.2.2.1 = fun q : Nat => s.heap.size ≤ q := by rw [← hVe]
  have hnl : vNL V = 0 := by rw [← hVe]
  have hsb : vSB V = b := by rw [← hVe]
  have hsc : SCO V L xs := by rw [← hVe]; exact ⟨rfl, rfl⟩
  have hcZ : OkZ (p, l, e, room_1, s, m, #[Value.ref b], below, meth, c, 19, V, 248, 3658, lw_Z below #[Value.ref b] s) cL_law RL (Cond.initialized "SlabTurn" :: TB) 10 398 600000 7302250 19 := ⟨hx, hb, hml, hown, htsT, ⟨hVK, hVZ, hVA⟩, hlocks, ⟨rfl, rfl, rfl, rfl⟩, rfl, ⟨_, rfl⟩, Nat.le_of_eq had0⟩
  have hcX : Ok (p, l, e, room_1, s, m, #[Value.ref b], below, meth, c, 19, V, 248, 3658, lw_Z below #[Value.ref b] s) cL_law RL (Cond.initialized "SlabTurn" :: TB) ret 10 398 19 := ⟨hx, hb, hml, hown, htsT, ⟨hVK, wl_D hVZ, hVH⟩, hlocks, hr, ⟨rfl, rfl, Nat.le_of_ble_eq_true rfl, Nat.le_of_ble_eq_true rfl⟩, rfl, _, rfl⟩
  have hend : ∀ (V2 : VT) (c2 s2 : Nat), V2.2.2.2.1 = V.2.2.2.1 → c2 ≤ 600000 → s2 ≤ 7302250 → ∀ (L' : List (Nat × Value)) (G : G_), X (p, l, e, room_1, s, m, #[Value.ref b], below, meth, c, 19, V2, c2, s2, lw_Z below #[Value.ref b] s) 965 L' [.int 1] G := by
    intro V2 c2 s2 e2 hc2 hs2 L' G H locs ls hP hS hl
    have hS2 : ∀ q ∈ locs, s.heap.size ≤ q.base := fun q hq => by have := hS.2.2 q hq; rw [e2, hVA2] at this; exact this
    refine va_forget hS2 ?_
    refine W.widen (k := 600000) (n := 7302250) hc2 hs2 ?_
    exact lw_ret hx hb hr hlocks dL_law_965
  have main : XZ (p, l, e, room_1, s, m, #[Value.ref b], below, meth, c, 19, V, 248, 3658, lw_Z below #[Value.ref b] s) (fun _ _ => false) 0 0 0 0 [(0, .ref b)] [] ((fun _ _ => 0), (fun _ _ => 0)) := by
    refine z_new (T := TX7) hcZ tyX7 tyX7_ok in_X7 rfl (by decide) (rfl : kd 0 = 7) hdt_X7 ty_38 ty_39 ty_28 (Nat.le_of_ble_eq_true rfl) (Nat.le_of_ble_eq_true rfl) dL_law_0 ?_
    refine z_dup hcZ rfl dL_law_3 ?_
    refine z_callI (p0 := 0) hcZ (z_X7_init l V _ _) mi_X7 ty_40 (Nat.le_of_ble_eq_true rfl) ⟨Nat.le_of_ble_eq_true rfl, Nat.le_of_ble_eq_true rfl⟩ (Nat.le_of_ble_eq_true rfl) (Nat.le_of_ble_eq_true rfl) dL_law_4 ?_
    refine z_astore_n (L' := [(0, .ref b), (1, .ref (V.2.2.1 0))]) hcZ [1, 0] dL_law_7 rfl (by decide) rfl ?_
    refine z_new (T := TX7) hcZ tyX7 tyX7_ok in_X7 rfl (by decide) (rfl : kd 124 = 7) hdt_X7 ty_38 ty_39 ty_28 (Nat.le_of_ble_eq_true rfl) (Nat.le_of_ble_eq_true rfl) dL_law_8 ?_
    refine z_dup hcZ rfl dL_law_11 ?_
    refine z_callI (p0 := 124) hcZ (z_X7q_init l V _ _) mi_X7 ty_40 (Nat.le_of_ble_eq_true rfl) ⟨Nat.le_of_ble_eq_true rfl, Nat.le_of_ble_eq_true rfl⟩ (Nat.le_of_ble_eq_true rfl) (Nat.le_of_ble_eq_true rfl) dL_law_12 ?_
    refine z_astore_n (L' := [(0, .ref b), (1, .ref (V.2.2.1 0)), (2, .ref (V.2.2.1 124))]) hcZ [1, 2, 0] dL_law_15 rfl (by decide) rfl ?_
    have hgo := law_rows l hVA2 hnl hsb hsc hcX (fun q hq => by rw [had0] at hq; exact hq) hend (law_pure L hL xs)
    exact fun hF H locs ls hz hP hS hl => hgo H locs ls (full_P hnl full_8 hP) hS hl
  rw [lg_entry_eq]
  exact main (fun p _ => ⟨fun _ => rfl, fun _ => rfl, fun _ => rfl⟩) s.heap [] _ (by rw [had0]; rfl) (fun k q h => by simp [wlZ] at h) va_S.rf (lv_entry [.ref b] (Nat.le_of_ble_eq_true rfl))

set_option maxHeartbeats 4000000 in
theorem lw_walk (l : Launch) (hflags : l.flags = flags0) (b : Addr) (xs : List Int32) : MetFree l x (headSpec (Jvm.Cond.code x code maxLocals ret :: tables_1) room_1) (lw_P b xs) (fun _ _ _ _ _ => True) lw_Q := by
  refine MetFree.of_bodyS (code := code) (maxLocals := maxLocals) (ret := ret) (by decide) ?_ ?_
  · intro args s m h hn
    obtain ⟨meth, c, h1, h2, h3, h4, h5, h6, -, -⟩ := Cond.code_spec hn (atoms_spec (ws := Jvm.Cond.code x code maxLocals ret :: tables_1) h _ List.mem_cons_self)
    exact ⟨meth, c, h1, h2, h3, h4, h5, h6⟩
  · intro p e s m args below meth c s₁ B hml0 hP _
    obtain ⟨rfl, hx, hbd, hgv⟩ := hP
    obtain ⟨scr, harrAt, hlist, hof, hsmall⟩ := hx
    obtain ⟨hcb, hkn, -, -⟩ := State.arrayAt?_spec harrAt
    have hown : s.vm.findClass R_law = some m.cls := findClass_of_methodNamed B.named
    have hts0 : ∀ c ∈ (Jvm.Cond.code x code maxLocals ret :: tables_1), c.before #[Value.ref b] s = true := atoms_spec (ws := Jvm.Cond.code x code maxLocals ret :: tables_1) B.pre
    have hts : ∀ w ∈ lw_tbl, w.before #[Value.ref b] s = true := k2_hts_sels lw_privs (fun w hw => hts0 w (List.mem_cons_of_mem _ hw)) lw_privs_ok
    have hml : c.maxLocals = 19 := B.maxLocals_eq (hts0 _ List.mem_cons_self)
    have X₀ : Stand p l e room_1 s m #[Value.ref b] below meth c s₁ [] 0 0 := Stand.of_body B
    have hh0 : s₁.heap = s.heap := by rw [B.state]; rfl
    have hsz : scr.slots.size = xs.length := by rw [← Array.length_toList, hlist, List.length_map]
    have hval : ∀ j : Nat, j < xs.length → scr.slots[j]? = some (.int (xs.getD j 0)) := fun j hj => by
      rw [← Array.getElem?_toList, hlist]
      simp [hj]
    have hbl : b < s.heap.size := (Array.getElem?_eq_some_iff.mp hcb).1
    have hX : va_X b xs.length (fun j => xs.getD j 0) s s.heap := ⟨scr, hcb, hof, hkn, hsz, hval⟩
    have K : W p l e room_1 s m #[Value.ref b] below meth c s₁.heap [] 0 0 (lw_Z below #[Value.ref b] s) (entryFrame m ([Value.ref b] : List Value).toArray 19) := by
      rw [hh0]
      exact whole_start l hflags hbd ⟨B.exec, B.bytes, B.returns, hml, hown, hts, hX, hbl, B.notSynchronized, hgv⟩
    obtain ⟨t, a1, o, b1, b2, b3⟩ := K s₁ rfl X₀
    exact ⟨t, o, a1, b1, b2, b3⟩
theorem lw_pre_spec {args : Array Value} {s : State} (h : (Jvm.Cond.and given_1 narrow_1).before args s = true) (hr : rest_1_c.before args s = true) : ∃ (b : Addr) (xs : List Int32), lw_P b xs args s := by
  have hs := flat_of_before _ h
  have hq := flat_of_before _ hr
  have hc : (Cond.count 1).before args s = true := hs _ (by decide +kernel)
  have harr : (Cond.arrayOf (.arg 0) .int).before args s = true := hs _ (by decide +kernel)
  have hle : (Cond.le (.length (.arg 0)) (.int 260)).before args s = true := hs _ (by decide +kernel)
  have hlen : (Cond.isInt (.length (.arg 0))).before args s = true := hq _ (by decide +kernel)
  have hall : (Cond.all (.arg 0) (.isInt (.elem (.arg 0) (.index 0)))).before args s = true := hq _ (by decide +kernel)
  obtain ⟨b, xs, hb, hx⟩ := State.ints_of_pre rfl harr hlen hall
  have hsm : xs.length < 2 ^ 31 := hx.choose_spec.2.2.2
  have hev : (Term.length (.arg 0)).eval args s none [] s = some (.int xs.length.toInt32) := hx.length_eval hb
  have hv := Cond.le_ints hev (show (Term.int 260).eval args s none [] s = some (.int 260) from rfl)
  have hd : xs.length.toInt32 ≤ 260 := by
    simpa [Cond.before, Cond.holds, hv] using hle
  have hN : xs.length ≤ 260 := (Int32.ofNat_le_ofNat hsm (by decide)).mp (show Int32.ofNat xs.length ≤ Int32.ofNat 260 from hd)
  exact ⟨b, xs, Cond.one_arg hc (show args[0]? = some (.ref b) from hb), hx, hN, h⟩
theorem lw_comes (l : Launch) (hflags : l.flags = flags0) : Comes l x (Jvm.Cond.code x code maxLocals ret :: tables_1) room_1 (fun tb e args s => Calls_1 tb e args s ∧ rest_1 tb e args s ∧ Pre_1 tb e args s)
    (fun _ _ args s o t => lw_Q args s o t) := by
  intro p e ha hc hk s m args below hf hfit hheap happ hpre
  obtain ⟨b, xs, hP⟩ := lw_pre_spec hpre.2.2 hpre.2.1
  obtain ⟨k, o, h1, h2, h3, hQ⟩ := lw_walk l hflags b xs p e ha hc hk s m args below hf ((Spec.applies_iff_loose hf).mp happ).1 hP trivial
  exact ⟨k, o, h1, h2, h3, hQ⟩
theorem lw_frame {s t : State} {o : Outcome} {args : Array Value} (h : Framed s o t [] 600000 7302250) :
    Framed s o t (fieldLocs frame_1_writes args s ++ arrayLocs frame_1_arrays args s ++ staticLocs frame_1_statics s) 600000 7302250 := h
theorem lw_limb (L : Cond) (hL : ∀ (args : Array Value) (s t : State), L.after args s (.returned (some (.int 1))) t = true) :
    ArmFor flags0 classFile x code maxLocals ret World_1 tables_1 room_1 Calls_1 rest_1 Pre_1
      (fun tb e a s o t => postC L tb e a s o t ∧ Framed s o t (fieldLocs frame_1_writes a s ++ arrayLocs frame_1_arrays a s ++ staticLocs frame_1_statics s) 600000 7302250) := by
  intro l hflags _ _ p e ha hc hk s m args below hf hfit hheap happ hpre
  obtain ⟨k, o, h1, h2, h3, rfl, hF⟩ := lw_comes l hflags p e ha hc hk s m args below hf hfit hheap happ hpre
  exact ⟨k, _, h1, h2, h3, hL args s _, lw_frame hF⟩
theorem i_vc : Claimed_1_1 ∧ Claimed_1_2 := ⟨lw_limb limb_1_1 (fun args s t => by simp [limb_1_1, Cond.after, Cond.holds, Cond.value]), lw_limb limb_1_2 (fun args s t => Cond.after_iff.mpr (by
  first | (rw [show limb_1_2 = Cond.eq .result (.int 1) from rfl, Cond.eq_ints (x := 1) (y := 1) rfl rfl]; simp; done) | (simp [limb_1_2, Cond.value, Term.eval]; done)))⟩


/-! constructors: the world as far as it is made: n places, of their references those in Z set -/
def zs (Z : Nat → Nat → Bool) (p j : Nat) : Nat → Nat → Bool := fun q i => (decide (q = p) && decide (i = j)) || Z q i
def fvZ (ad : Nat → Nat) (Z : Nat → Nat → Bool) (G : G_) (p : Nat) (l : List (Nat × Nat)) : Nat → List Value := fun j => match l with
  | [] => []
  | (0, _) :: r => .int (G.1 p j) :: fvZ ad Z G p r (j + 1)
  | (1, _) :: r => .long (G.2 p j) :: fvZ ad Z G p r (j + 1)
  | (_, d) :: r => (if Z p j = true then .ref (ad (p + d)) else .null) :: fvZ ad Z G p r (j + 1)
def enZ (V : VT) (Z : Nat → Nat → Bool) (G : G_) (p : Nat) : va_E :=
  if kd p < 9 then .inr (kd p, fvZ V.2.2.1 Z G p (fl (kd p)) 0)
  else if kd p < 12 then .inl (V.2.1 (kd p), ln p, .inl (G.1 p))
  else .inl (V.2.1 (kd p), ln p, .inr (.inr (.inr (.inr (fun i => if Z p i = true then some (V.2.2.1 (rbp p + rs (kd p) * i)) else none)))))
def wlZ (V : VT) (Z : Nat → Nat → Bool) (G : G_) (n : Nat) : va_W := (List.range n).map (fun k => (V.2.2.1 k, enZ V Z G k))
def Fresh (Z : Nat → Nat → Bool) (G : G_) (n : Nat) : Prop := ∀ p, n ≤ p → (∀ j, G.1 p j = 0) ∧ (∀ j, G.2 p j = 0) ∧ ∀ j, Z p j = false
def VZ (V : VT) : Prop := (∀ k, V.2.2.1 k = V.2.2.1 0 + k) ∧ ∀ q, V.2.2.1 0 ≤ q → V.2.2.2.1 q
theorem wlZ_get (V : VT) (Z : Nat → Nat → Bool) (G : G_) {p n : Nat} (h : p < n) : (wlZ V Z G n)[p]? = some (V.2.2.1 p, enZ V Z G p) := by simp [wlZ, h]
theorem wlZ_D {V : VT} (h : VZ V) (Z : Nat → Nat → Bool) (G : G_) (n : Nat) : va_D V.2.2.2.1 (wlZ V Z G n) := by
  have key : ∀ (k : Nat) (q : Nat × va_E), (wlZ V Z G n)[k]? = some q → q.1 = V.2.2.1 k := by
    intro k q hq
    by_cases hk : k < n
    · rw [wlZ_get V Z G hk] at hq
      cases hq
      rfl
    · rw [List.getElem?_eq_none (by simp [wlZ]; omega)] at hq
      cases hq
  refine ⟨fun i j p q hi hj e => ?_, fun k q hk => ?_⟩
  · have h1 := key i p hi
    have h2 := key j q hj
    rw [h.1] at h1 h2
    omega
  · rw [key k q hk]
    exact h.2 _ (by rw [h.1 k]; omega)
theorem wlZ_set (V : VT) {Z Z' : Nat → Nat → Bool} {G G' : G_} {p n : Nat} (h : p < n) {e : va_E} (he : enZ V Z' G' p = e) (hq : ∀ q, q ≠ p → enZ V Z' G' q = enZ V Z G q) : (wlZ V Z G n).set p (V.2.2.1 p, e) = wlZ V Z' G' n := by
  apply List.ext_getElem?
  intro q
  by_cases hqp : q = p
  · subst hqp
    rw [List.getElem?_set_self (by simp [wlZ, h]), wlZ_get V Z' G' h, he]
  · rw [List.getElem?_set_ne (Ne.symm hqp)]
    by_cases hn : q < n
    · rw [wlZ_get V Z G hn, wlZ_get V Z' G' hn, hq q hqp]
    · rw [List.getElem?_eq_none (by simp [wlZ]; omega), List.getElem?_eq_none (by simp [wlZ]; omega)]
theorem wlZ_push (V : VT) (Z : Nat → Nat → Bool) (G : G_) (n : Nat) : wlZ V Z G (n + 1) = wlZ V Z G n ++ [(V.2.2.1 n, enZ V Z G n)] := by simp [wlZ, List.range_succ]
theorem fvZ_congr {ad : Nat → Nat} {Z Z' : Nat → Nat → Bool} {G G' : G_} {p : Nat} (h1 : G'.1 p = G.1 p) (h2 : G'.2 p = G.2 p) (h3 : Z' p = Z p) : ∀ (l : List (Nat × Nat)) (j : Nat), fvZ ad Z' G' p l j = fvZ ad Z G p l j
  | [], j => rfl
  | (0, _) :: r, j => by simp only [fvZ, h1, fvZ_congr h1 h2 h3 r (j + 1)]
  | (1, _) :: r, j => by simp only [fvZ, h2, fvZ_congr h1 h2 h3 r (j + 1)]
  | (_ + 2, _) :: r, j => by simp only [fvZ, h3, fvZ_congr h1 h2 h3 r (j + 1)]
theorem enZ_congr {V : VT} {Z Z' : Nat → Nat → Bool} {G G' : G_} {q : Nat} (h1 : G'.1 q = G.1 q) (h2 : G'.2 q = G.2 q) (h3 : Z' q = Z q) : enZ V Z' G' q = enZ V Z G q := by
  unfold enZ
  rw [fvZ_congr h1 h2 h3, h1, h3]
theorem zs_ne {Z : Nat → Nat → Bool} {p j q : Nat} (h : q ≠ p) : zs Z p j q = Z q := by funext i; simp [zs, h]
theorem enZ_obj {V : VT} {Z : Nat → Nat → Bool} {G : G_} {p c : Nat} (h : kd p = c) (hc : c < 9) : enZ V Z G p = .inr (c, fvZ V.2.2.1 Z G p (fl c) 0) := by
  unfold enZ
  rw [h, if_pos hc]
theorem enZ_arr {V : VT} {Z : Nat → Nat → Bool} {G : G_} {p c : Nat} (h : kd p = c) (hc : 9 ≤ c) (hc2 : c < 12) : enZ V Z G p = .inl (V.2.1 c, ln p, .inl (G.1 p)) := by
  unfold enZ
  rw [h, if_neg (by omega), if_pos hc2]
theorem enZ_ra {V : VT} {Z : Nat → Nat → Bool} {G : G_} {p c : Nat} (h : kd p = c) (hc : 12 ≤ c) : enZ V Z G p = .inl (V.2.1 c, ln p, .inr (.inr (.inr (.inr (fun i => if Z p i = true then some (V.2.2.1 (rbp p + rs c * i)) else none))))) := by
  unfold enZ
  rw [h, if_neg (by omega), if_neg (by omega)]
theorem wlZ_obj (V : VT) (Z : Nat → Nat → Bool) (G : G_) {p c n : Nat} (h : kd p = c) (hc : c < 9) (hn : p < n) : (wlZ V Z G n)[p]? = some (V.2.2.1 p, .inr (c, fvZ V.2.2.1 Z G p (fl c) 0)) := (wlZ_get V Z G hn).trans (by rw [enZ_obj h hc])
theorem wlZ_arr (V : VT) (Z : Nat → Nat → Bool) (G : G_) {p c n : Nat} (h : kd p = c) (hc : 9 ≤ c) (hc2 : c < 12) (hn : p < n) : (wlZ V Z G n)[p]? = some (V.2.2.1 p, .inl (V.2.1 c, ln p, .inl (G.1 p))) := (wlZ_get V Z G hn).trans (by rw [enZ_arr h hc hc2])
theorem wlZ_ra (V : VT) (Z : Nat → Nat → Bool) (G : G_) {p c n : Nat} (h : kd p = c) (hc : 12 ≤ c) (hn : p < n) : (wlZ V Z G n)[p]? = some (V.2.2.1 p, .inl (V.2.1 c, ln p, .inr (.inr (.inr (.inr (fun i => if Z p i = true then some (V.2.2.1 (rbp p + rs c * i)) else none)))))) := (wlZ_get V Z G hn).trans (by rw [enZ_ra h hc])
/-- the j-th field, by its descriptor -/
def fdZ (ad : Nat → Nat) (Z : Nat → Nat → Bool) (G : G_) (p j : Nat) (d : Nat × Nat) : Value := match d with
  | (0, _) => .int (G.1 p j)
  | (1, _) => .long (G.2 p j)
  | (_, d) => if Z p j = true then .ref (ad (p + d)) else .null
theorem fvZ_get {ad : Nat → Nat} {Z : Nat → Nat → Bool} {G : G_} {p : Nat} : ∀ (l : List (Nat × Nat)) (j k : Nat), (fvZ ad Z G p l j)[k]? = (l[k]?).map (fdZ ad Z G p (j + k))
  | [], _, _ => rfl
  | (0, _) :: r, j, 0 => rfl
  | (1, _) :: r, j, 0 => rfl
  | (_ + 2, _) :: r, j, 0 => rfl
  | (0, _) :: r, j, k + 1 => by simp only [fvZ, List.getElem?_cons_succ]; rw [fvZ_get r (j + 1) k, show j + 1 + k = j + (k + 1) by omega]
  | (1, _) :: r, j, k + 1 => by simp only [fvZ, List.getElem?_cons_succ]; rw [fvZ_get r (j + 1) k, show j + 1 + k = j + (k + 1) by omega]
  | (_ + 2, _) :: r, j, k + 1 => by simp only [fvZ, List.getElem?_cons_succ]; rw [fvZ_get r (j + 1) k, show j + 1 + k = j + (k + 1) by omega]
theorem fvZ_len {ad : Nat → Nat} {Z : Nat → Nat → Bool} {G : G_} {p : Nat} : ∀ (l : List (Nat × Nat)) (j : Nat), (fvZ ad Z G p l j).length = l.length
  | [], _ => rfl
  | (0, _) :: r, j => by simp [fvZ, fvZ_len r (j + 1)]
  | (1, _) :: r, j => by simp [fvZ, fvZ_len r (j + 1)]
  | (_ + 2, _) :: r, j => by simp [fvZ, fvZ_len r (j + 1)]
theorem fvZ_set {ad : Nat → Nat} {Z Z' : Nat → Nat → Bool} {G G' : G_} {p : Nat} (l : List (Nat × Nat)) {k : Nat} {d : Nat × Nat} {v : Value} (h : l[k]? = some d) (hv : fdZ ad Z' G' p k d = v) (ho : ∀ (i : Nat) (d' : Nat × Nat), i ≠ k → fdZ ad Z' G' p i d' = fdZ ad Z G p i d') : fvZ ad Z' G' p l 0 = (fvZ ad Z G p l 0).set k v := by
  apply List.ext_getElem?
  intro i
  have hl := (List.getElem?_eq_some_iff.mp h).1
  by_cases hi : i = k
  · subst hi
    rw [List.getElem?_set_self (by rw [fvZ_len]; exact hl), fvZ_get, h]
    simp [hv]
  · rw [List.getElem?_set_ne (Ne.symm hi), fvZ_get, fvZ_get]
    cases l[i]? with
    | none => rfl
    | some x => simp [ho i x hi]
def VA (U : State) : Prop := va_AO "SlabTurn$Row" U ∧ va_AO "SlabTurn$Text" U ∧ va_AO "SlabTurn$Slab" U ∧ va_AO "SlabTurn$Plan" U ∧ va_AO "SlabTurn$Dish" U
theorem VA.warm {s U : State} (hW : s.WarmedH U.vm) (h : VA s) : VA U := ⟨va_AO.moved hW.alike h.1, va_AO.moved hW.alike h.2.1, va_AO.moved hW.alike h.2.2.1, va_AO.moved hW.alike h.2.2.2.1, va_AO.moved hW.alike h.2.2.2.2⟩
def XZ (K : CT) (Z : Nat → Nat → Bool) (n cs sl : Nat) (pc : Nat) (L : List (Nat × Value)) (st : List Value) (G : G_) : Prop := match K with
  | (p, l, e, R, s, m, args, below, meth, c, nL, V, cells, slots, Q) => Fresh Z G n → ∀ (H : Heap) (locs : List Loc) (ls : Array Slot), H.size = V.2.2.1 0 + n → va_P V.1 vwCl (wlZ V Z G n) H → va_S V.2.2.2.1 s.heap H locs → lv_has ls nL L → W p l e R s m args below meth c H locs cs sl Q (F0 m pc ls st)
def OkZ (K : CT) (cc : ByteArray) (own : String) (Ts : List Cond) (fr lo cl0 sl0 nL0 : Nat) : Prop := match K with
  | (p, l, e, R, s, m, args, below, meth, c, nL, V, cells, slots, Q) => p.tables.exec = Jvm.exec ∧ c.code = cc ∧ c.maxLocals = nL ∧ s.vm.findClass own = some m.cls ∧ (∀ w ∈ Ts, w.before args s = true) ∧ (VK V s ∧ VZ V ∧ VA s) ∧ meth.locks = false ∧ (R.frames = fr ∧ R.locals = lo ∧ R.cells = cl0 ∧ R.slots = sl0) ∧ nL = nL0 ∧ (∃ w0, Ts = w0 :: TB) ∧ V.2.2.1 0 ≤ s.heap.size
def QZ (V : VT) (Z : Nat → Nat → Bool) (n : Nat) (G' : G_) : Array Value → State → Outcome → State → Prop := fun _ st oc t => (oc = .returned none ∧ t.heap.size = V.2.2.1 0 + n ∧ Fresh Z G' n ∧ va_P V.1 vwCl (wlZ V Z G' n) t.heap) ∧ va_F V.2.2.2.1 st t
def VWZ (V : VT) (Z : Nat → Nat → Bool) (n : Nat) (G : G_) (U : State) : Prop := VK V U ∧ VZ V ∧ VA U ∧ U.heap.size = V.2.2.1 0 + n ∧ Fresh Z G n ∧ va_P V.1 vwCl (wlZ V Z G n) U.heap
def MCZ (l : Launch) (V : VT) (y : MethodName) (cc : ByteArray) (maxL fr lo : Nat) (av : List Value) (Z : Nat → Nat → Bool) (n : Nat) (G : G_) (Z' : Nat → Nat → Bool) (n' : Nat) (G' : G_) (mc ms : Nat) : Prop :=
  Met l y (Cond.code y cc maxL none :: TB) ({ frames := fr, cells := mc, slots := ms, locals := lo }) (va_Pc av (VWZ V Z n G)) (QZ V Z' n' G') mc ms V.2.2.2.1
theorem mcz_of {l : Launch} {V : VT} {y : MethodName} {cc : ByteArray} {maxL fr lo : Nat} {av : List Value} {Z : Nat → Nat → Bool} {n : Nat} {G : G_} {Z' : Nat → Nat → Bool} {n' : Nat} {G' : G_} {mc ms : Nat} (hy : plainName y.cls = true) (hyn : y.name = "<init>") (hn : (lg_sl av).length ≤ maxL)
    (body : ∀ K : CT, kV K = V → OkZ K cc y.cls (Cond.code y cc maxL none :: TB) fr lo mc ms maxL → kl K = l → (∀ pc L, decode cc pc = .ok (.return_, 1) → XZ K Z' n' mc ms pc L [] G') → (match K with | (_, _, _, _, _, _, _, _, meth, _) => meth.name = "<init>") → XZ K Z n 0 0 0 (lv_args 0 av) [] G) : MCZ l V y cc maxL fr lo av Z n G Z' n' G' mc ms := by
  refine Met.ofW (cc := cc) (maxL := maxL) (ret := none) hy rfl ?_
  intro p e s m args below meth c s₁ B hml hv
  obtain ⟨rfl, hK, hZ, hVA, hsz, hF, hP⟩ := hv
  have hin : meth.name = "<init>" := ((name_of_methodNamed B.named B.method).1).trans hyn
  have hk := body (p, l, e, ({ frames := fr, cells := mc, slots := ms, locals := lo } : Room), s, m, av.toArray, below, meth, c, maxL, V, mc, ms, MQ below (QZ V Z' n' G') av.toArray s mc ms V.2.2.2.1) rfl ⟨B.exec, B.bytes, hml, findClass_of_methodNamed B.named, atoms_spec (ws := Cond.code y cc maxL none :: TB) B.pre, ⟨hK, hZ, hVA⟩, B.notSynchronized, ⟨rfl, rfl, rfl, rfl⟩, rfl, ⟨_, rfl⟩, by rw [hsz]; omega⟩ rfl (fun pc L hd => ?_) hin
  · rw [lg_entry_eq]
    exact hk hF s.heap [] _ hsz hP va_S.rf (lv_entry av hn)
  · intro hF2 H locs ls hz hP2 hS hl
    exact W.vret B.exec B.bytes B.returns (fun t ht hW => ⟨⟨rfl, by rw [ht]; exact hz, hF2, by rw [ht]; exact hP2⟩, hS.F ht⟩) hS.2.2 hd B.notSynchronized
theorem z_iconst {K : CT} {cc : ByteArray} {own : String} {Ts : List Cond} {fr lo cl0 sl0 nL0 : Nat} {Z : Nat → Nat → Bool} {n cs sl pc : Nat} {L : List (Nat × Value)} {st : List Value} {G : G_} {a : Int} {v : Int32} (hc : OkZ K cc own Ts fr lo cl0 sl0 nL0) (hv : Int32.ofInt a = v) (hd : decode cc pc = .ok (.iconst a, 1)) (k : XZ K Z n cs sl (pc + 1) L (.int v :: st) G) : XZ K Z n cs sl pc L (st) G := by
  obtain ⟨p, l, e, R, s, m, args, below, meth, c, nL, V, cells, slots, Q⟩ := K
  obtain ⟨hx, hb, hml, hown, hts, ⟨hK, hZ, hVA⟩, hlk, hR, hnL, ⟨w0, hw0⟩, hbase⟩ := hc
  exact fun hF H locs ls hz hP hS hl => lv_iconst hx hb hd hv (k hF H locs ls hz hP hS hl)
theorem z_bipush {K : CT} {cc : ByteArray} {own : String} {Ts : List Cond} {fr lo cl0 sl0 nL0 : Nat} {Z : Nat → Nat → Bool} {n cs sl pc : Nat} {L : List (Nat × Value)} {st : List Value} {G : G_} {a : Int} {v : Int32} (hc : OkZ K cc own Ts fr lo cl0 sl0 nL0) (hv : (Int8.ofInt a).toInt32 = v) (hd : decode cc pc = .ok (.bipush a, 2)) (k : XZ K Z n cs sl (pc + 2) L (.int v :: st) G) : XZ K Z n cs sl pc L (st) G := by
  obtain ⟨p, l, e, R, s, m, args, below, meth, c, nL, V, cells, slots, Q⟩ := K
  obtain ⟨hx, hb, hml, hown, hts, ⟨hK, hZ, hVA⟩, hlk, hR, hnL, ⟨w0, hw0⟩, hbase⟩ := hc
  exact fun hF H locs ls hz hP hS hl => lv_bipush hx hb hd hv (k hF H locs ls hz hP hS hl)
theorem z_sipush {K : CT} {cc : ByteArray} {own : String} {Ts : List Cond} {fr lo cl0 sl0 nL0 : Nat} {Z : Nat → Nat → Bool} {n cs sl pc : Nat} {L : List (Nat × Value)} {st : List Value} {G : G_} {a : Int} {v : Int32} (hc : OkZ K cc own Ts fr lo cl0 sl0 nL0) (hv : (Int16.ofInt a).toInt32 = v) (hd : decode cc pc = .ok (.sipush a, 3)) (k : XZ K Z n cs sl (pc + 3) L (.int v :: st) G) : XZ K Z n cs sl pc L (st) G := by
  obtain ⟨p, l, e, R, s, m, args, below, meth, c, nL, V, cells, slots, Q⟩ := K
  obtain ⟨hx, hb, hml, hown, hts, ⟨hK, hZ, hVA⟩, hlk, hR, hnL, ⟨w0, hw0⟩, hbase⟩ := hc
  exact fun hF H locs ls hz hP hS hl => lv_sipush hx hb hd hv (k hF H locs ls hz hP hS hl)
theorem z_lconst {K : CT} {cc : ByteArray} {own : String} {Ts : List Cond} {fr lo cl0 sl0 nL0 : Nat} {Z : Nat → Nat → Bool} {n cs sl pc : Nat} {L : List (Nat × Value)} {st : List Value} {G : G_} {a : Fin 2} {v : Int64} (hc : OkZ K cc own Ts fr lo cl0 sl0 nL0) (hv : Int64.ofNat (a : Nat) = v) (hd : decode cc pc = .ok (.lconst a, 1)) (k : XZ K Z n cs sl (pc + 1) L (.long v :: st) G) : XZ K Z n cs sl pc L (st) G := by
  obtain ⟨p, l, e, R, s, m, args, below, meth, c, nL, V, cells, slots, Q⟩ := K
  obtain ⟨hx, hb, hml, hown, hts, ⟨hK, hZ, hVA⟩, hlk, hR, hnL, ⟨w0, hw0⟩, hbase⟩ := hc
  exact fun hF H locs ls hz hP hS hl => lv_lconst hx hb hd hv (k hF H locs ls hz hP hS hl)
theorem z_dup {K : CT} {cc : ByteArray} {own : String} {Ts : List Cond} {fr lo cl0 sl0 nL0 : Nat} {Z : Nat → Nat → Bool} {n cs sl pc : Nat} {L : List (Nat × Value)} {st : List Value} {G : G_} {va : Value} (hc : OkZ K cc own Ts fr lo cl0 sl0 nL0) (hva : va.category = 1) (hd : decode cc pc = .ok (.dup, 1)) (k : XZ K Z n cs sl (pc + 1) L (va :: va :: st) G) : XZ K Z n cs sl pc L (va :: st) G := by
  obtain ⟨p, l, e, R, s, m, args, below, meth, c, nL, V, cells, slots, Q⟩ := K
  obtain ⟨hx, hb, hml, hown, hts, ⟨hK, hZ, hVA⟩, hlk, hR, hnL, ⟨w0, hw0⟩, hbase⟩ := hc
  exact fun hF H locs ls hz hP hS hl => lv_dup hx hb hd hva (k hF H locs ls hz hP hS hl)
theorem z_iload_n {K : CT} {cc : ByteArray} {own : String} {Ts : List Cond} {fr lo cl0 sl0 nL0 : Nat} {Z : Nat → Nat → Bool} {n cs sl pc : Nat} {L : List (Nat × Value)} {st : List Value} {G : G_} {j : Fin 4} {i : Nat} {x : Int32} (hc : OkZ K cc own Ts fr lo cl0 sl0 nL0) (q : Nat) (hd : decode cc pc = .ok (.iload_n j, 1)) (hi : (j : Nat) = i) (hq : L[q]? = some (i, .int x)) (k : XZ K Z n cs sl (pc + 1) L (.int x :: st) G) : XZ K Z n cs sl pc L st G := by
  obtain ⟨p, l, e, R, s, m, args, below, meth, c, nL, V, cells, slots, Q⟩ := K
  obtain ⟨hx, hb, hml, hown, hts, ⟨hK, hZ, hVA⟩, hlk, hR, hnL, ⟨w0, hw0⟩, hbase⟩ := hc
  exact fun hF H locs ls hz hP hS hl => lv_iload_n hx hb hd hi (lv_at hl q hq) (k hF H locs ls hz hP hS hl)
theorem z_aload_n {K : CT} {cc : ByteArray} {own : String} {Ts : List Cond} {fr lo cl0 sl0 nL0 : Nat} {Z : Nat → Nat → Bool} {n cs sl pc : Nat} {L : List (Nat × Value)} {st : List Value} {G : G_} {j : Fin 4} {i : Nat} {x : Nat} (hc : OkZ K cc own Ts fr lo cl0 sl0 nL0) (q : Nat) (hd : decode cc pc = .ok (.aload_n j, 1)) (hi : (j : Nat) = i) (hq : L[q]? = some (i, .ref x)) (k : XZ K Z n cs sl (pc + 1) L (.ref x :: st) G) : XZ K Z n cs sl pc L st G := by
  obtain ⟨p, l, e, R, s, m, args, below, meth, c, nL, V, cells, slots, Q⟩ := K
  obtain ⟨hx, hb, hml, hown, hts, ⟨hK, hZ, hVA⟩, hlk, hR, hnL, ⟨w0, hw0⟩, hbase⟩ := hc
  exact fun hF H locs ls hz hP hS hl => lv_aload_n hx hb hd hi (lv_at hl q hq) (k hF H locs ls hz hP hS hl)
theorem z_istore_n {K : CT} {cc : ByteArray} {own : String} {Ts : List Cond} {fr lo cl0 sl0 nL0 : Nat} {Z : Nat → Nat → Bool} {n cs sl pc : Nat} {L : List (Nat × Value)} {st : List Value} {G : G_} {j : Fin 4} {i : Nat} {x : Int32} {L' : List (Nat × Value)} (hc : OkZ K cc own Ts fr lo cl0 sl0 nL0) (ks : List Nat) (hd : decode cc pc = .ok (.istore_n j, 1)) (hi : (j : Nat) = i) (hn : i < nL0) (hL : lv_pick ((i, Value.int x) :: L.filter (fun q => !(q.1 == i) && !(q.1 + 1 == i && q.2.category == 2))) ks = L') (k : XZ K Z n cs sl (pc + 1) L' st G) : XZ K Z n cs sl pc L (.int x :: st) G := by
  obtain ⟨p, l, e, R, s, m, args, below, meth, c, nL, V, cells, slots, Q⟩ := K
  obtain ⟨hx, hb, hml, hown, hts, ⟨hK, hZ, hVA⟩, hlk, hR, hnL, ⟨w0, hw0⟩, hbase⟩ := hc
  subst hnL
  exact fun hF H locs ls hz hP hS hl => lv_istore_n hx hb hd hi hl hn rfl (fun ls hl => k hF H locs ls hz hP hS (lv_sub hl ks hL))
theorem z_iinc {K : CT} {cc : ByteArray} {own : String} {Ts : List Cond} {fr lo cl0 sl0 nL0 : Nat} {Z : Nat → Nat → Bool} {n cs sl pc : Nat} {L : List (Nat × Value)} {st : List Value} {G : G_} {i : Nat} {a : Int} {x v : Int32} {L' : List (Nat × Value)} (hc : OkZ K cc own Ts fr lo cl0 sl0 nL0) (q : Nat) (ks : List Nat) (hd : decode cc pc = .ok (.iinc i a, 3)) (hq : L[q]? = some (i, .int x)) (hv : x + Int32.ofInt a = v) (hn : i < nL0) (hL : lv_pick ((i, Value.int v) :: L.filter (fun q => !(q.1 == i) && !(q.1 + 1 == i && q.2.category == 2))) ks = L') (k : XZ K Z n cs sl (pc + 3) L' st G) : XZ K Z n cs sl pc L st G := by
  obtain ⟨p, l, e, R, s, m, args, below, meth, c, nL, V, cells, slots, Q⟩ := K
  obtain ⟨hx, hb, hml, hown, hts, ⟨hK, hZ, hVA⟩, hlk, hR, hnL, ⟨w0, hw0⟩, hbase⟩ := hc
  subst hnL
  exact fun hF H locs ls hz hP hS hl => lv_iinc hx hb hd hl hq hv hn rfl (fun ls hl => k hF H locs ls hz hP hS (lv_sub hl ks hL))
theorem z_icmp_geT {K : CT} {cc : ByteArray} {own : String} {Ts : List Cond} {fr lo cl0 sl0 nL0 : Nat} {Z : Nat → Nat → Bool} {n cs sl pc : Nat} {L : List (Nat × Value)} {st : List Value} {G : G_} {x y : Int32} {off : Int} {tgt : Nat} (hc : OkZ K cc own Ts fr lo cl0 sl0 nL0) (h : y ≤ x) (hd : decode cc pc = .ok (.if_icmp .ge off, 3)) (ht : (pc : Int) + off = (tgt : Int)) (k : XZ K Z n cs sl tgt L st G) : XZ K Z n cs sl pc L (.int y :: .int x :: st) G := by
  obtain ⟨p, l, e, R, s, m, args, below, meth, c, nL, V, cells, slots, Q⟩ := K
  obtain ⟨hx, hb, hml, hown, hts, ⟨hK, hZ, hVA⟩, hlk, hR, hnL, ⟨w0, hw0⟩, hbase⟩ := hc
  exact fun hF H locs ls hz hP hS hl => lv_icmp_ge hx hb hd ht (fun _ => k hF H locs ls hz hP hS hl) (fun q => absurd h q)
theorem z_icmp_geF {K : CT} {cc : ByteArray} {own : String} {Ts : List Cond} {fr lo cl0 sl0 nL0 : Nat} {Z : Nat → Nat → Bool} {n cs sl pc : Nat} {L : List (Nat × Value)} {st : List Value} {G : G_} {x y : Int32} {off : Int} {tgt : Nat} (hc : OkZ K cc own Ts fr lo cl0 sl0 nL0) (h : ¬ y ≤ x) (hd : decode cc pc = .ok (.if_icmp .ge off, 3)) (ht : (pc : Int) + off = (tgt : Int)) (k : XZ K Z n cs sl (pc + 3) L st G) : XZ K Z n cs sl pc L (.int y :: .int x :: st) G := by
  obtain ⟨p, l, e, R, s, m, args, below, meth, c, nL, V, cells, slots, Q⟩ := K
  obtain ⟨hx, hb, hml, hown, hts, ⟨hK, hZ, hVA⟩, hlk, hR, hnL, ⟨w0, hw0⟩, hbase⟩ := hc
  exact fun hF H locs ls hz hP hS hl => lv_icmp_ge hx hb hd ht (fun q => absurd q h) (fun _ => k hF H locs ls hz hP hS hl)
theorem z_goto {K : CT} {cc : ByteArray} {own : String} {Ts : List Cond} {fr lo cl0 sl0 nL0 : Nat} {Z : Nat → Nat → Bool} {n cs sl pc : Nat} {L : List (Nat × Value)} {st : List Value} {G : G_} {off : Int} {tgt : Nat} (hc : OkZ K cc own Ts fr lo cl0 sl0 nL0) (hd : decode cc pc = .ok (.goto off, 3)) (ht : (pc : Int) + off = (tgt : Int)) (k : XZ K Z n cs sl tgt L st G) : XZ K Z n cs sl pc L st G := by
  obtain ⟨p, l, e, R, s, m, args, below, meth, c, nL, V, cells, slots, Q⟩ := K
  obtain ⟨hx, hb, hml, hown, hts, ⟨hK, hZ, hVA⟩, hlk, hR, hnL, ⟨w0, hw0⟩, hbase⟩ := hc
  exact fun hF H locs ls hz hP hS hl => lv_goto hx hb hd ht (k hF H locs ls hz hP hS hl)
theorem z_getR {K : CT} {cc : ByteArray} {own : String} {Ts : List Cond} {fr lo cl0 sl0 nL0 : Nat} {Z : Nat → Nat → Bool} {n cs sl pc : Nat} {L : List (Nat × Value)} {st : List Value} {G : G_} {C : String} {T : u_T} {N ci index : Nat} (hc : OkZ K cc own Ts fr lo cl0 sl0 nL0) (hin : ∀ w ∈ u_ws C T N, w ∈ TB) (hcl : vwCl[ci]? = some (C, T, N)) (hci : ci < 9) {p0 : Nat} (hp : kd p0 = ci) (hpn : p0 < n) (j : Nat) (hj : j < N) (hw : Cond.fieldLink own index C (T j).2.1 (T j).2.2.1 ∈ TB) (hC : (T j).1 = C) {d : Nat} (hf : (fl ci)[j]? = some (2, d)) (hzj : Z p0 j = true) (hd : decode cc pc = .ok (.getfield index, 3)) (k : XZ K Z n cs sl (pc + 3) L (.ref (kad K (p0 + d)) :: st) G) : XZ K Z n cs sl pc L (.ref (kad K p0) :: st) G := by
  obtain ⟨p, l, e, R, s, m, args, below, meth, c, nL, V, cells, slots, Q⟩ := K
  obtain ⟨hx, hb, hml, hown, hts, ⟨hK, hZ, hVA⟩, hlk, hR, hnL, ⟨w0, hw0⟩, hbase⟩ := hc
  intro hF H locs ls hz hP hS hl
  have hv : (fvZ V.2.2.1 Z G p0 (fl ci) 0)[j]? = some (.ref (V.2.2.1 (p0 + d))) := by rw [fvZ_get, hf, Nat.zero_add]; simp [fdZ, hzj]
  exact va_get (C := C) (T := T) (N := N) (ci := ci) hx hb hts (fun w hw => by rw [hw0]; exact List.mem_cons_of_mem _ (hin w hw)) hown hK.1 hP p0 (wlZ_obj V Z G hp hci hpn) hcl j hj (TB_use hts hw0 hw) (fun x h => by rw [hC] at h; exact h) hv hd (k hF H locs ls hz hP hS hl)
theorem z_setF {V : VT} {Z Z' : Nat → Nat → Bool} {G G' : G_} {n p0 ci j : Nat} {H H1 : Heap} {v : Value} {d : Nat × Nat} (hci : ci < 9) (hp : kd p0 = ci) (hpn : p0 < n) (hZ : VZ V) (hf : (fl ci)[j]? = some d) (hv : fdZ V.2.2.1 Z' G' p0 j d = v) (ho : ∀ (i : Nat) (d' : Nat × Nat), i ≠ j → fdZ V.2.2.1 Z' G' p0 i d' = fdZ V.2.2.1 Z G p0 i d') (hq : ∀ q, q ≠ p0 → enZ V Z' G' q = enZ V Z G q) (hP : va_P V.1 vwCl (wlZ V Z G n) H) (he : va_at V.1 vwCl (V.2.2.1 p0, .inr (ci, (fvZ V.2.2.1 Z G p0 (fl ci) 0).set j v)) H1) (oq : ∀ q : Nat, q ≠ V.2.2.1 p0 → H1[q]? = H[q]?) : va_P V.1 vwCl (wlZ V Z' G' n) H1 := by
  have e1 : (wlZ V Z G n).set p0 (V.2.2.1 p0, .inr (ci, (fvZ V.2.2.1 Z G p0 (fl ci) 0).set j v)) = wlZ V Z' G' n := wlZ_set V hpn (by rw [enZ_obj hp hci, fvZ_set (fl ci) hf hv ho]) hq
  rw [← e1]
  exact hP.set (wlZ_D hZ Z G n) (wlZ_obj V Z G hp hci hpn) he oq
theorem z_putR {K : CT} {cc : ByteArray} {own : String} {Ts : List Cond} {fr lo cl0 sl0 nL0 : Nat} {Z : Nat → Nat → Bool} {n cs sl pc : Nat} {L : List (Nat × Value)} {st : List Value} {G : G_} {C : String} {T : u_T} {N ci index : Nat} {ty : FieldType} (hc : OkZ K cc own Ts fr lo cl0 sl0 nL0) (ty0 : Nat → FieldType) (hty0 : ∀ k, k < N → parseFieldDescriptor (T k).2.2.1 = some (ty0 k)) (hnm : ∀ a, a < N → ∀ b, b < N → a ≠ b → (T a).2.1 ≠ (T b).2.1) (hin : ∀ w ∈ u_ws C T N, w ∈ TB) (hcl : vwCl[ci]? = some (C, T, N)) (hci : ci < 9) {p0 : Nat} (hp : kd p0 = ci) (hpn : p0 < n) (j : Nat) (hj : j < N) (hw : Cond.fieldLink own index C (T j).2.1 (T j).2.2.1 ∈ TB) (hC : (T j).1 = C) {d : Nat} (hf : (fl ci)[j]? = some (2, d)) (hfin : (T j).2.2.2 = true) (hCo : own = C) (hin2 : match K with | (_, _, _, _, _, _, _, _, meth, _) => meth.name = "<init>") (hty : parseFieldDescriptor (T j).2.2.1 = some ty) (hfit : ∀ a : Nat, fits ty (.ref a) = true ∧ narrow ty (.ref a) = .ref a) (hd : decode cc pc = .ok (.putfield index, 3)) (k : XZ K (zs Z p0 j) n cs sl (pc + 3) L st G) : XZ K Z n cs sl pc L (.ref (kad K (p0 + d)) :: .ref (kad K p0) :: st) G := by
  obtain ⟨p, l, e, R, s, m, args, below, meth, c, nL, V, cells, slots, Q⟩ := K
  obtain ⟨hx, hb, hml, hown, hts, ⟨hK, hZ, hVA⟩, hlk, hR, hnL, ⟨w0, hw0⟩, hbase⟩ := hc
  intro hF H locs ls hz hP hS hl
  have hap := va_apart (own := own) hts (fun w hw => by rw [hw0]; exact List.mem_cons_of_mem _ (hin w hw)) ty0 hty0 hnm hK.1 hcl
  obtain ⟨r, h1, cell, q1, q2, q3, q4⟩ := hP p0 _ (wlZ_obj V Z G hp hci hpn)
  have hr : r = (C, T, N) := Option.some.inj (h1.symm.trans hcl)
  subst hr
  obtain ⟨hSl, hfc, kC, hkC, hkind⟩ := hK.1.1 ci _ hcl
  obtain ⟨cf, kf, fi, f, hi, hsl⟩ := hSl j hj
  have hlay := TB_use hts hw0 (hin _ (u_in_lay hj))
  unfold u_lay at hlay
  have hst := (u_facts hfc hkC (u_lays hts (fun w hw => by rw [hw0]; exact List.mem_cons_of_mem _ (hin w hw)) hj) hi).1
  have hlen : j < (fvZ V.2.2.1 Z G p0 (fl ci) 0).length := by rw [fvZ_len]; exact (List.getElem?_eq_some_iff.mp hf).1
  rw [if_pos hfin] at hlay
  have hcf : m.cls = cf := by
    obtain ⟨_, _, c', _, _, _, -, -, hf', -, -, -, hown2, -⟩ := Cond.laysFinal_spec hlay
    have e1 : c' = cf := by have := hi.symm.trans hf'; simp at this; exact this.1.symm
    rw [hC, ← hCo] at hown2
    rw [← e1]; exact Option.some.inj (hown.symm.trans hown2)
  have h6 := u_fits (v := .ref (V.2.2.1 (p0 + d))) hfc hkC hkind (Or.inr hlay) hi hty (hfit _).2 (hfit _).1
  refine W.putFinK hx hb hown (TB_use hts hw0 hw) (hi := by rw [hC] at hi; exact hi) hst hcf hin2 (by rw [q2]; exact h6) q1 q3 (by rw [hsl]; exact k2_hasslot (q4 j hj)) rfl rfl hd fun H' e1 e2 e3 => ?_
  rw [hsl] at e1 ⊢
  refine k (fun q hq => ⟨(hF q hq).1, (hF q hq).2.1, fun i => by rw [zs_ne (by omega)]; exact (hF q hq).2.2 i⟩) H' _ ls (by rw [e2]; exact hz) (z_setF (Z := Z) (G := G) (Z' := (zs Z p0 j)) (G' := G) (v := .ref (V.2.2.1 (p0 + d))) hci hp hpn hZ hf (by simp [fdZ, zs]) (fun i d' hi => by obtain ⟨x, y⟩ := d'; match x with | 0 => rfl | 1 => rfl | _ + 2 => simp [fdZ, zs, hi]) (fun q hq => enZ_congr rfl rfl (zs_ne hq)) hP ⟨_, hcl, t_OB.to (V := updV (vp_V (fvZ V.2.2.1 Z G p0 (fl ci) 0)) j (.ref (V.2.2.1 (p0 + d)))) ⟨_, e1, q2, q3, t_set q4 hap hj _⟩ (fun i _ => vp_updV_set hlen _ i)⟩ e3) (hS.put e2 e3 (hZ.2 _ (by show V.2.2.1 0 ≤ V.2.2.1 p0; rw [hZ.1 p0]; omega))) hl
theorem z_putI {K : CT} {cc : ByteArray} {own : String} {Ts : List Cond} {fr lo cl0 sl0 nL0 : Nat} {Z : Nat → Nat → Bool} {n cs sl pc : Nat} {L : List (Nat × Value)} {st : List Value} {G : G_} {C : String} {T : u_T} {N ci index : Nat} {v : Int32} (hc : OkZ K cc own Ts fr lo cl0 sl0 nL0) (ty0 : Nat → FieldType) (hty0 : ∀ k, k < N → parseFieldDescriptor (T k).2.2.1 = some (ty0 k)) (hnm : ∀ a, a < N → ∀ b, b < N → a ≠ b → (T a).2.1 ≠ (T b).2.1) (hin : ∀ w ∈ u_ws C T N, w ∈ TB) (hcl : vwCl[ci]? = some (C, T, N)) (hci : ci < 9) {p0 : Nat} (hp : kd p0 = ci) (hpn : p0 < n) (j : Nat) (hj : j < N) (hw : Cond.fieldLink own index C (T j).2.1 (T j).2.2.1 ∈ TB) (hC : (T j).1 = C) {d : Nat} (hf : (fl ci)[j]? = some (0, d)) (hfin : (T j).2.2.2 = false) (hty : parseFieldDescriptor (T j).2.2.1 = some .int) (hd : decode cc pc = .ok (.putfield index, 3)) (k : XZ K Z n cs sl (pc + 3) L st (sI G p0 j v)) : XZ K Z n cs sl pc L (.int v :: .ref (kad K p0) :: st) G := by
  obtain ⟨p, l, e, R, s, m, args, below, meth, c, nL, V, cells, slots, Q⟩ := K
  obtain ⟨hx, hb, hml, hown, hts, ⟨hK, hZ, hVA⟩, hlk, hR, hnL, ⟨w0, hw0⟩, hbase⟩ := hc
  intro hF H locs ls hz hP hS hl
  have hap := va_apart (own := own) hts (fun w hw => by rw [hw0]; exact List.mem_cons_of_mem _ (hin w hw)) ty0 hty0 hnm hK.1 hcl
  obtain ⟨r, h1, cell, q1, q2, q3, q4⟩ := hP p0 _ (wlZ_obj V Z G hp hci hpn)
  have hr : r = (C, T, N) := Option.some.inj (h1.symm.trans hcl)
  subst hr
  obtain ⟨hSl, hfc, kC, hkC, hkind⟩ := hK.1.1 ci _ hcl
  obtain ⟨cf, kf, fi, f, hi, hsl⟩ := hSl j hj
  have hlay := TB_use hts hw0 (hin _ (u_in_lay hj))
  unfold u_lay at hlay
  have hst := (u_facts hfc hkC (u_lays hts (fun w hw => by rw [hw0]; exact List.mem_cons_of_mem _ (hin w hw)) hj) hi).1
  have hlen : j < (fvZ V.2.2.1 Z G p0 (fl ci) 0).length := by rw [fvZ_len]; exact (List.getElem?_eq_some_iff.mp hf).1
  rw [if_neg (by rw [hfin]; decide)] at hlay
  have h6 := u_store (v := .int v) hfc hkC hkind hlay hi hty rfl rfl
  refine W.putK hx hb (f := f) ⟨hown, TB_use hts hw0 hw, ⟨_, _, _, by rw [hC] at hi; exact hi⟩, hst⟩ (by rw [q2]; exact h6) q1 q3 (by rw [hsl]; exact k2_hasslot (q4 j hj)) rfl rfl hd fun H' e1 e2 e3 => ?_
  rw [hsl] at e1 ⊢
  refine k (fun q hq => ⟨fun i => by show u2 G.1 p0 j v q i = 0; rw [u2_ne (by omega)]; exact (hF q hq).1 i, (hF q hq).2.1, (hF q hq).2.2⟩) H' _ ls (by rw [e2]; exact hz) (z_setF (Z := Z) (G := G) (Z' := Z) (G' := (sI G p0 j v)) (v := .int v) hci hp hpn hZ hf (by simp [fdZ, sI, u2]) (fun i d' hi => by obtain ⟨x, y⟩ := d'; match x with | 0 => simp [fdZ, sI, u2, hi] | 1 => rfl | _ + 2 => rfl) (fun q hq => enZ_congr (u2_ne hq) rfl rfl) hP ⟨_, hcl, t_OB.to (V := updV (vp_V (fvZ V.2.2.1 Z G p0 (fl ci) 0)) j (.int v)) ⟨_, e1, q2, q3, t_set q4 hap hj _⟩ (fun i _ => vp_updV_set hlen _ i)⟩ e3) (hS.put e2 e3 (hZ.2 _ (by show V.2.2.1 0 ≤ V.2.2.1 p0; rw [hZ.1 p0]; omega))) hl
theorem z_putL {K : CT} {cc : ByteArray} {own : String} {Ts : List Cond} {fr lo cl0 sl0 nL0 : Nat} {Z : Nat → Nat → Bool} {n cs sl pc : Nat} {L : List (Nat × Value)} {st : List Value} {G : G_} {C : String} {T : u_T} {N ci index : Nat} {v : Int64} (hc : OkZ K cc own Ts fr lo cl0 sl0 nL0) (ty0 : Nat → FieldType) (hty0 : ∀ k, k < N → parseFieldDescriptor (T k).2.2.1 = some (ty0 k)) (hnm : ∀ a, a < N → ∀ b, b < N → a ≠ b → (T a).2.1 ≠ (T b).2.1) (hin : ∀ w ∈ u_ws C T N, w ∈ TB) (hcl : vwCl[ci]? = some (C, T, N)) (hci : ci < 9) {p0 : Nat} (hp : kd p0 = ci) (hpn : p0 < n) (j : Nat) (hj : j < N) (hw : Cond.fieldLink own index C (T j).2.1 (T j).2.2.1 ∈ TB) (hC : (T j).1 = C) {d : Nat} (hf : (fl ci)[j]? = some (1, d)) (hfin : (T j).2.2.2 = false) (hty : parseFieldDescriptor (T j).2.2.1 = some .long) (hd : decode cc pc = .ok (.putfield index, 3)) (k : XZ K Z n cs sl (pc + 3) L st (sJ G p0 j v)) : XZ K Z n cs sl pc L (.long v :: .ref (kad K p0) :: st) G := by
  obtain ⟨p, l, e, R, s, m, args, below, meth, c, nL, V, cells, slots, Q⟩ := K
  obtain ⟨hx, hb, hml, hown, hts, ⟨hK, hZ, hVA⟩, hlk, hR, hnL, ⟨w0, hw0⟩, hbase⟩ := hc
  intro hF H locs ls hz hP hS hl
  have hap := va_apart (own := own) hts (fun w hw => by rw [hw0]; exact List.mem_cons_of_mem _ (hin w hw)) ty0 hty0 hnm hK.1 hcl
  obtain ⟨r, h1, cell, q1, q2, q3, q4⟩ := hP p0 _ (wlZ_obj V Z G hp hci hpn)
  have hr : r = (C, T, N) := Option.some.inj (h1.symm.trans hcl)
  subst hr
  obtain ⟨hSl, hfc, kC, hkC, hkind⟩ := hK.1.1 ci _ hcl
  obtain ⟨cf, kf, fi, f, hi, hsl⟩ := hSl j hj
  have hlay := TB_use hts hw0 (hin _ (u_in_lay hj))
  unfold u_lay at hlay
  have hst := (u_facts hfc hkC (u_lays hts (fun w hw => by rw [hw0]; exact List.mem_cons_of_mem _ (hin w hw)) hj) hi).1
  have hlen : j < (fvZ V.2.2.1 Z G p0 (fl ci) 0).length := by rw [fvZ_len]; exact (List.getElem?_eq_some_iff.mp hf).1
  rw [if_neg (by rw [hfin]; decide)] at hlay
  have h6 := u_store (v := .long v) hfc hkC hkind hlay hi hty rfl rfl
  refine W.putK hx hb (f := f) ⟨hown, TB_use hts hw0 hw, ⟨_, _, _, by rw [hC] at hi; exact hi⟩, hst⟩ (by rw [q2]; exact h6) q1 q3 (by rw [hsl]; exact k2_hasslot (q4 j hj)) rfl rfl hd fun H' e1 e2 e3 => ?_
  rw [hsl] at e1 ⊢
  refine k (fun q hq => ⟨(hF q hq).1, fun i => by show u2 G.2 p0 j v q i = 0; rw [u2_ne (by omega)]; exact (hF q hq).2.1 i, (hF q hq).2.2⟩) H' _ ls (by rw [e2]; exact hz) (z_setF (Z := Z) (G := G) (Z' := Z) (G' := (sJ G p0 j v)) (v := .long v) hci hp hpn hZ hf (by simp [fdZ, sJ, u2]) (fun i d' hi => by obtain ⟨x, y⟩ := d'; match x with | 0 => rfl | 1 => simp [fdZ, sJ, u2, hi] | _ + 2 => rfl) (fun q hq => enZ_congr rfl (u2_ne hq) rfl) hP ⟨_, hcl, t_OB.to (V := updV (vp_V (fvZ V.2.2.1 Z G p0 (fl ci) 0)) j (.long v)) ⟨_, e1, q2, q3, t_set q4 hap hj _⟩ (fun i _ => vp_updV_set hlen _ i)⟩ e3) (hS.put e2 e3 (hZ.2 _ (by show V.2.2.1 0 ≤ V.2.2.1 p0; rw [hZ.1 p0]; omega))) hl
theorem z_new {K : CT} {cc : ByteArray} {own : String} {Ts : List Cond} {fr lo cl0 sl0 nL0 : Nat} {Z : Nat → Nat → Bool} {n cs sl pc : Nat} {L : List (Nat × Value)} {st : List Value} {G : G_} {C : String} {T : u_T} {N ci index : Nat} (hc : OkZ K cc own Ts fr lo cl0 sl0 nL0) (ty0 : Nat → FieldType) (hty0 : ∀ k, k < N → parseFieldDescriptor (T k).2.2.1 = some (ty0 k)) (hin : ∀ w ∈ u_ws C T N, w ∈ TB) (hcl : vwCl[ci]? = some (C, T, N)) (hci : ci < 9) (hp : kd n = ci) (hdt : ∀ j, j < N → ∃ d : Nat × Nat, (fl ci)[j]? = some d ∧ defaultValue (ty0 j) = (match d with | (0, _) => Value.int 0 | (1, _) => Value.long 0 | _ => Value.null)) (hw1 : Cond.classLink own index C ∈ TB) (hw2 : Cond.instantiable C N ∈ TB) (hw3 : Cond.initialized C ∈ TB) (hcs : cs + 1 ≤ cl0) (hsl0 : sl + N ≤ sl0) (hd : decode cc pc = .ok (.new index, 3)) (k : XZ K Z (n + 1) (cs + 1) (sl + N) (pc + 3) L (.ref (kad K n) :: st) G) : XZ K Z n cs sl pc L st G := by
  obtain ⟨p, l, e, R, s, m, args, below, meth, c, nL, V, cells, slots, Q⟩ := K
  obtain ⟨hx, hb, hml, hown, hts, ⟨hK, hZ, hVA⟩, hlk, hR, hnL, ⟨w0, hw0⟩, hbase⟩ := hc
  intro hF H locs ls hz hP hS hl
  have hKn := hK.1.1 ci _ hcl
  refine W.newcK hx hb hown (TB_use hts hw0 hw1) (TB_use hts hw0 hw2) (TB_use hts hw0 hw3) rfl hd (by rw [hR.2.2.1]; exact hcs) (by rw [hR.2.2.2]; exact hsl0) hKn.2.1 (h := V.2.2.1 n) (by rw [hz, hZ.1 n]) fun H1 kC hkC e1 z1 o1 => ?_
  have hsz : V.2.2.1 n = H.size := by rw [hz, hZ.1 n]
  refine k (fun q hq => hF q (by omega)) H1 locs ls (by rw [z1, hZ.1 n]; omega) ?_ ⟨Nat.le_trans hS.1 (by rw [z1, hsz]; omega), fun x h1 h2 => (o1 x (by rw [hsz]; exact Nat.lt_of_lt_of_le h1 hS.1)).trans (hS.2.1 x h1 h2), hS.2.2⟩ hl
  rw [wlZ_push]
  refine (hP.kept (fun i x hx2 => o1 x.1 (by rw [hsz]; exact (hP i x hx2).lt))).app (fun i x hx2 => ?_)
  have hi0 : i < 1 := (List.getElem?_eq_some_iff.mp hx2).1
  rw [show i = 0 by omega] at hx2
  cases hx2
  rw [enZ_obj hp hci]
  refine ⟨_, hcl, (u_born ty0 hts (fun w hw => by rw [hw0]; exact List.mem_cons_of_mem _ (hin w hw)) hKn hkC e1 hty0).to (fun j hj => ?_)⟩
  obtain ⟨d, h3, h4⟩ := hdt j hj
  have hF2 := hF n (Nat.le_refl n)
  rw [h4]
  show _ = (fvZ V.2.2.1 Z G n (fl ci) 0).getD j .null
  rw [List.getD_eq_getElem?_getD, fvZ_get, h3, Nat.zero_add]
  obtain ⟨x, y⟩ := d
  match x with
  | 0 => simp [fdZ, hF2.1 j]
  | 1 => simp [fdZ, hF2.2.1 j]
  | _ + 2 => simp [fdZ, hF2.2.2 j]
theorem z_newa_byte {K : CT} {cc : ByteArray} {own : String} {Ts : List Cond} {fr lo cl0 sl0 nL0 : Nat} {Z : Nat → Nat → Bool} {n cs sl pc : Nat} {L : List (Nat × Value)} {st : List Value} {G : G_} {a : Int32} {N' : Nat} (hc : OkZ K cc own Ts fr lo cl0 sl0 nL0) (hp : kd n = 9) (hn : ln n = N') (ha : ¬ a < 0) (hN : a.toNatClampNeg = N') (hby : N' * componentBytes .byte ≤ 536870912) (hw : Cond.arrayClass .byte ∈ TB) (hcs : cs + 1 ≤ cl0) (hsl0 : sl + N' ≤ sl0) (hd : decode cc pc = .ok (.newarray .byte, 2)) (k : XZ K Z (n + 1) (cs + 1) (sl + N') (pc + 2) L (.ref (kad K n) :: st) G) : XZ K Z n cs sl pc L (.int a :: st) G := by
  obtain ⟨p, l, e, R, s, m, args, below, meth, c, nL, V, cells, slots, Q⟩ := K
  obtain ⟨hx, hb, hml, hown, hts, ⟨hK, hZ, hVA⟩, hlk, hR, hnL, ⟨w0, hw0⟩, hbase⟩ := hc
  intro hF H locs ls hz hP hS hl
  have hsz : V.2.2.1 n = H.size := by rw [hz, hZ.1 n]
  have hRA : s.vm.findClass ("[" ++ (.byte : FieldType).toString) = some (V.2.1 9) := (hK.1.2 0 (V.2.1 9, .byte) rfl).2
  refine va_newaK (atype := .byte) hx hb (TB_use hts hw0 hw) rfl hd rfl ha hN hby (by rw [hR.2.2.1]; exact hcs) (by rw [hR.2.2.2]; exact hsl0) (h := V.2.2.1 n) hsz.symm fun H1 cA e1 z1 o1 hAr hNm => ?_
  have hcA : cA = V.2.1 9 := Option.some.inj (hNm.symm.trans hRA)
  subst hcA
  refine k (fun q hq => hF q (by omega)) H1 locs ls (by rw [z1, hZ.1 n]; omega) ?_ ⟨Nat.le_trans hS.1 (by rw [z1, hsz]; omega), fun x h1 h2 => (o1 x (by rw [hsz]; exact Nat.lt_of_lt_of_le h1 hS.1)).trans (hS.2.1 x h1 h2), hS.2.2⟩ hl
  rw [wlZ_push]
  refine (hP.kept (fun i x hx2 => o1 x.1 (by rw [hsz]; exact (hP i x hx2).lt))).app (fun i x hx2 => ?_)
  have hi0 : i < 1 := (List.getElem?_eq_some_iff.mp hx2).1
  rw [show i = 0 by omega] at hx2
  cases hx2
  rw [enZ_arr hp (by omega) (by omega), hn]
  show H1[V.2.2.1 n]? = some (vp_cell _ _)
  rw [vp_cell_i, e1]
  congr 2
  funext j
  show Value.int 0 = .int (G.1 n j)
  rw [(hF n (Nat.le_refl n)).1 j]
theorem z_newa_int {K : CT} {cc : ByteArray} {own : String} {Ts : List Cond} {fr lo cl0 sl0 nL0 : Nat} {Z : Nat → Nat → Bool} {n cs sl pc : Nat} {L : List (Nat × Value)} {st : List Value} {G : G_} {a : Int32} {N' : Nat} (hc : OkZ K cc own Ts fr lo cl0 sl0 nL0) (hp : kd n = 10) (hn : ln n = N') (ha : ¬ a < 0) (hN : a.toNatClampNeg = N') (hby : N' * componentBytes .int ≤ 536870912) (hw : Cond.arrayClass .int ∈ TB) (hcs : cs + 1 ≤ cl0) (hsl0 : sl + N' ≤ sl0) (hd : decode cc pc = .ok (.newarray .int, 2)) (k : XZ K Z (n + 1) (cs + 1) (sl + N') (pc + 2) L (.ref (kad K n) :: st) G) : XZ K Z n cs sl pc L (.int a :: st) G := by
  obtain ⟨p, l, e, R, s, m, args, below, meth, c, nL, V, cells, slots, Q⟩ := K
  obtain ⟨hx, hb, hml, hown, hts, ⟨hK, hZ, hVA⟩, hlk, hR, hnL, ⟨w0, hw0⟩, hbase⟩ := hc
  intro hF H locs ls hz hP hS hl
  have hsz : V.2.2.1 n = H.size := by rw [hz, hZ.1 n]
  have hRA : s.vm.findClass ("[" ++ (.int : FieldType).toString) = some (V.2.1 10) := (hK.1.2 1 (V.2.1 10, .int) rfl).2
  refine va_newaK (atype := .int) hx hb (TB_use hts hw0 hw) rfl hd rfl ha hN hby (by rw [hR.2.2.1]; exact hcs) (by rw [hR.2.2.2]; exact hsl0) (h := V.2.2.1 n) hsz.symm fun H1 cA e1 z1 o1 hAr hNm => ?_
  have hcA : cA = V.2.1 10 := Option.some.inj (hNm.symm.trans hRA)
  subst hcA
  refine k (fun q hq => hF q (by omega)) H1 locs ls (by rw [z1, hZ.1 n]; omega) ?_ ⟨Nat.le_trans hS.1 (by rw [z1, hsz]; omega), fun x h1 h2 => (o1 x (by rw [hsz]; exact Nat.lt_of_lt_of_le h1 hS.1)).trans (hS.2.1 x h1 h2), hS.2.2⟩ hl
  rw [wlZ_push]
  refine (hP.kept (fun i x hx2 => o1 x.1 (by rw [hsz]; exact (hP i x hx2).lt))).app (fun i x hx2 => ?_)
  have hi0 : i < 1 := (List.getElem?_eq_some_iff.mp hx2).1
  rw [show i = 0 by omega] at hx2
  cases hx2
  rw [enZ_arr hp (by omega) (by omega), hn]
  show H1[V.2.2.1 n]? = some (vp_cell _ _)
  rw [vp_cell_i, e1]
  congr 2
  funext j
  show Value.int 0 = .int (G.1 n j)
  rw [(hF n (Nat.le_refl n)).1 j]
theorem z_newq {K : CT} {cc : ByteArray} {own : String} {Ts : List Cond} {fr lo cl0 sl0 nL0 : Nat} {Z : Nat → Nat → Bool} {n cs sl pc : Nat} {L : List (Nat × Value)} {st : List Value} {G : G_} {a : Int32} {N' ci index : Nat} {C : String} (hc : OkZ K cc own Ts fr lo cl0 sl0 nL0) (hp : kd n = ci) (hci : 12 ≤ ci) (ht : ∀ cA : Nat → ClassId, (vtys cA)[ci - 9]? = some (cA ci, .object C)) (hn : ln n = N') (ha : ¬ a < 0) (hN : a.toNatClampNeg = N') (hby : N' * 4 ≤ 536870912) (hw : Cond.classLink own index C ∈ TB) (hw2 : ∀ s, VA s → va_AO C s) (hcs : cs + 1 ≤ cl0) (hsl0 : sl + N' ≤ sl0) (hd : decode cc pc = .ok (.anewarray index, 3)) (k : XZ K Z (n + 1) (cs + 1) (sl + N') (pc + 3) L (.ref (kad K n) :: st) G) : XZ K Z n cs sl pc L (.int a :: st) G := by
  obtain ⟨p, l, e, R, s, m, args, below, meth, c, nL, V, cells, slots, Q⟩ := K
  obtain ⟨hx, hb, hml, hown, hts, ⟨hK, hZ, hVA⟩, hlk, hR, hnL, ⟨w0, hw0⟩, hbase⟩ := hc
  intro hF H locs ls hz hP hS hl
  have hsz : V.2.2.1 n = H.size := by rw [hz, hZ.1 n]
  obtain ⟨_, _, _, _, _, hRA⟩ := (hK.1.2 (ci - 9) _ (ht V.2.1)).2
  subst hN
  refine W.anew hx hb hown (TB_use hts hw0 hw) (va_AO.use (hw2 s hVA)) rfl hd rfl ha hby (by rw [hR.2.2.1]; exact hcs) (by rw [hR.2.2.2]; exact hsl0) fun cA kA comp f1 f2 f3 f4 => ?_
  have hcA : cA = V.2.1 ci := Option.some.inj (f1.symm.trans hRA)
  subst hcA
  generalize hH1 : H.push ({ cls := V.2.1 ci, slots := Array.replicate a.toNatClampNeg .null, vm := .none } : Cell) = H1
  have z1 : H1.size = H.size + 1 := by rw [← hH1, Array.size_push]
  have e1 : H1[H.size]? = some (arrV (V.2.1 ci) a.toNatClampNeg (fun _ => .null)) := by rw [← hH1, Array.getElem?_push_size, ← arrV_new]
  have o1 : ∀ q : Nat, q < H.size → H1[q]? = H[q]? := fun q hq => by rw [← hH1, Array.getElem?_push, if_neg (Nat.ne_of_lt hq)]
  have hk := k (fun q hq => hF q (by omega)) H1 locs ls (by rw [z1, ← hsz, hZ.1 n]; omega) ?_ ⟨Nat.le_trans hS.1 (by rw [z1]; omega), fun x h1 h2 => (o1 x (Nat.lt_of_lt_of_le h1 hS.1)).trans (hS.2.1 x h1 h2), hS.2.2⟩ hl
  · have e2 : kad (p, l, e, R, s, m, args, below, meth, c, nL, V, cells, slots, Q) n = H.size := hsz
    rw [e2] at hk
    exact hk
  rw [wlZ_push]
  refine (hP.kept (fun i x hx2 => o1 x.1 (hP i x hx2).lt)).app (fun i x hx2 => ?_)
  have hi0 : i < 1 := (List.getElem?_eq_some_iff.mp hx2).1
  rw [show i = 0 by omega] at hx2
  cases hx2
  rw [enZ_ra hp hci, hn]
  show H1[V.2.2.1 n]? = some (vp_cell _ _)
  rw [vp_cell_q, hsz, e1]
  congr 2
  funext j
  rw [(hF n (Nat.le_refl n)).2.2 j]
  rfl
theorem z_aastore {K : CT} {cc : ByteArray} {own : String} {Ts : List Cond} {fr lo cl0 sl0 nL0 : Nat} {Z : Nat → Nat → Bool} {n cs sl pc : Nat} {L : List (Nat × Value)} {st : List Value} {G : G_} {i : Int32} {N' ci ce : Nat} {C : String} {T : u_T} {N : Nat} {p0 v : Nat} (hc : OkZ K cc own Ts fr lo cl0 sl0 nL0) (hp : kd p0 = ci) (hci : 12 ≤ ci) (ht : ∀ cA : Nat → ClassId, (vtys cA)[ci - 9]? = some (cA ci, .object C)) (hn : ln p0 = N') (hpn : p0 < n) (hi : inb i N' = true) (hv : v = rbp p0 + rs ci * ix i) (hkv : kd v = ce) (hce : ce < 9) (hcl : vwCl[ce]? = some (C, T, N)) (hvn : v < n) (hd : decode cc pc = .ok (.aastore, 1)) (k : XZ K (zs Z p0 (ix i)) n cs sl (pc + 1) L st G) : XZ K Z n cs sl pc L (.ref (kad K v) :: .int i :: .ref (kad K p0) :: st) G := by
  obtain ⟨p, l, e, R, s, m, args, below, meth, c, nL, V, cells, slots, Q⟩ := K
  obtain ⟨hx, hb, hml, hown, hts, ⟨hK, hZ, hVA⟩, hlk, hR, hnL, ⟨w0, hw0⟩, hbase⟩ := hc
  intro hF H locs ls hz hP hS hl
  have hin := inb_in hi
  have hlt : i.toNatClampNeg < N' := Nat.not_le.mp fun q => hin (Or.inr q)
  have h0 : ¬ i < 0 := fun q => hin (Or.inl q)
  obtain ⟨r', hr', cellV, g1, g2, g3, -⟩ := hP v _ (wlZ_obj V Z G hkv hce hvn)
  have hcls := (hK.1.1 ce _ hcl).2
  obtain ⟨kA, comp, k1, k2, k3, -⟩ := (hK.1.2 (ci - 9) _ (ht V.2.1)).2
  have hcomp : comp = V.1.1 ce := Option.some.inj (k3.symm.trans hcls.1)
  subst hcomp
  obtain ⟨kC, hkC, -⟩ := hcls.2
  have hA0 : (wlZ V Z G n)[p0]? = some (V.2.2.1 p0, .inl (V.2.1 ci, ln p0, .inr (.inr (.inr (.inr (fun i => if Z p0 i = true then some (V.2.2.1 (rbp p0 + rs ci * i)) else none)))))) := wlZ_ra V Z G hp hci hpn
  have hsz0 : (vp_cell (V.2.1 ci) (ln p0, .inr (.inr (.inr (.inr (fun i => if Z p0 i = true then some (V.2.2.1 (rbp p0 + rs ci * i)) else none)))))).slots.size = N' := by rw [vp_cell_q, arrV_size, hn]
  refine W.aast hx hb (hP p0 _ hA0) (fun q h => by cases h) (fun h => by cases h) k1 k2 rfl hkC ⟨h0, by rw [hsz0]; exact hlt⟩ g1 (fun q h => by rw [g3] at h; cases h) (by rw [g2]; exact hkC) (by rw [g2]; exact va_assign hcls) rfl rfl hd fun H1 e1 z1 oq => ?_
  refine k (fun q hq => ⟨(hF q hq).1, (hF q hq).2.1, fun j => by rw [zs_ne (by omega)]; exact (hF q hq).2.2 j⟩) H1 _ ls (by rw [z1]; exact hz) ?_ (hS.put z1 oq (hZ.2 _ (by show V.2.2.1 0 ≤ V.2.2.1 p0; rw [hZ.1 p0]; omega))) hl
  have e2 : (wlZ V Z G n).set p0 (V.2.2.1 p0, .inl (V.2.1 ci, ln p0, .inr (.inr (.inr (.inr (fun j => if zs Z p0 (ix i) p0 j = true then some (V.2.2.1 (rbp p0 + rs ci * j)) else none)))))) = wlZ V (zs Z p0 (ix i)) G n := wlZ_set V hpn (by rw [enZ_ra hp hci]) (fun q hq => enZ_congr rfl rfl (zs_ne hq))
  rw [← e2]
  refine hP.set (wlZ_D hZ Z G n) hA0 ?_ oq
  show H1[V.2.2.1 p0]? = some (vp_cell _ _)
  have e1 : H1[V.2.2.1 p0]? = _ := e1
  rw [e1, vp_cell_q, vp_cell_q, arrV_store]
  congr 2
  funext q
  by_cases hq : q = i.toNatClampNeg
  · subst hq
    simp [updV, zs, ix, va_rf, hv]
  · simp [updV, zs, ix, hq]
theorem z_iastore {K : CT} {cc : ByteArray} {own : String} {Ts : List Cond} {fr lo cl0 sl0 nL0 : Nat} {Z : Nat → Nat → Bool} {n cs sl pc : Nat} {L : List (Nat × Value)} {st : List Value} {G : G_} {i v : Int32} {N' : Nat} (hc : OkZ K cc own Ts fr lo cl0 sl0 nL0) {p0 : Nat} (hp : kd p0 = 10) (hn : ln p0 = N') (hpn : p0 < n) (hi : inb i N' = true) (hd : decode cc pc = .ok (.iastore, 1)) (k : XZ K Z n cs sl (pc + 1) L st (sI G p0 (ix i) v)) : XZ K Z n cs sl pc L (.int v :: .int i :: .ref (kad K p0) :: st) G := by
  obtain ⟨p, l, e, R, s, m, args, below, meth, c, nL, V, cells, slots, Q⟩ := K
  obtain ⟨hx, hb, hml, hown, hts, ⟨hK, hZ, hVA⟩, hlk, hR, hnL, ⟨w0, hw0⟩, hbase⟩ := hc
  intro hF H locs ls hz hP hS hl
  have hA0 : (wlZ V Z G n)[p0]? = some (V.2.2.1 p0, .inl (V.2.1 10, ln p0, .inl (G.1 p0))) := wlZ_arr V Z G hp (by omega) (by omega) hpn
  have hin := inb_in hi
  have hsz0 : (vp_cell (V.2.1 10) (ln p0, .inl (G.1 p0))).slots.size = N' := by rw [vp_cell_i, arrV_size, hn]
  refine W.iast hx hb (hP p0 _ hA0) ((hK.1.2 1 _ rfl).1 (ln p0) (fun j => .int (G.1 p0 j))) (fun q => by cases q) (by rw [hsz0]; exact hin) rfl rfl hd fun H1 e1 z1 oq => ?_
  refine k (fun q hq => ⟨fun j => by show u2 G.1 p0 (ix i) v q j = 0; rw [u2_ne (by omega)]; exact (hF q hq).1 j, (hF q hq).2.1, (hF q hq).2.2⟩) H1 _ ls (by rw [z1]; exact hz) ?_ (hS.put z1 oq (hZ.2 _ (by show V.2.2.1 0 ≤ V.2.2.1 p0; rw [hZ.1 p0]; omega))) hl
  have e2 : (wlZ V Z G n).set p0 (V.2.2.1 p0, .inl (V.2.1 10, ln p0, .inl ((sI G p0 (ix i) v).1 p0))) = wlZ V Z (sI G p0 (ix i) v) n := wlZ_set V hpn (by rw [enZ_arr hp (by omega) (by omega)]) (fun q hq => enZ_congr (u2_ne hq) rfl rfl)
  rw [← e2]
  refine hP.set (wlZ_D hZ Z G n) hA0 ?_ oq
  show H1[V.2.2.1 p0]? = some (vp_cell _ _)
  have e1 : H1[V.2.2.1 p0]? = _ := e1
  rw [e1, vp_cell_i, vp_cell_i, arrV_store]
  congr 2
  funext q
  by_cases hq : q = i.toNatClampNeg
  · subst hq
    simp [updV, sI, u2, ix]
  · simp [updV, sI, u2, ix, hq]
theorem z_alenQ {K : CT} {cc : ByteArray} {own : String} {Ts : List Cond} {fr lo cl0 sl0 nL0 : Nat} {Z : Nat → Nat → Bool} {n cs sl pc : Nat} {L : List (Nat × Value)} {st : List Value} {G : G_} {N' ci : Nat} {v : Int32} (hc : OkZ K cc own Ts fr lo cl0 sl0 nL0) {p0 : Nat} (hp : kd p0 = ci) (h1 : 12 ≤ ci) (h2 : ci < 17) (hn : ln p0 = N') (hpn : p0 < n) (hv : Int32.ofNat N' = v) (hd : decode cc pc = .ok (.arraylength, 1)) (k : XZ K Z n cs sl (pc + 1) L (.int v :: st) G) : XZ K Z n cs sl pc L (.ref (kad K p0) :: st) G := by
  obtain ⟨p, l, e, R, s, m, args, below, meth, c, nL, V, cells, slots, Q⟩ := K
  obtain ⟨hx, hb, hml, hown, hts, ⟨hK, hZ, hVA⟩, hlk, hR, hnL, ⟨w0, hw0⟩, hbase⟩ := hc
  subst hn
  intro hF H locs ls hz hP hS hl
  have ht : ∃ ty, (vtys V.2.1)[ci - 9]? = some (V.2.1 ci, ty) := by
    rcases (show ci = 12 ∨ ci = 13 ∨ ci = 14 ∨ ci = 15 ∨ ci = 16 by omega) with rfl | rfl | rfl | rfl | rfl <;> exact ⟨_, rfl⟩
  obtain ⟨ty, ht⟩ := ht
  exact va_alen (cA := V.2.1 ci) (x := (ln p0, .inr (.inr (.inr (.inr (fun i => if Z p0 i = true then some (V.2.2.1 (rbp p0 + rs ci * i)) else none)))))) hx hb hK.1 hP p0 (ci - 9) (wlZ_ra V Z G hp h1 hpn) ht hv hd (k hF H locs ls hz hP hS hl)
theorem z_obj {K : CT} {cc : ByteArray} {own : String} {Ts : List Cond} {fr lo cl0 sl0 nL0 : Nat} {Z : Nat → Nat → Bool} {n cs sl pc : Nat} {L : List (Nat × Value)} {st : List Value} {G : G_} {index : Nat} {a : Nat} (hc : OkZ K cc own Ts fr lo cl0 sl0 nL0) (hw1 : Cond.methodLink own index Lib.objectInit ∈ TB) (hw2 : Cond.instanceMethod Lib.objectInit ∈ TB) (hw3 : Cond.code Lib.objectInit ⟨#[0xb1]⟩ 1 none ∈ TB) (hfr : 1 ≤ fr) (hlo : (st.map fun v => v.category).sum + 12 ≤ lo) (hd : decode cc pc = .ok (.invokespecial index, 3)) (k : XZ K Z n cs sl (pc + 3) L st G) : XZ K Z n cs sl pc L (.ref a :: st) G := by
  obtain ⟨p, l, e, R, s, m, args, below, meth, c, nL, V, cells, slots, Q⟩ := K
  obtain ⟨hx, hb, hml, hown, hts, ⟨hK, hZ, hVA⟩, hlk, hR, hnL, ⟨w0, hw0⟩, hbase⟩ := hc
  intro hF H locs ls hz hP hS hl
  exact W.objInit hx hb hown (TB_use hts hw0 hw1) (TB_use hts hw0 hw2) (TB_use hts hw0 hw3) rfl (hl.1.trans hml.symm) rfl hd (by rw [hR.1]; exact hfr) (by rw [hR.2.1]; show 2 * 0 + _ + 12 ≤ lo; omega) (k hF H locs ls hz hP hS hl)
def MWI (y : MethodName) (bytes : ByteArray) (maxL : Nat) (np : Nat) : Prop := (y.cls ≠ "java/lang/invoke/MethodHandle" ∧ y.cls ≠ "java/lang/invoke/VarHandle" ∧ (parseMethodDescriptor y.desc).map (fun d => d.parameters.length) = some np) ∧ Cond.code y bytes maxL none ∈ TB ∧ Cond.initialized y.cls ∈ TB ∧ Cond.instanceMethod y ∈ TB ∧ y.name = "<init>"
theorem z_callIN {K : CT} {cc : ByteArray} {own : String} {Ts : List Cond} {fr lo cl0 sl0 nL0 : Nat} {Z : Nat → Nat → Bool} {n cs sl pc : Nat} {L : List (Nat × Value)} {st : List Value} {G : G_} {y : MethodName} {bytes : ByteArray} {maxL index frc loc mc ms n' : Nat} {Z' : Nat → Nat → Bool} {G1 : G_} {host : String} {p0 : Nat} (hc : OkZ K cc own Ts fr lo cl0 sl0 nL0) (hM : MCZ (kl K) (kV K) y bytes maxL frc loc [.ref (kad K p0)] Z n G Z' n' G1 mc ms) (mw : MWI y bytes maxL 0) (hlink : Cond.methodLinkNest own index y host ∈ nestWs) (hw : (st.map fun v => v.category).sum ≤ 8) (hroom : frc + 1 ≤ fr ∧ 8 + (maxL + 11) + loc ≤ lo) (hcs : cs + mc ≤ cl0) (hsl0 : sl + ms ≤ sl0) (hd : decode cc pc = .ok (.invokespecial index, 3)) (k : XZ K Z' n' (cs + mc) (sl + ms) (pc + 3) L st G1) : XZ K Z n cs sl pc L (.ref (kad K p0) :: st) G := by
  obtain ⟨p, l, e, R, s, m, args, below, meth, c, nL, V, cells, slots, Q⟩ := K
  obtain ⟨hx, hb, hml, hown, hts, ⟨hK, hZ, hVA⟩, hlk, hR, hnL, ⟨w0, hw0⟩, hbase⟩ := hc
  obtain ⟨hd1, hcode, hini, hinst, hyn⟩ := mw
  intro hF H locs ls hz hP hS hl
  subst hw0 hnL
  have hr := va_runIN (As := []) (rest := st) (cells := cs) (slots := sl) (g := F0 m pc ls (.ref (V.2.2.1 p0) :: st)) (b := V.2.2.1 p0) (e := e) (below := below) (meth := meth) (locs := locs) (H := H) ⟨hx, hb, hml, hown, hts⟩ hM ⟨va_cnB 0 hts (TB_in (fun w hw1 => by
    rcases List.mem_cons.mp hw1 with rfl | h
    · exact hcode
    · exact h)) rfl rfl rfl (hK.2 _ hlink) (TB_use hts rfl hini) hd1 (by rw [hR.1, hR.2.1]; exact hroom), hyn, TB_use hts rfl hinst⟩ ⟨fun a U g mk q => ⟨q.1, ⟨va_K.moved (u := U) (U := U.calling g mk a) (Vm.Alike.refl U.vm) q.2.1.1, fun w hw => va_Nw.same (nest_tab w hw) (u := U) (U := U.calling g mk a) rfl (q.2.1.2 w hw)⟩, q.2.2.1, ⟨va_AO.moved (u := U) (U := U.calling g mk a) (Vm.Alike.refl U.vm) q.2.2.2.1.1, va_AO.moved (u := U) (U := U.calling g mk a) (Vm.Alike.refl U.vm) q.2.2.2.1.2.1, va_AO.moved (u := U) (U := U.calling g mk a) (Vm.Alike.refl U.vm) q.2.2.2.1.2.2.1, va_AO.moved (u := U) (U := U.calling g mk a) (Vm.Alike.refl U.vm) q.2.2.2.1.2.2.2.1, va_AO.moved (u := U) (U := U.calling g mk a) (Vm.Alike.refl U.vm) q.2.2.2.1.2.2.2.2⟩, q.2.2.2.2⟩, fun U hU hW => ⟨rfl, hK.warm hW, hZ, hVA.warm hW, by rw [hU]; exact hz, hF, by rw [hU]; exact hP⟩⟩ rfl rfl hl.1 rfl (lv_room hw) hd ⟨by rw [hR.2.2.1]; exact hcs, by rw [hR.2.2.2]; exact hsl0⟩
  intro T hT X0
  obtain ⟨v, st₀, t, T', L1, h0, X', hL, e1, e2, ⟨⟨hv, h4, h5, h6⟩, hz2, hk⟩, st2⟩ := hr T hT X0
  cases hv
  rw [h0] at hz2 hk
  obtain ⟨t2, a1, b1⟩ := k h5 T'.heap (locs ++ L1) ls (by rw [e1]; exact h4) (by rw [e1]; exact h6) ⟨Nat.le_trans hS.1 (by rw [e1]; exact hz2), fun q h1 h2 => by rw [e1, hk q (Nat.lt_of_lt_of_le h1 hS.1) h2]; exact hS.2.1 q h1 h2, fun q hq => by
      rcases List.mem_append.mp hq with h | h
      · exact hS.2.2 q h
      · exact hL q h⟩ hl T' rfl X'
  exact ⟨t2, st2 t2 a1, b1⟩
theorem tz_28 : Cond.initialized RX7 ∈ TB := TB_mem 28 (by decide +kernel) (by decide +kernel)
theorem tz_29 : Cond.initialized RX0 ∈ TB := TB_mem 29 (by decide +kernel) (by decide +kernel)
theorem tz_30 : Cond.initialized RX2 ∈ TB := TB_mem 30 (by decide +kernel) (by decide +kernel)
theorem tz_31 : Cond.initialized RX3 ∈ TB := TB_mem 31 (by decide +kernel) (by decide +kernel)
theorem tz_32 : Cond.initialized RX5 ∈ TB := TB_mem 32 (by decide +kernel) (by decide +kernel)
theorem tz_33 : Cond.initialized RX1 ∈ TB := TB_mem 33 (by decide +kernel) (by decide +kernel)
theorem tz_34 : Cond.initialized RX4 ∈ TB := TB_mem 34 (by decide +kernel) (by decide +kernel)
theorem tz_35 : Cond.initialized RX6 ∈ TB := TB_mem 35 (by decide +kernel) (by decide +kernel)
theorem tz_41 : Cond.instanceMethod yX7_init ∈ TB := TB_mem 41 (by decide +kernel) (by decide +kernel)
theorem tz_42 : Cond.code yX7_init cX7_init 2 none ∈ TB := TB_mem 42 (by decide +kernel) (by decide +kernel)
theorem tz_43 : Cond.methodLink RX7 1 Lib.objectInit ∈ TB := TB_mem 43 (by decide +kernel) (by decide +kernel)
theorem tz_44 : Cond.instanceMethod Lib.objectInit ∈ TB := TB_mem 44 (by decide +kernel) (by decide +kernel)
theorem tz_45 : Cond.code Lib.objectInit ⟨#[0xb1]⟩ 1 none ∈ TB := TB_mem 45 (by decide +kernel) (by decide +kernel)
theorem tz_46 : Cond.classLink RX7 7 RX4 ∈ TB := TB_mem 46 (by decide +kernel) (by decide +kernel)
theorem tz_48 : Cond.classLink RX7 15 RX6 ∈ TB := TB_mem 48 (by decide +kernel) (by decide +kernel)
theorem tz_50 : Cond.classLink RX7 21 RX5 ∈ TB := TB_mem 50 (by decide +kernel) (by decide +kernel)
theorem tz_52 : Cond.classLink RX7 27 RX2 ∈ TB := TB_mem 52 (by decide +kernel) (by decide +kernel)
theorem tz_54 : Cond.classLink RX7 33 RX0 ∈ TB := TB_mem 54 (by decide +kernel) (by decide +kernel)
theorem tz_55 : Cond.instantiable RX0 17 ∈ TB := TB_mem 55 (by decide +kernel) (by decide +kernel)
theorem tz_57 : Cond.instanceMethod yX0_init ∈ TB := TB_mem 57 (by decide +kernel) (by decide +kernel)
theorem tz_58 : Cond.code yX0_init cX0_init 1 none ∈ TB := TB_mem 58 (by decide +kernel) (by decide +kernel)
theorem tz_59 : Cond.methodLink RX0 3 Lib.objectInit ∈ TB := TB_mem 59 (by decide +kernel) (by decide +kernel)
theorem tz_60 : Cond.classLink RX0 30 RX2 ∈ TB := TB_mem 60 (by decide +kernel) (by decide +kernel)
theorem tz_61 : Cond.instantiable RX2 6 ∈ TB := TB_mem 61 (by decide +kernel) (by decide +kernel)
theorem tz_63 : Cond.instanceMethod yX2_init ∈ TB := TB_mem 63 (by decide +kernel) (by decide +kernel)
theorem tz_64 : Cond.code yX2_init cX2_init 1 none ∈ TB := TB_mem 64 (by decide +kernel) (by decide +kernel)
theorem tz_65 : Cond.methodLink RX2 3 Lib.objectInit ∈ TB := TB_mem 65 (by decide +kernel) (by decide +kernel)
theorem tz_66 : Cond.fieldLink RX2 9 RX2 "kind" "[I" ∈ TB := TB_mem 66 (by decide +kernel) (by decide +kernel)
theorem tz_67 : Cond.fieldLink RX2 15 RX2 "heat" "[I" ∈ TB := TB_mem 67 (by decide +kernel) (by decide +kernel)
theorem tz_68 : Cond.fieldLink RX2 18 RX2 "length" "[I" ∈ TB := TB_mem 68 (by decide +kernel) (by decide +kernel)
theorem tz_91 : Cond.arrayClass .int ∈ TB := TB_mem 91 (by decide +kernel) (by decide +kernel)
theorem tz_92 : Cond.fieldLink RX0 9 RX0 "warmth" "[I" ∈ TB := TB_mem 92 (by decide +kernel) (by decide +kernel)
theorem tz_93 : Cond.fieldLink RX0 15 RX0 "next" "[I" ∈ TB := TB_mem 93 (by decide +kernel) (by decide +kernel)
theorem tz_94 : Cond.fieldLink RX0 18 RX0 "most" "[I" ∈ TB := TB_mem 94 (by decide +kernel) (by decide +kernel)
theorem tz_95 : Cond.fieldLink RX0 21 RX0 "juice" "[I" ∈ TB := TB_mem 95 (by decide +kernel) (by decide +kernel)
theorem tz_96 : Cond.fieldLink RX0 24 RX0 "wet" "[I" ∈ TB := TB_mem 96 (by decide +kernel) (by decide +kernel)
theorem tz_97 : Cond.fieldLink RX0 27 RX0 "brown" "[I" ∈ TB := TB_mem 97 (by decide +kernel) (by decide +kernel)
theorem tz_98 : Cond.fieldLink RX0 33 RX0 "plan" "LSlabTurn$Plan;" ∈ TB := TB_mem 98 (by decide +kernel) (by decide +kernel)
theorem tz_102 : Cond.fieldLink RX0 37 RX0 "thick" "I" ∈ TB := TB_mem 102 (by decide +kernel) (by decide +kernel)
theorem tz_149 : Cond.classLink RX7 50 RX3 ∈ TB := TB_mem 149 (by decide +kernel) (by decide +kernel)
theorem tz_150 : Cond.instantiable RX3 2 ∈ TB := TB_mem 150 (by decide +kernel) (by decide +kernel)
theorem tz_152 : Cond.instanceMethod yX3_init ∈ TB := TB_mem 152 (by decide +kernel) (by decide +kernel)
theorem tz_153 : Cond.code yX3_init cX3_init 1 none ∈ TB := TB_mem 153 (by decide +kernel) (by decide +kernel)
theorem tz_154 : Cond.methodLink RX3 3 Lib.objectInit ∈ TB := TB_mem 154 (by decide +kernel) (by decide +kernel)
theorem tz_156 : Cond.fieldLink RX3 9 RX3 "fault" "I" ∈ TB := TB_mem 156 (by decide +kernel) (by decide +kernel)
theorem tz_163 : Cond.instantiable RX5 5 ∈ TB := TB_mem 163 (by decide +kernel) (by decide +kernel)
theorem tz_165 : Cond.instanceMethod yX5_init ∈ TB := TB_mem 165 (by decide +kernel) (by decide +kernel)
theorem tz_166 : Cond.code yX5_init cX5_init 1 none ∈ TB := TB_mem 166 (by decide +kernel) (by decide +kernel)
theorem tz_167 : Cond.methodLink RX5 1 Lib.objectInit ∈ TB := TB_mem 167 (by decide +kernel) (by decide +kernel)
theorem tz_196 : Cond.classLink RX7 67 RX1 ∈ TB := TB_mem 196 (by decide +kernel) (by decide +kernel)
theorem tz_197 : Cond.instantiable RX1 3 ∈ TB := TB_mem 197 (by decide +kernel) (by decide +kernel)
theorem tz_199 : Cond.instanceMethod yX1_init ∈ TB := TB_mem 199 (by decide +kernel) (by decide +kernel)
theorem tz_200 : Cond.code yX1_init cX1_init 1 none ∈ TB := TB_mem 200 (by decide +kernel) (by decide +kernel)
theorem tz_201 : Cond.methodLink RX1 1 Lib.objectInit ∈ TB := TB_mem 201 (by decide +kernel) (by decide +kernel)
theorem tz_202 : Cond.fieldLink RX1 7 RX1 "loss" "[I" ∈ TB := TB_mem 202 (by decide +kernel) (by decide +kernel)
theorem tz_203 : Cond.fieldLink RX1 13 RX1 "best" "[I" ∈ TB := TB_mem 203 (by decide +kernel) (by decide +kernel)
theorem tz_213 : Cond.instantiable RX4 2 ∈ TB := TB_mem 213 (by decide +kernel) (by decide +kernel)
theorem tz_215 : Cond.instanceMethod yX4_init ∈ TB := TB_mem 215 (by decide +kernel) (by decide +kernel)
theorem tz_216 : Cond.code yX4_init cX4_init 1 none ∈ TB := TB_mem 216 (by decide +kernel) (by decide +kernel)
theorem tz_217 : Cond.methodLink RX4 3 Lib.objectInit ∈ TB := TB_mem 217 (by decide +kernel) (by decide +kernel)
theorem tz_218 : Cond.fieldLink RX4 9 RX4 "place" "[I" ∈ TB := TB_mem 218 (by decide +kernel) (by decide +kernel)
theorem tz_219 : Cond.fieldLink RX4 15 RX4 "size" "I" ∈ TB := TB_mem 219 (by decide +kernel) (by decide +kernel)
theorem tz_226 : Cond.instantiable RX6 2 ∈ TB := TB_mem 226 (by decide +kernel) (by decide +kernel)
theorem tz_228 : Cond.instanceMethod yX6_init ∈ TB := TB_mem 228 (by decide +kernel) (by decide +kernel)
theorem tz_229 : Cond.code yX6_init cX6_init 1 none ∈ TB := TB_mem 229 (by decide +kernel) (by decide +kernel)
theorem tz_230 : Cond.methodLink RX6 3 Lib.objectInit ∈ TB := TB_mem 230 (by decide +kernel) (by decide +kernel)
theorem tz_231 : Cond.fieldLink RX6 9 RX6 "sign" "[B" ∈ TB := TB_mem 231 (by decide +kernel) (by decide +kernel)
theorem tz_232 : Cond.fieldLink RX6 15 RX6 "size" "I" ∈ TB := TB_mem 232 (by decide +kernel) (by decide +kernel)
theorem tz_239 : Cond.arrayClass .byte ∈ TB := TB_mem 239 (by decide +kernel) (by decide +kernel)
theorem tz_240 : Cond.fieldLink RX7 9 RX7 "rows" "[LSlabTurn$Row;" ∈ TB := TB_mem 240 (by decide +kernel) (by decide +kernel)
theorem tz_241 : Cond.fieldLink RX7 17 RX7 "texts" "[LSlabTurn$Text;" ∈ TB := TB_mem 241 (by decide +kernel) (by decide +kernel)
theorem tz_242 : Cond.fieldLink RX7 23 RX7 "slabs" "[LSlabTurn$Slab;" ∈ TB := TB_mem 242 (by decide +kernel) (by decide +kernel)
theorem tz_243 : Cond.fieldLink RX7 29 RX7 "plans" "[LSlabTurn$Plan;" ∈ TB := TB_mem 243 (by decide +kernel) (by decide +kernel)
theorem tz_244 : Cond.fieldLink RX7 36 RX7 "dish" "LSlabTurn$Dish;" ∈ TB := TB_mem 244 (by decide +kernel) (by decide +kernel)
theorem tz_245 : Cond.fieldLink RX7 40 RX7 "kept" "[LSlabTurn$Dish;" ∈ TB := TB_mem 245 (by decide +kernel) (by decide +kernel)
theorem tz_246 : Cond.fieldLink RX7 44 RX7 "trial" "LSlabTurn$Dish;" ∈ TB := TB_mem 246 (by decide +kernel) (by decide +kernel)
theorem tz_247 : Cond.fieldLink RX7 47 RX7 "second" "LSlabTurn$Dish;" ∈ TB := TB_mem 247 (by decide +kernel) (by decide +kernel)
theorem tz_248 : Cond.fieldLink RX7 53 RX7 "reader" "LSlabTurn$Reader;" ∈ TB := TB_mem 248 (by decide +kernel) (by decide +kernel)
theorem tz_249 : Cond.fieldLink RX7 58 RX7 "readSlab" "LSlabTurn$Slab;" ∈ TB := TB_mem 249 (by decide +kernel) (by decide +kernel)
theorem tz_250 : Cond.fieldLink RX7 63 RX7 "readPlan" "LSlabTurn$Plan;" ∈ TB := TB_mem 250 (by decide +kernel) (by decide +kernel)
theorem tz_251 : Cond.fieldLink RX7 70 RX7 "fire" "LSlabTurn$Fire;" ∈ TB := TB_mem 251 (by decide +kernel) (by decide +kernel)
theorem tz_252 : Cond.fieldLink RX7 74 RX7 "unlike" "[I" ∈ TB := TB_mem 252 (by decide +kernel) (by decide +kernel)
theorem tz_253 : Cond.fieldLink RX7 78 RX7 "ticksByThick" "[I" ∈ TB := TB_mem 253 (by decide +kernel) (by decide +kernel)
theorem tz_254 : Cond.fieldLink RX7 81 RX7 "findings" "[I" ∈ TB := TB_mem 254 (by decide +kernel) (by decide +kernel)
theorem tz_258 : Cond.fieldLink RX7 84 RX7 "lower" "J" ∈ TB := TB_mem 258 (by decide +kernel) (by decide +kernel)
theorem hdt_X2 : ∀ j, j < 6 → ∃ d : Nat × Nat, (fl 2)[j]? = some d ∧ defaultValue (tyX2 j) = (match d with | (0, _) => Value.int 0 | (1, _) => Value.long 0 | _ => Value.null) := by
  intro j hj
  match j, hj with
  | 0, _ => exact ⟨_, rfl, rfl⟩
  | 1, _ => exact ⟨_, rfl, rfl⟩
  | 2, _ => exact ⟨_, rfl, rfl⟩
  | 3, _ => exact ⟨_, rfl, rfl⟩
  | 4, _ => exact ⟨_, rfl, rfl⟩
  | 5, _ => exact ⟨_, rfl, rfl⟩
  | j + 6, h => exact absurd h (by omega)
theorem dX2_init_0 : decode cX2_init 0 = .ok (.aload_n 0, 1) := by decide +kernel
theorem dX2_init_1 : decode cX2_init 1 = .ok (.invokespecial 3, 3) := by decide +kernel
theorem dX2_init_4 : decode cX2_init 4 = .ok (.aload_n 0, 1) := by decide +kernel
theorem dX2_init_5 : decode cX2_init 5 = .ok (.bipush 12, 2) := by decide +kernel
theorem dX2_init_7 : decode cX2_init 7 = .ok (.newarray .int, 2) := by decide +kernel
theorem dX2_init_9 : decode cX2_init 9 = .ok (.putfield 9, 3) := by decide +kernel
theorem dX2_init_12 : decode cX2_init 12 = .ok (.aload_n 0, 1) := by decide +kernel
theorem dX2_init_13 : decode cX2_init 13 = .ok (.bipush 12, 2) := by decide +kernel
theorem dX2_init_15 : decode cX2_init 15 = .ok (.newarray .int, 2) := by decide +kernel
theorem dX2_init_17 : decode cX2_init 17 = .ok (.putfield 15, 3) := by decide +kernel
theorem dX2_init_20 : decode cX2_init 20 = .ok (.aload_n 0, 1) := by decide +kernel
theorem dX2_init_21 : decode cX2_init 21 = .ok (.bipush 12, 2) := by decide +kernel
theorem dX2_init_23 : decode cX2_init 23 = .ok (.newarray .int, 2) := by decide +kernel
theorem dX2_init_25 : decode cX2_init 25 = .ok (.putfield 18, 3) := by decide +kernel
theorem dX2_init_28 : decode cX2_init 28 = .ok (.return_, 1) := by decide +kernel
theorem mi_X2 : MWI yX2_init cX2_init 1 0 := ⟨⟨by decide, by decide, by decide +kernel⟩, tz_64, tz_30, tz_63, rfl⟩
theorem kz_X2_1 {p : Nat} (h : kd p = 2) : kd (p + 1) = 10 := sh_gen (c := 2) (P := fun p => kd (p + 1) = 10) (by decide) (by decide +kernel) h
theorem lz_X2_1 {p : Nat} (h : kd p = 2) : ln (p + 1) = 12 := sh_gen (c := 2) (P := fun p => ln (p + 1) = 12) (by decide) (by decide +kernel) h
theorem kz_X2_2 {p : Nat} (h : kd p = 2) : kd (p + 2) = 10 := sh_gen (c := 2) (P := fun p => kd (p + 2) = 10) (by decide) (by decide +kernel) h
theorem lz_X2_2 {p : Nat} (h : kd p = 2) : ln (p + 2) = 12 := sh_gen (c := 2) (P := fun p => ln (p + 2) = 12) (by decide) (by decide +kernel) h
theorem kz_X2_3 {p : Nat} (h : kd p = 2) : kd (p + 3) = 10 := sh_gen (c := 2) (P := fun p => kd (p + 3) = 10) (by decide) (by decide +kernel) h
theorem lz_X2_3 {p : Nat} (h : kd p = 2) : ln (p + 3) = 12 := sh_gen (c := 2) (P := fun p => ln (p + 3) = 12) (by decide) (by decide +kernel) h
def zi_X2 (Z : Nat → Nat → Bool) (p : Nat) : Nat → Nat → Bool := zs (zs (zs Z p 0) p 1) p 2
def gi_X2 (G : G_) (p : Nat) : G_ := G
set_option maxHeartbeats 8000000 in
set_option maxRecDepth 100000 in
theorem z_X2_init (l : Launch) (V : VT) (p : Nat) (hp : kd p = 2) (Z : Nat → Nat → Bool) (G : G_) : MCZ l V yX2_init cX2_init 1 1 20 [.ref (V.2.2.1 p)] Z (p + 1) G (zi_X2 Z p) (p + 4) (gi_X2 G p) 3 36 := by
  refine mcz_of (by decide) rfl (Nat.le_of_ble_eq_true rfl) (fun K hV hc hkl hret hin => ?_)
  subst hV
  replace hc : OkZ K cX2_init RX2 (Cond.code yX2_init cX2_init 1 none :: TB) 1 20 3 36 1 := hc
  show XZ K Z (p + 1) 0 0 0 [(0, .ref (kad K p))] [] G
  refine z_aload_n hc 0 dX2_init_0 rfl rfl ?_
  refine z_obj hc tz_65 tz_44 tz_45 (by decide) (Nat.le_of_ble_eq_true rfl) dX2_init_1 ?_
  refine z_aload_n hc 0 dX2_init_4 rfl rfl ?_
  refine z_bipush (v := 12) hc rfl dX2_init_5 ?_
  refine z_newa_int (N' := 12) hc (kz_X2_1 hp) (lz_X2_1 hp) (by decide) rfl (by decide) tz_91 (by decide) (by decide) dX2_init_7 ?_
  refine z_putR (T := TX2) (p0 := p) hc tyX2 tyX2_ok nmX2 in_X2 rfl (by decide) hp (by omega) 0 (by decide) tz_66 rfl rfl rfl rfl hin (ty := tyX2 0) (by decide +kernel) (fun _ => ⟨rfl, rfl⟩) dX2_init_9 ?_
  refine z_aload_n hc 0 dX2_init_12 rfl rfl ?_
  refine z_bipush (v := 12) hc rfl dX2_init_13 ?_
  refine z_newa_int (N' := 12) hc (kz_X2_2 hp) (lz_X2_2 hp) (by decide) rfl (by decide) tz_91 (by decide) (by decide) dX2_init_15 ?_
  refine z_putR (T := TX2) (p0 := p) hc tyX2 tyX2_ok nmX2 in_X2 rfl (by decide) hp (by omega) 1 (by decide) tz_67 rfl rfl rfl rfl hin (ty := tyX2 1) (by decide +kernel) (fun _ => ⟨rfl, rfl⟩) dX2_init_17 ?_
  refine z_aload_n hc 0 dX2_init_20 rfl rfl ?_
  refine z_bipush (v := 12) hc rfl dX2_init_21 ?_
  refine z_newa_int (N' := 12) hc (kz_X2_3 hp) (lz_X2_3 hp) (by decide) rfl (by decide) tz_91 (by decide) (by decide) dX2_init_23 ?_
  refine z_putR (T := TX2) (p0 := p) hc tyX2 tyX2_ok nmX2 in_X2 rfl (by decide) hp (by omega) 2 (by decide) tz_68 rfl rfl rfl rfl hin (ty := tyX2 2) (by decide +kernel) (fun _ => ⟨rfl, rfl⟩) dX2_init_25 ?_
  exact hret _ _ dX2_init_28
theorem hdt_X4 : ∀ j, j < 2 → ∃ d : Nat × Nat, (fl 4)[j]? = some d ∧ defaultValue (tyX4 j) = (match d with | (0, _) => Value.int 0 | (1, _) => Value.long 0 | _ => Value.null) := by
  intro j hj
  match j, hj with
  | 0, _ => exact ⟨_, rfl, rfl⟩
  | 1, _ => exact ⟨_, rfl, rfl⟩
  | j + 2, h => exact absurd h (by omega)
theorem dX4_init_0 : decode cX4_init 0 = .ok (.aload_n 0, 1) := by decide +kernel
theorem dX4_init_1 : decode cX4_init 1 = .ok (.invokespecial 3, 3) := by decide +kernel
theorem dX4_init_4 : decode cX4_init 4 = .ok (.aload_n 0, 1) := by decide +kernel
theorem dX4_init_5 : decode cX4_init 5 = .ok (.bipush 40, 2) := by decide +kernel
theorem dX4_init_7 : decode cX4_init 7 = .ok (.newarray .int, 2) := by decide +kernel
theorem dX4_init_9 : decode cX4_init 9 = .ok (.putfield 9, 3) := by decide +kernel
theorem dX4_init_12 : decode cX4_init 12 = .ok (.aload_n 0, 1) := by decide +kernel
theorem dX4_init_13 : decode cX4_init 13 = .ok (.iconst (-1), 1) := by decide +kernel
theorem dX4_init_14 : decode cX4_init 14 = .ok (.putfield 15, 3) := by decide +kernel
theorem dX4_init_17 : decode cX4_init 17 = .ok (.return_, 1) := by decide +kernel
theorem mi_X4 : MWI yX4_init cX4_init 1 0 := ⟨⟨by decide, by decide, by decide +kernel⟩, tz_216, tz_34, tz_215, rfl⟩
theorem kz_X4_1 {p : Nat} (h : kd p = 4) : kd (p + 1) = 10 := sh_gen (c := 4) (P := fun p => kd (p + 1) = 10) (by decide) (by decide +kernel) h
theorem lz_X4_1 {p : Nat} (h : kd p = 4) : ln (p + 1) = 40 := sh_gen (c := 4) (P := fun p => ln (p + 1) = 40) (by decide) (by decide +kernel) h
def zi_X4 (Z : Nat → Nat → Bool) (p : Nat) : Nat → Nat → Bool := zs Z p 0
def gi_X4 (G : G_) (p : Nat) : G_ := sI G p 1 (-1)
set_option maxHeartbeats 8000000 in
set_option maxRecDepth 100000 in
theorem z_X4_init (l : Launch) (V : VT) (p : Nat) (hp : kd p = 4) (Z : Nat → Nat → Bool) (G : G_) : MCZ l V yX4_init cX4_init 1 1 20 [.ref (V.2.2.1 p)] Z (p + 1) G (zi_X4 Z p) (p + 2) (gi_X4 G p) 1 40 := by
  refine mcz_of (by decide) rfl (Nat.le_of_ble_eq_true rfl) (fun K hV hc hkl hret hin => ?_)
  subst hV
  replace hc : OkZ K cX4_init RX4 (Cond.code yX4_init cX4_init 1 none :: TB) 1 20 1 40 1 := hc
  show XZ K Z (p + 1) 0 0 0 [(0, .ref (kad K p))] [] G
  refine z_aload_n hc 0 dX4_init_0 rfl rfl ?_
  refine z_obj hc tz_217 tz_44 tz_45 (by decide) (Nat.le_of_ble_eq_true rfl) dX4_init_1 ?_
  refine z_aload_n hc 0 dX4_init_4 rfl rfl ?_
  refine z_bipush (v := 40) hc rfl dX4_init_5 ?_
  refine z_newa_int (N' := 40) hc (kz_X4_1 hp) (lz_X4_1 hp) (by decide) rfl (by decide) tz_91 (by decide) (by decide) dX4_init_7 ?_
  refine z_putR (T := TX4) (p0 := p) hc tyX4 tyX4_ok nmX4 in_X4 rfl (by decide) hp (by omega) 0 (by decide) tz_218 rfl rfl rfl rfl hin (ty := tyX4 0) (by decide +kernel) (fun _ => ⟨rfl, rfl⟩) dX4_init_9 ?_
  refine z_aload_n hc 0 dX4_init_12 rfl rfl ?_
  refine z_iconst (v := (-1)) hc rfl dX4_init_13 ?_
  refine z_putI (T := TX4) (p0 := p) hc tyX4 tyX4_ok nmX4 in_X4 rfl (by decide) hp (by omega) 1 (by decide) tz_219 rfl rfl rfl (by decide +kernel) dX4_init_14 ?_
  exact hret _ _ dX4_init_17
theorem hdt_X5 : ∀ j, j < 5 → ∃ d : Nat × Nat, (fl 5)[j]? = some d ∧ defaultValue (tyX5 j) = (match d with | (0, _) => Value.int 0 | (1, _) => Value.long 0 | _ => Value.null) := by
  intro j hj
  match j, hj with
  | 0, _ => exact ⟨_, rfl, rfl⟩
  | 1, _ => exact ⟨_, rfl, rfl⟩
  | 2, _ => exact ⟨_, rfl, rfl⟩
  | 3, _ => exact ⟨_, rfl, rfl⟩
  | 4, _ => exact ⟨_, rfl, rfl⟩
  | j + 5, h => exact absurd h (by omega)
theorem dX5_init_0 : decode cX5_init 0 = .ok (.aload_n 0, 1) := by decide +kernel
theorem dX5_init_1 : decode cX5_init 1 = .ok (.invokespecial 1, 3) := by decide +kernel
theorem dX5_init_4 : decode cX5_init 4 = .ok (.return_, 1) := by decide +kernel
theorem mi_X5 : MWI yX5_init cX5_init 1 0 := ⟨⟨by decide, by decide, by decide +kernel⟩, tz_166, tz_32, tz_165, rfl⟩
def zi_X5 (Z : Nat → Nat → Bool) (p : Nat) : Nat → Nat → Bool := Z
def gi_X5 (G : G_) (p : Nat) : G_ := G
set_option maxHeartbeats 8000000 in
set_option maxRecDepth 100000 in
theorem z_X5_init (l : Launch) (V : VT) (p : Nat) (hp : kd p = 5) (Z : Nat → Nat → Bool) (G : G_) : MCZ l V yX5_init cX5_init 1 1 20 [.ref (V.2.2.1 p)] Z (p + 1) G (zi_X5 Z p) (p + 1) (gi_X5 G p) 0 0 := by
  refine mcz_of (by decide) rfl (Nat.le_of_ble_eq_true rfl) (fun K hV hc hkl hret hin => ?_)
  subst hV
  replace hc : OkZ K cX5_init RX5 (Cond.code yX5_init cX5_init 1 none :: TB) 1 20 0 0 1 := hc
  show XZ K Z (p + 1) 0 0 0 [(0, .ref (kad K p))] [] G
  refine z_aload_n hc 0 dX5_init_0 rfl rfl ?_
  refine z_obj hc tz_167 tz_44 tz_45 (by decide) (Nat.le_of_ble_eq_true rfl) dX5_init_1 ?_
  exact hret _ _ dX5_init_4
theorem hdt_X6 : ∀ j, j < 2 → ∃ d : Nat × Nat, (fl 6)[j]? = some d ∧ defaultValue (tyX6 j) = (match d with | (0, _) => Value.int 0 | (1, _) => Value.long 0 | _ => Value.null) := by
  intro j hj
  match j, hj with
  | 0, _ => exact ⟨_, rfl, rfl⟩
  | 1, _ => exact ⟨_, rfl, rfl⟩
  | j + 2, h => exact absurd h (by omega)
theorem dX6_init_0 : decode cX6_init 0 = .ok (.aload_n 0, 1) := by decide +kernel
theorem dX6_init_1 : decode cX6_init 1 = .ok (.invokespecial 3, 3) := by decide +kernel
theorem dX6_init_4 : decode cX6_init 4 = .ok (.aload_n 0, 1) := by decide +kernel
theorem dX6_init_5 : decode cX6_init 5 = .ok (.bipush 80, 2) := by decide +kernel
theorem dX6_init_7 : decode cX6_init 7 = .ok (.newarray .byte, 2) := by decide +kernel
theorem dX6_init_9 : decode cX6_init 9 = .ok (.putfield 9, 3) := by decide +kernel
theorem dX6_init_12 : decode cX6_init 12 = .ok (.aload_n 0, 1) := by decide +kernel
theorem dX6_init_13 : decode cX6_init 13 = .ok (.iconst (-1), 1) := by decide +kernel
theorem dX6_init_14 : decode cX6_init 14 = .ok (.putfield 15, 3) := by decide +kernel
theorem dX6_init_17 : decode cX6_init 17 = .ok (.return_, 1) := by decide +kernel
theorem mi_X6 : MWI yX6_init cX6_init 1 0 := ⟨⟨by decide, by decide, by decide +kernel⟩, tz_229, tz_35, tz_228, rfl⟩
theorem kz_X6_1 {p : Nat} (h : kd p = 6) : kd (p + 1) = 9 := sh_gen (c := 6) (P := fun p => kd (p + 1) = 9) (by decide) (by decide +kernel) h
theorem lz_X6_1 {p : Nat} (h : kd p = 6) : ln (p + 1) = 80 := sh_gen (c := 6) (P := fun p => ln (p + 1) = 80) (by decide) (by decide +kernel) h
def zi_X6 (Z : Nat → Nat → Bool) (p : Nat) : Nat → Nat → Bool := zs Z p 0
def gi_X6 (G : G_) (p : Nat) : G_ := sI G p 1 (-1)
set_option maxHeartbeats 8000000 in
set_option maxRecDepth 100000 in
theorem z_X6_init (l : Launch) (V : VT) (p : Nat) (hp : kd p = 6) (Z : Nat → Nat → Bool) (G : G_) : MCZ l V yX6_init cX6_init 1 1 20 [.ref (V.2.2.1 p)] Z (p + 1) G (zi_X6 Z p) (p + 2) (gi_X6 G p) 1 80 := by
  refine mcz_of (by decide) rfl (Nat.le_of_ble_eq_true rfl) (fun K hV hc hkl hret hin => ?_)
  subst hV
  replace hc : OkZ K cX6_init RX6 (Cond.code yX6_init cX6_init 1 none :: TB) 1 20 1 80 1 := hc
  show XZ K Z (p + 1) 0 0 0 [(0, .ref (kad K p))] [] G
  refine z_aload_n hc 0 dX6_init_0 rfl rfl ?_
  refine z_obj hc tz_230 tz_44 tz_45 (by decide) (Nat.le_of_ble_eq_true rfl) dX6_init_1 ?_
  refine z_aload_n hc 0 dX6_init_4 rfl rfl ?_
  refine z_bipush (v := 80) hc rfl dX6_init_5 ?_
  refine z_newa_byte (N' := 80) hc (kz_X6_1 hp) (lz_X6_1 hp) (by decide) rfl (by decide) tz_239 (by decide) (by decide) dX6_init_7 ?_
  refine z_putR (T := TX6) (p0 := p) hc tyX6 tyX6_ok nmX6 in_X6 rfl (by decide) hp (by omega) 0 (by decide) tz_231 rfl rfl rfl rfl hin (ty := tyX6 0) (by decide +kernel) (fun _ => ⟨rfl, rfl⟩) dX6_init_9 ?_
  refine z_aload_n hc 0 dX6_init_12 rfl rfl ?_
  refine z_iconst (v := (-1)) hc rfl dX6_init_13 ?_
  refine z_putI (T := TX6) (p0 := p) hc tyX6 tyX6_ok nmX6 in_X6 rfl (by decide) hp (by omega) 1 (by decide) tz_232 rfl rfl rfl (by decide +kernel) dX6_init_14 ?_
  exact hret _ _ dX6_init_17
theorem hdt_X1 : ∀ j, j < 3 → ∃ d : Nat × Nat, (fl 1)[j]? = some d ∧ defaultValue (tyX1 j) = (match d with | (0, _) => Value.int 0 | (1, _) => Value.long 0 | _ => Value.null) := by
  intro j hj
  match j, hj with
  | 0, _ => exact ⟨_, rfl, rfl⟩
  | 1, _ => exact ⟨_, rfl, rfl⟩
  | 2, _ => exact ⟨_, rfl, rfl⟩
  | j + 3, h => exact absurd h (by omega)
theorem dX1_init_0 : decode cX1_init 0 = .ok (.aload_n 0, 1) := by decide +kernel
theorem dX1_init_1 : decode cX1_init 1 = .ok (.invokespecial 1, 3) := by decide +kernel
theorem dX1_init_4 : decode cX1_init 4 = .ok (.aload_n 0, 1) := by decide +kernel
theorem dX1_init_5 : decode cX1_init 5 = .ok (.bipush 64, 2) := by decide +kernel
theorem dX1_init_7 : decode cX1_init 7 = .ok (.newarray .int, 2) := by decide +kernel
theorem dX1_init_9 : decode cX1_init 9 = .ok (.putfield 7, 3) := by decide +kernel
theorem dX1_init_12 : decode cX1_init 12 = .ok (.aload_n 0, 1) := by decide +kernel
theorem dX1_init_13 : decode cX1_init 13 = .ok (.iconst 4, 1) := by decide +kernel
theorem dX1_init_14 : decode cX1_init 14 = .ok (.newarray .int, 2) := by decide +kernel
theorem dX1_init_16 : decode cX1_init 16 = .ok (.putfield 13, 3) := by decide +kernel
theorem dX1_init_19 : decode cX1_init 19 = .ok (.return_, 1) := by decide +kernel
theorem mi_X1 : MWI yX1_init cX1_init 1 0 := ⟨⟨by decide, by decide, by decide +kernel⟩, tz_200, tz_33, tz_199, rfl⟩
theorem kz_X1_1 {p : Nat} (h : kd p = 1) : kd (p + 1) = 10 := sh_gen (c := 1) (P := fun p => kd (p + 1) = 10) (by decide) (by decide +kernel) h
theorem lz_X1_1 {p : Nat} (h : kd p = 1) : ln (p + 1) = 64 := sh_gen (c := 1) (P := fun p => ln (p + 1) = 64) (by decide) (by decide +kernel) h
theorem kz_X1_2 {p : Nat} (h : kd p = 1) : kd (p + 2) = 10 := sh_gen (c := 1) (P := fun p => kd (p + 2) = 10) (by decide) (by decide +kernel) h
theorem lz_X1_2 {p : Nat} (h : kd p = 1) : ln (p + 2) = 4 := sh_gen (c := 1) (P := fun p => ln (p + 2) = 4) (by decide) (by decide +kernel) h
def zi_X1 (Z : Nat → Nat → Bool) (p : Nat) : Nat → Nat → Bool := zs (zs Z p 0) p 1
def gi_X1 (G : G_) (p : Nat) : G_ := G
set_option maxHeartbeats 8000000 in
set_option maxRecDepth 100000 in
theorem z_X1_init (l : Launch) (V : VT) (p : Nat) (hp : kd p = 1) (Z : Nat → Nat → Bool) (G : G_) : MCZ l V yX1_init cX1_init 1 1 20 [.ref (V.2.2.1 p)] Z (p + 1) G (zi_X1 Z p) (p + 3) (gi_X1 G p) 2 68 := by
  refine mcz_of (by decide) rfl (Nat.le_of_ble_eq_true rfl) (fun K hV hc hkl hret hin => ?_)
  subst hV
  replace hc : OkZ K cX1_init RX1 (Cond.code yX1_init cX1_init 1 none :: TB) 1 20 2 68 1 := hc
  show XZ K Z (p + 1) 0 0 0 [(0, .ref (kad K p))] [] G
  refine z_aload_n hc 0 dX1_init_0 rfl rfl ?_
  refine z_obj hc tz_201 tz_44 tz_45 (by decide) (Nat.le_of_ble_eq_true rfl) dX1_init_1 ?_
  refine z_aload_n hc 0 dX1_init_4 rfl rfl ?_
  refine z_bipush (v := 64) hc rfl dX1_init_5 ?_
  refine z_newa_int (N' := 64) hc (kz_X1_1 hp) (lz_X1_1 hp) (by decide) rfl (by decide) tz_91 (by decide) (by decide) dX1_init_7 ?_
  refine z_putR (T := TX1) (p0 := p) hc tyX1 tyX1_ok nmX1 in_X1 rfl (by decide) hp (by omega) 0 (by decide) tz_202 rfl rfl rfl rfl hin (ty := tyX1 0) (by decide +kernel) (fun _ => ⟨rfl, rfl⟩) dX1_init_9 ?_
  refine z_aload_n hc 0 dX1_init_12 rfl rfl ?_
  refine z_iconst (v := 4) hc rfl dX1_init_13 ?_
  refine z_newa_int (N' := 4) hc (kz_X1_2 hp) (lz_X1_2 hp) (by decide) rfl (by decide) tz_91 (by decide) (by decide) dX1_init_14 ?_
  refine z_putR (T := TX1) (p0 := p) hc tyX1 tyX1_ok nmX1 in_X1 rfl (by decide) hp (by omega) 1 (by decide) tz_203 rfl rfl rfl rfl hin (ty := tyX1 1) (by decide +kernel) (fun _ => ⟨rfl, rfl⟩) dX1_init_16 ?_
  exact hret _ _ dX1_init_19
theorem hdt_X3 : ∀ j, j < 2 → ∃ d : Nat × Nat, (fl 3)[j]? = some d ∧ defaultValue (tyX3 j) = (match d with | (0, _) => Value.int 0 | (1, _) => Value.long 0 | _ => Value.null) := by
  intro j hj
  match j, hj with
  | 0, _ => exact ⟨_, rfl, rfl⟩
  | 1, _ => exact ⟨_, rfl, rfl⟩
  | j + 2, h => exact absurd h (by omega)
theorem dX3_init_0 : decode cX3_init 0 = .ok (.aload_n 0, 1) := by decide +kernel
theorem dX3_init_1 : decode cX3_init 1 = .ok (.invokespecial 3, 3) := by decide +kernel
theorem dX3_init_4 : decode cX3_init 4 = .ok (.aload_n 0, 1) := by decide +kernel
theorem dX3_init_5 : decode cX3_init 5 = .ok (.bipush (-9), 2) := by decide +kernel
theorem dX3_init_7 : decode cX3_init 7 = .ok (.putfield 9, 3) := by decide +kernel
theorem dX3_init_10 : decode cX3_init 10 = .ok (.return_, 1) := by decide +kernel
theorem mi_X3 : MWI yX3_init cX3_init 1 0 := ⟨⟨by decide, by decide, by decide +kernel⟩, tz_153, tz_31, tz_152, rfl⟩
def zi_X3 (Z : Nat → Nat → Bool) (p : Nat) : Nat → Nat → Bool := Z
def gi_X3 (G : G_) (p : Nat) : G_ := sI G p 1 (-9)
set_option maxHeartbeats 8000000 in
set_option maxRecDepth 100000 in
theorem z_X3_init (l : Launch) (V : VT) (p : Nat) (hp : kd p = 3) (Z : Nat → Nat → Bool) (G : G_) : MCZ l V yX3_init cX3_init 1 1 20 [.ref (V.2.2.1 p)] Z (p + 1) G (zi_X3 Z p) (p + 1) (gi_X3 G p) 0 0 := by
  refine mcz_of (by decide) rfl (Nat.le_of_ble_eq_true rfl) (fun K hV hc hkl hret hin => ?_)
  subst hV
  replace hc : OkZ K cX3_init RX3 (Cond.code yX3_init cX3_init 1 none :: TB) 1 20 0 0 1 := hc
  show XZ K Z (p + 1) 0 0 0 [(0, .ref (kad K p))] [] G
  refine z_aload_n hc 0 dX3_init_0 rfl rfl ?_
  refine z_obj hc tz_154 tz_44 tz_45 (by decide) (Nat.le_of_ble_eq_true rfl) dX3_init_1 ?_
  refine z_aload_n hc 0 dX3_init_4 rfl rfl ?_
  refine z_bipush (v := (-9)) hc rfl dX3_init_5 ?_
  refine z_putI (T := TX3) (p0 := p) hc tyX3 tyX3_ok nmX3 in_X3 rfl (by decide) hp (by omega) 1 (by decide) tz_156 rfl rfl rfl (by decide +kernel) dX3_init_7 ?_
  exact hret _ _ dX3_init_10
theorem hdt_X0 : ∀ j, j < 17 → ∃ d : Nat × Nat, (fl 0)[j]? = some d ∧ defaultValue (tyX0 j) = (match d with | (0, _) => Value.int 0 | (1, _) => Value.long 0 | _ => Value.null) := by
  intro j hj
  match j, hj with
  | 0, _ => exact ⟨_, rfl, rfl⟩
  | 1, _ => exact ⟨_, rfl, rfl⟩
  | 2, _ => exact ⟨_, rfl, rfl⟩
  | 3, _ => exact ⟨_, rfl, rfl⟩
  | 4, _ => exact ⟨_, rfl, rfl⟩
  | 5, _ => exact ⟨_, rfl, rfl⟩
  | 6, _ => exact ⟨_, rfl, rfl⟩
  | 7, _ => exact ⟨_, rfl, rfl⟩
  | 8, _ => exact ⟨_, rfl, rfl⟩
  | 9, _ => exact ⟨_, rfl, rfl⟩
  | 10, _ => exact ⟨_, rfl, rfl⟩
  | 11, _ => exact ⟨_, rfl, rfl⟩
  | 12, _ => exact ⟨_, rfl, rfl⟩
  | 13, _ => exact ⟨_, rfl, rfl⟩
  | 14, _ => exact ⟨_, rfl, rfl⟩
  | 15, _ => exact ⟨_, rfl, rfl⟩
  | 16, _ => exact ⟨_, rfl, rfl⟩
  | j + 17, h => exact absurd h (by omega)
theorem dX0_init_0 : decode cX0_init 0 = .ok (.aload_n 0, 1) := by decide +kernel
theorem dX0_init_1 : decode cX0_init 1 = .ok (.invokespecial 3, 3) := by decide +kernel
theorem dX0_init_4 : decode cX0_init 4 = .ok (.aload_n 0, 1) := by decide +kernel
theorem dX0_init_5 : decode cX0_init 5 = .ok (.bipush 20, 2) := by decide +kernel
theorem dX0_init_7 : decode cX0_init 7 = .ok (.newarray .int, 2) := by decide +kernel
theorem dX0_init_9 : decode cX0_init 9 = .ok (.putfield 9, 3) := by decide +kernel
theorem dX0_init_12 : decode cX0_init 12 = .ok (.aload_n 0, 1) := by decide +kernel
theorem dX0_init_13 : decode cX0_init 13 = .ok (.bipush 20, 2) := by decide +kernel
theorem dX0_init_15 : decode cX0_init 15 = .ok (.newarray .int, 2) := by decide +kernel
theorem dX0_init_17 : decode cX0_init 17 = .ok (.putfield 15, 3) := by decide +kernel
theorem dX0_init_20 : decode cX0_init 20 = .ok (.aload_n 0, 1) := by decide +kernel
theorem dX0_init_21 : decode cX0_init 21 = .ok (.bipush 20, 2) := by decide +kernel
theorem dX0_init_23 : decode cX0_init 23 = .ok (.newarray .int, 2) := by decide +kernel
theorem dX0_init_25 : decode cX0_init 25 = .ok (.putfield 18, 3) := by decide +kernel
theorem dX0_init_28 : decode cX0_init 28 = .ok (.aload_n 0, 1) := by decide +kernel
theorem dX0_init_29 : decode cX0_init 29 = .ok (.bipush 20, 2) := by decide +kernel
theorem dX0_init_31 : decode cX0_init 31 = .ok (.newarray .int, 2) := by decide +kernel
theorem dX0_init_33 : decode cX0_init 33 = .ok (.putfield 21, 3) := by decide +kernel
theorem dX0_init_36 : decode cX0_init 36 = .ok (.aload_n 0, 1) := by decide +kernel
theorem dX0_init_37 : decode cX0_init 37 = .ok (.iconst 2, 1) := by decide +kernel
theorem dX0_init_38 : decode cX0_init 38 = .ok (.newarray .int, 2) := by decide +kernel
theorem dX0_init_40 : decode cX0_init 40 = .ok (.putfield 24, 3) := by decide +kernel
theorem dX0_init_43 : decode cX0_init 43 = .ok (.aload_n 0, 1) := by decide +kernel
theorem dX0_init_44 : decode cX0_init 44 = .ok (.iconst 2, 1) := by decide +kernel
theorem dX0_init_45 : decode cX0_init 45 = .ok (.newarray .int, 2) := by decide +kernel
theorem dX0_init_47 : decode cX0_init 47 = .ok (.putfield 27, 3) := by decide +kernel
theorem dX0_init_50 : decode cX0_init 50 = .ok (.aload_n 0, 1) := by decide +kernel
theorem dX0_init_51 : decode cX0_init 51 = .ok (.new 30, 3) := by decide +kernel
theorem dX0_init_54 : decode cX0_init 54 = .ok (.dup, 1) := by decide +kernel
theorem dX0_init_55 : decode cX0_init 55 = .ok (.invokespecial 32, 3) := by decide +kernel
theorem dX0_init_58 : decode cX0_init 58 = .ok (.putfield 33, 3) := by decide +kernel
theorem dX0_init_61 : decode cX0_init 61 = .ok (.aload_n 0, 1) := by decide +kernel
theorem dX0_init_62 : decode cX0_init 62 = .ok (.iconst 3, 1) := by decide +kernel
theorem dX0_init_63 : decode cX0_init 63 = .ok (.putfield 37, 3) := by decide +kernel
theorem dX0_init_66 : decode cX0_init 66 = .ok (.return_, 1) := by decide +kernel
theorem mi_X0 : MWI yX0_init cX0_init 1 0 := ⟨⟨by decide, by decide, by decide +kernel⟩, tz_58, tz_29, tz_57, rfl⟩
theorem kz_X0_1 {p : Nat} (h : kd p = 0) : kd (p + 1) = 10 := sh_gen (c := 0) (P := fun p => kd (p + 1) = 10) (by decide) (by decide +kernel) h
theorem lz_X0_1 {p : Nat} (h : kd p = 0) : ln (p + 1) = 20 := sh_gen (c := 0) (P := fun p => ln (p + 1) = 20) (by decide) (by decide +kernel) h
theorem kz_X0_2 {p : Nat} (h : kd p = 0) : kd (p + 2) = 10 := sh_gen (c := 0) (P := fun p => kd (p + 2) = 10) (by decide) (by decide +kernel) h
theorem lz_X0_2 {p : Nat} (h : kd p = 0) : ln (p + 2) = 20 := sh_gen (c := 0) (P := fun p => ln (p + 2) = 20) (by decide) (by decide +kernel) h
theorem kz_X0_3 {p : Nat} (h : kd p = 0) : kd (p + 3) = 10 := sh_gen (c := 0) (P := fun p => kd (p + 3) = 10) (by decide) (by decide +kernel) h
theorem lz_X0_3 {p : Nat} (h : kd p = 0) : ln (p + 3) = 20 := sh_gen (c := 0) (P := fun p => ln (p + 3) = 20) (by decide) (by decide +kernel) h
theorem kz_X0_4 {p : Nat} (h : kd p = 0) : kd (p + 4) = 10 := sh_gen (c := 0) (P := fun p => kd (p + 4) = 10) (by decide) (by decide +kernel) h
theorem lz_X0_4 {p : Nat} (h : kd p = 0) : ln (p + 4) = 20 := sh_gen (c := 0) (P := fun p => ln (p + 4) = 20) (by decide) (by decide +kernel) h
theorem kz_X0_5 {p : Nat} (h : kd p = 0) : kd (p + 5) = 10 := sh_gen (c := 0) (P := fun p => kd (p + 5) = 10) (by decide) (by decide +kernel) h
theorem lz_X0_5 {p : Nat} (h : kd p = 0) : ln (p + 5) = 2 := sh_gen (c := 0) (P := fun p => ln (p + 5) = 2) (by decide) (by decide +kernel) h
theorem kz_X0_6 {p : Nat} (h : kd p = 0) : kd (p + 6) = 10 := sh_gen (c := 0) (P := fun p => kd (p + 6) = 10) (by decide) (by decide +kernel) h
theorem lz_X0_6 {p : Nat} (h : kd p = 0) : ln (p + 6) = 2 := sh_gen (c := 0) (P := fun p => ln (p + 6) = 2) (by decide) (by decide +kernel) h
theorem kz_X0_7 {p : Nat} (h : kd p = 0) : kd (p + 7) = 2 := sh_gen (c := 0) (P := fun p => kd (p + 7) = 2) (by decide) (by decide +kernel) h
def zi_X0 (Z : Nat → Nat → Bool) (p : Nat) : Nat → Nat → Bool := zs (zi_X2 (zs (zs (zs (zs (zs (zs Z p 0) p 1) p 2) p 3) p 4) p 5) (p + 7)) p 6
def gi_X0 (G : G_) (p : Nat) : G_ := sI (gi_X2 G (p + 7)) p 8 3
set_option maxHeartbeats 8000000 in
set_option maxRecDepth 100000 in
theorem z_X0_init (l : Launch) (V : VT) (p : Nat) (hp : kd p = 0) (Z : Nat → Nat → Bool) (G : G_) : MCZ l V yX0_init cX0_init 1 2 40 [.ref (V.2.2.1 p)] Z (p + 1) G (zi_X0 Z p) (p + 11) (gi_X0 G p) 10 126 := by
  refine mcz_of (by decide) rfl (Nat.le_of_ble_eq_true rfl) (fun K hV hc hkl hret hin => ?_)
  subst hV
  replace hc : OkZ K cX0_init RX0 (Cond.code yX0_init cX0_init 1 none :: TB) 2 40 10 126 1 := hc
  show XZ K Z (p + 1) 0 0 0 [(0, .ref (kad K p))] [] G
  refine z_aload_n hc 0 dX0_init_0 rfl rfl ?_
  refine z_obj hc tz_59 tz_44 tz_45 (by decide) (Nat.le_of_ble_eq_true rfl) dX0_init_1 ?_
  refine z_aload_n hc 0 dX0_init_4 rfl rfl ?_
  refine z_bipush (v := 20) hc rfl dX0_init_5 ?_
  refine z_newa_int (N' := 20) hc (kz_X0_1 hp) (lz_X0_1 hp) (by decide) rfl (by decide) tz_91 (by decide) (by decide) dX0_init_7 ?_
  refine z_putR (T := TX0) (p0 := p) hc tyX0 tyX0_ok nmX0 in_X0 rfl (by decide) hp (by omega) 0 (by decide) tz_92 rfl rfl rfl rfl hin (ty := tyX0 0) (by decide +kernel) (fun _ => ⟨rfl, rfl⟩) dX0_init_9 ?_
  refine z_aload_n hc 0 dX0_init_12 rfl rfl ?_
  refine z_bipush (v := 20) hc rfl dX0_init_13 ?_
  refine z_newa_int (N' := 20) hc (kz_X0_2 hp) (lz_X0_2 hp) (by decide) rfl (by decide) tz_91 (by decide) (by decide) dX0_init_15 ?_
  refine z_putR (T := TX0) (p0 := p) hc tyX0 tyX0_ok nmX0 in_X0 rfl (by decide) hp (by omega) 1 (by decide) tz_93 rfl rfl rfl rfl hin (ty := tyX0 1) (by decide +kernel) (fun _ => ⟨rfl, rfl⟩) dX0_init_17 ?_
  refine z_aload_n hc 0 dX0_init_20 rfl rfl ?_
  refine z_bipush (v := 20) hc rfl dX0_init_21 ?_
  refine z_newa_int (N' := 20) hc (kz_X0_3 hp) (lz_X0_3 hp) (by decide) rfl (by decide) tz_91 (by decide) (by decide) dX0_init_23 ?_
  refine z_putR (T := TX0) (p0 := p) hc tyX0 tyX0_ok nmX0 in_X0 rfl (by decide) hp (by omega) 2 (by decide) tz_94 rfl rfl rfl rfl hin (ty := tyX0 2) (by decide +kernel) (fun _ => ⟨rfl, rfl⟩) dX0_init_25 ?_
  refine z_aload_n hc 0 dX0_init_28 rfl rfl ?_
  refine z_bipush (v := 20) hc rfl dX0_init_29 ?_
  refine z_newa_int (N' := 20) hc (kz_X0_4 hp) (lz_X0_4 hp) (by decide) rfl (by decide) tz_91 (by decide) (by decide) dX0_init_31 ?_
  refine z_putR (T := TX0) (p0 := p) hc tyX0 tyX0_ok nmX0 in_X0 rfl (by decide) hp (by omega) 3 (by decide) tz_95 rfl rfl rfl rfl hin (ty := tyX0 3) (by decide +kernel) (fun _ => ⟨rfl, rfl⟩) dX0_init_33 ?_
  refine z_aload_n hc 0 dX0_init_36 rfl rfl ?_
  refine z_iconst (v := 2) hc rfl dX0_init_37 ?_
  refine z_newa_int (N' := 2) hc (kz_X0_5 hp) (lz_X0_5 hp) (by decide) rfl (by decide) tz_91 (by decide) (by decide) dX0_init_38 ?_
  refine z_putR (T := TX0) (p0 := p) hc tyX0 tyX0_ok nmX0 in_X0 rfl (by decide) hp (by omega) 4 (by decide) tz_96 rfl rfl rfl rfl hin (ty := tyX0 4) (by decide +kernel) (fun _ => ⟨rfl, rfl⟩) dX0_init_40 ?_
  refine z_aload_n hc 0 dX0_init_43 rfl rfl ?_
  refine z_iconst (v := 2) hc rfl dX0_init_44 ?_
  refine z_newa_int (N' := 2) hc (kz_X0_6 hp) (lz_X0_6 hp) (by decide) rfl (by decide) tz_91 (by decide) (by decide) dX0_init_45 ?_
  refine z_putR (T := TX0) (p0 := p) hc tyX0 tyX0_ok nmX0 in_X0 rfl (by decide) hp (by omega) 5 (by decide) tz_97 rfl rfl rfl rfl hin (ty := tyX0 5) (by decide +kernel) (fun _ => ⟨rfl, rfl⟩) dX0_init_47 ?_
  refine z_aload_n hc 0 dX0_init_50 rfl rfl ?_
  refine z_new (T := TX2) hc tyX2 tyX2_ok in_X2 rfl (by decide) (kz_X0_7 hp) hdt_X2 tz_60 tz_61 tz_30 (by decide) (by decide) dX0_init_51 ?_
  refine z_dup hc rfl dX0_init_54 ?_
  refine z_callIN (p0 := p + 7) (host := "SlabTurn") hc (z_X2_init (kl K) (kV K) (p + 7) (kz_X0_7 hp) _ _) mi_X2 (List.mem_of_getElem? (i := 1) rfl) (Nat.le_of_ble_eq_true rfl) ⟨by decide, by decide⟩ (by decide) (by decide) dX0_init_55 ?_
  refine z_putR (T := TX0) (p0 := p) hc tyX0 tyX0_ok nmX0 in_X0 rfl (by decide) hp (by omega) 6 (by decide) tz_98 rfl rfl rfl rfl hin (ty := tyX0 6) (by decide +kernel) (fun _ => ⟨rfl, rfl⟩) dX0_init_58 ?_
  refine z_aload_n hc 0 dX0_init_61 rfl rfl ?_
  refine z_iconst (v := 3) hc rfl dX0_init_62 ?_
  refine z_putI (T := TX0) (p0 := p) hc tyX0 tyX0_ok nmX0 in_X0 rfl (by decide) hp (by omega) 8 (by decide) tz_102 rfl rfl rfl (by decide +kernel) dX0_init_63 ?_
  exact hret _ _ dX0_init_66
theorem hdt_X7 : ∀ j, j < 19 → ∃ d : Nat × Nat, (fl 7)[j]? = some d ∧ defaultValue (tyX7 j) = (match d with | (0, _) => Value.int 0 | (1, _) => Value.long 0 | _ => Value.null) := by
  intro j hj
  match j, hj with
  | 0, _ => exact ⟨_, rfl, rfl⟩
  | 1, _ => exact ⟨_, rfl, rfl⟩
  | 2, _ => exact ⟨_, rfl, rfl⟩
  | 3, _ => exact ⟨_, rfl, rfl⟩
  | 4, _ => exact ⟨_, rfl, rfl⟩
  | 5, _ => exact ⟨_, rfl, rfl⟩
  | 6, _ => exact ⟨_, rfl, rfl⟩
  | 7, _ => exact ⟨_, rfl, rfl⟩
  | 8, _ => exact ⟨_, rfl, rfl⟩
  | 9, _ => exact ⟨_, rfl, rfl⟩
  | 10, _ => exact ⟨_, rfl, rfl⟩
  | 11, _ => exact ⟨_, rfl, rfl⟩
  | 12, _ => exact ⟨_, rfl, rfl⟩
  | 13, _ => exact ⟨_, rfl, rfl⟩
  | 14, _ => exact ⟨_, rfl, rfl⟩
  | 15, _ => exact ⟨_, rfl, rfl⟩
  | 16, _ => exact ⟨_, rfl, rfl⟩
  | 17, _ => exact ⟨_, rfl, rfl⟩
  | 18, _ => exact ⟨_, rfl, rfl⟩
  | j + 19, h => exact absurd h (by omega)
theorem dX7_init_0 : decode cX7_init 0 = .ok (.aload_n 0, 1) := by decide +kernel
theorem dX7_init_1 : decode cX7_init 1 = .ok (.invokespecial 1, 3) := by decide +kernel
theorem dX7_init_4 : decode cX7_init 4 = .ok (.aload_n 0, 1) := by decide +kernel
theorem dX7_init_5 : decode cX7_init 5 = .ok (.bipush 6, 2) := by decide +kernel
theorem dX7_init_7 : decode cX7_init 7 = .ok (.anewarray 7, 3) := by decide +kernel
theorem dX7_init_10 : decode cX7_init 10 = .ok (.putfield 9, 3) := by decide +kernel
theorem dX7_init_13 : decode cX7_init 13 = .ok (.aload_n 0, 1) := by decide +kernel
theorem dX7_init_14 : decode cX7_init 14 = .ok (.iconst 4, 1) := by decide +kernel
theorem dX7_init_15 : decode cX7_init 15 = .ok (.anewarray 15, 3) := by decide +kernel
theorem dX7_init_18 : decode cX7_init 18 = .ok (.putfield 17, 3) := by decide +kernel
theorem dX7_init_21 : decode cX7_init 21 = .ok (.aload_n 0, 1) := by decide +kernel
theorem dX7_init_22 : decode cX7_init 22 = .ok (.iconst 4, 1) := by decide +kernel
theorem dX7_init_23 : decode cX7_init 23 = .ok (.anewarray 21, 3) := by decide +kernel
theorem dX7_init_26 : decode cX7_init 26 = .ok (.putfield 23, 3) := by decide +kernel
theorem dX7_init_29 : decode cX7_init 29 = .ok (.aload_n 0, 1) := by decide +kernel
theorem dX7_init_30 : decode cX7_init 30 = .ok (.iconst 4, 1) := by decide +kernel
theorem dX7_init_31 : decode cX7_init 31 = .ok (.anewarray 27, 3) := by decide +kernel
theorem dX7_init_34 : decode cX7_init 34 = .ok (.putfield 29, 3) := by decide +kernel
theorem dX7_init_37 : decode cX7_init 37 = .ok (.aload_n 0, 1) := by decide +kernel
theorem dX7_init_38 : decode cX7_init 38 = .ok (.new 33, 3) := by decide +kernel
theorem dX7_init_41 : decode cX7_init 41 = .ok (.dup, 1) := by decide +kernel
theorem dX7_init_42 : decode cX7_init 42 = .ok (.invokespecial 35, 3) := by decide +kernel
theorem dX7_init_45 : decode cX7_init 45 = .ok (.putfield 36, 3) := by decide +kernel
theorem dX7_init_48 : decode cX7_init 48 = .ok (.aload_n 0, 1) := by decide +kernel
theorem dX7_init_49 : decode cX7_init 49 = .ok (.iconst 3, 1) := by decide +kernel
theorem dX7_init_50 : decode cX7_init 50 = .ok (.anewarray 33, 3) := by decide +kernel
theorem dX7_init_53 : decode cX7_init 53 = .ok (.putfield 40, 3) := by decide +kernel
theorem dX7_init_56 : decode cX7_init 56 = .ok (.aload_n 0, 1) := by decide +kernel
theorem dX7_init_57 : decode cX7_init 57 = .ok (.new 33, 3) := by decide +kernel
theorem dX7_init_60 : decode cX7_init 60 = .ok (.dup, 1) := by decide +kernel
theorem dX7_init_61 : decode cX7_init 61 = .ok (.invokespecial 35, 3) := by decide +kernel
theorem dX7_init_64 : decode cX7_init 64 = .ok (.putfield 44, 3) := by decide +kernel
theorem dX7_init_67 : decode cX7_init 67 = .ok (.aload_n 0, 1) := by decide +kernel
theorem dX7_init_68 : decode cX7_init 68 = .ok (.new 33, 3) := by decide +kernel
theorem dX7_init_71 : decode cX7_init 71 = .ok (.dup, 1) := by decide +kernel
theorem dX7_init_72 : decode cX7_init 72 = .ok (.invokespecial 35, 3) := by decide +kernel
theorem dX7_init_75 : decode cX7_init 75 = .ok (.putfield 47, 3) := by decide +kernel
theorem dX7_init_78 : decode cX7_init 78 = .ok (.aload_n 0, 1) := by decide +kernel
theorem dX7_init_79 : decode cX7_init 79 = .ok (.new 50, 3) := by decide +kernel
theorem dX7_init_82 : decode cX7_init 82 = .ok (.dup, 1) := by decide +kernel
theorem dX7_init_83 : decode cX7_init 83 = .ok (.invokespecial 52, 3) := by decide +kernel
theorem dX7_init_86 : decode cX7_init 86 = .ok (.putfield 53, 3) := by decide +kernel
theorem dX7_init_89 : decode cX7_init 89 = .ok (.aload_n 0, 1) := by decide +kernel
theorem dX7_init_90 : decode cX7_init 90 = .ok (.new 21, 3) := by decide +kernel
theorem dX7_init_93 : decode cX7_init 93 = .ok (.dup, 1) := by decide +kernel
theorem dX7_init_94 : decode cX7_init 94 = .ok (.invokespecial 57, 3) := by decide +kernel
theorem dX7_init_97 : decode cX7_init 97 = .ok (.putfield 58, 3) := by decide +kernel
theorem dX7_init_100 : decode cX7_init 100 = .ok (.aload_n 0, 1) := by decide +kernel
theorem dX7_init_101 : decode cX7_init 101 = .ok (.new 27, 3) := by decide +kernel
theorem dX7_init_104 : decode cX7_init 104 = .ok (.dup, 1) := by decide +kernel
theorem dX7_init_105 : decode cX7_init 105 = .ok (.invokespecial 62, 3) := by decide +kernel
theorem dX7_init_108 : decode cX7_init 108 = .ok (.putfield 63, 3) := by decide +kernel
theorem dX7_init_111 : decode cX7_init 111 = .ok (.aload_n 0, 1) := by decide +kernel
theorem dX7_init_112 : decode cX7_init 112 = .ok (.new 67, 3) := by decide +kernel
theorem dX7_init_115 : decode cX7_init 115 = .ok (.dup, 1) := by decide +kernel
theorem dX7_init_116 : decode cX7_init 116 = .ok (.invokespecial 69, 3) := by decide +kernel
theorem dX7_init_119 : decode cX7_init 119 = .ok (.putfield 70, 3) := by decide +kernel
theorem dX7_init_122 : decode cX7_init 122 = .ok (.aload_n 0, 1) := by decide +kernel
theorem dX7_init_123 : decode cX7_init 123 = .ok (.bipush 16, 2) := by decide +kernel
theorem dX7_init_125 : decode cX7_init 125 = .ok (.newarray .int, 2) := by decide +kernel
theorem dX7_init_127 : decode cX7_init 127 = .ok (.putfield 74, 3) := by decide +kernel
theorem dX7_init_130 : decode cX7_init 130 = .ok (.aload_n 0, 1) := by decide +kernel
theorem dX7_init_131 : decode cX7_init 131 = .ok (.bipush 21, 2) := by decide +kernel
theorem dX7_init_133 : decode cX7_init 133 = .ok (.newarray .int, 2) := by decide +kernel
theorem dX7_init_135 : decode cX7_init 135 = .ok (.putfield 78, 3) := by decide +kernel
theorem dX7_init_138 : decode cX7_init 138 = .ok (.aload_n 0, 1) := by decide +kernel
theorem dX7_init_139 : decode cX7_init 139 = .ok (.bipush 6, 2) := by decide +kernel
theorem dX7_init_141 : decode cX7_init 141 = .ok (.newarray .int, 2) := by decide +kernel
theorem dX7_init_143 : decode cX7_init 143 = .ok (.putfield 81, 3) := by decide +kernel
theorem dX7_init_146 : decode cX7_init 146 = .ok (.aload_n 0, 1) := by decide +kernel
theorem dX7_init_147 : decode cX7_init 147 = .ok (.lconst 1, 1) := by decide +kernel
theorem dX7_init_148 : decode cX7_init 148 = .ok (.putfield 84, 3) := by decide +kernel
theorem dX7_init_151 : decode cX7_init 151 = .ok (.iconst 0, 1) := by decide +kernel
theorem dX7_init_152 : decode cX7_init 152 = .ok (.istore_n 1, 1) := by decide +kernel
theorem dX7_init_153 : decode cX7_init 153 = .ok (.iload_n 1, 1) := by decide +kernel
theorem dX7_init_154 : decode cX7_init 154 = .ok (.aload_n 0, 1) := by decide +kernel
theorem dX7_init_155 : decode cX7_init 155 = .ok (.getfield 9, 3) := by decide +kernel
theorem dX7_init_158 : decode cX7_init 158 = .ok (.arraylength, 1) := by decide +kernel
theorem dX7_init_159 : decode cX7_init 159 = .ok (.if_icmp .ge 22, 3) := by decide +kernel
theorem dX7_init_162 : decode cX7_init 162 = .ok (.aload_n 0, 1) := by decide +kernel
theorem dX7_init_163 : decode cX7_init 163 = .ok (.getfield 9, 3) := by decide +kernel
theorem dX7_init_166 : decode cX7_init 166 = .ok (.iload_n 1, 1) := by decide +kernel
theorem dX7_init_167 : decode cX7_init 167 = .ok (.new 7, 3) := by decide +kernel
theorem dX7_init_170 : decode cX7_init 170 = .ok (.dup, 1) := by decide +kernel
theorem dX7_init_171 : decode cX7_init 171 = .ok (.invokespecial 88, 3) := by decide +kernel
theorem dX7_init_174 : decode cX7_init 174 = .ok (.aastore, 1) := by decide +kernel
theorem dX7_init_175 : decode cX7_init 175 = .ok (.iinc 1 1, 3) := by decide +kernel
theorem dX7_init_178 : decode cX7_init 178 = .ok (.goto (-25), 3) := by decide +kernel
theorem dX7_init_181 : decode cX7_init 181 = .ok (.iconst 0, 1) := by decide +kernel
theorem dX7_init_182 : decode cX7_init 182 = .ok (.istore_n 1, 1) := by decide +kernel
theorem dX7_init_183 : decode cX7_init 183 = .ok (.iload_n 1, 1) := by decide +kernel
theorem dX7_init_184 : decode cX7_init 184 = .ok (.aload_n 0, 1) := by decide +kernel
theorem dX7_init_185 : decode cX7_init 185 = .ok (.getfield 17, 3) := by decide +kernel
theorem dX7_init_188 : decode cX7_init 188 = .ok (.arraylength, 1) := by decide +kernel
theorem dX7_init_189 : decode cX7_init 189 = .ok (.if_icmp .ge 22, 3) := by decide +kernel
theorem dX7_init_192 : decode cX7_init 192 = .ok (.aload_n 0, 1) := by decide +kernel
theorem dX7_init_193 : decode cX7_init 193 = .ok (.getfield 17, 3) := by decide +kernel
theorem dX7_init_196 : decode cX7_init 196 = .ok (.iload_n 1, 1) := by decide +kernel
theorem dX7_init_197 : decode cX7_init 197 = .ok (.new 15, 3) := by decide +kernel
theorem dX7_init_200 : decode cX7_init 200 = .ok (.dup, 1) := by decide +kernel
theorem dX7_init_201 : decode cX7_init 201 = .ok (.invokespecial 89, 3) := by decide +kernel
theorem dX7_init_204 : decode cX7_init 204 = .ok (.aastore, 1) := by decide +kernel
theorem dX7_init_205 : decode cX7_init 205 = .ok (.iinc 1 1, 3) := by decide +kernel
theorem dX7_init_208 : decode cX7_init 208 = .ok (.goto (-25), 3) := by decide +kernel
theorem dX7_init_211 : decode cX7_init 211 = .ok (.iconst 0, 1) := by decide +kernel
theorem dX7_init_212 : decode cX7_init 212 = .ok (.istore_n 1, 1) := by decide +kernel
theorem dX7_init_213 : decode cX7_init 213 = .ok (.iload_n 1, 1) := by decide +kernel
theorem dX7_init_214 : decode cX7_init 214 = .ok (.aload_n 0, 1) := by decide +kernel
theorem dX7_init_215 : decode cX7_init 215 = .ok (.getfield 23, 3) := by decide +kernel
theorem dX7_init_218 : decode cX7_init 218 = .ok (.arraylength, 1) := by decide +kernel
theorem dX7_init_219 : decode cX7_init 219 = .ok (.if_icmp .ge 22, 3) := by decide +kernel
theorem dX7_init_222 : decode cX7_init 222 = .ok (.aload_n 0, 1) := by decide +kernel
theorem dX7_init_223 : decode cX7_init 223 = .ok (.getfield 23, 3) := by decide +kernel
theorem dX7_init_226 : decode cX7_init 226 = .ok (.iload_n 1, 1) := by decide +kernel
theorem dX7_init_227 : decode cX7_init 227 = .ok (.new 21, 3) := by decide +kernel
theorem dX7_init_230 : decode cX7_init 230 = .ok (.dup, 1) := by decide +kernel
theorem dX7_init_231 : decode cX7_init 231 = .ok (.invokespecial 57, 3) := by decide +kernel
theorem dX7_init_234 : decode cX7_init 234 = .ok (.aastore, 1) := by decide +kernel
theorem dX7_init_235 : decode cX7_init 235 = .ok (.iinc 1 1, 3) := by decide +kernel
theorem dX7_init_238 : decode cX7_init 238 = .ok (.goto (-25), 3) := by decide +kernel
theorem dX7_init_241 : decode cX7_init 241 = .ok (.iconst 0, 1) := by decide +kernel
theorem dX7_init_242 : decode cX7_init 242 = .ok (.istore_n 1, 1) := by decide +kernel
theorem dX7_init_243 : decode cX7_init 243 = .ok (.iload_n 1, 1) := by decide +kernel
theorem dX7_init_244 : decode cX7_init 244 = .ok (.aload_n 0, 1) := by decide +kernel
theorem dX7_init_245 : decode cX7_init 245 = .ok (.getfield 29, 3) := by decide +kernel
theorem dX7_init_248 : decode cX7_init 248 = .ok (.arraylength, 1) := by decide +kernel
theorem dX7_init_249 : decode cX7_init 249 = .ok (.if_icmp .ge 22, 3) := by decide +kernel
theorem dX7_init_252 : decode cX7_init 252 = .ok (.aload_n 0, 1) := by decide +kernel
theorem dX7_init_253 : decode cX7_init 253 = .ok (.getfield 29, 3) := by decide +kernel
theorem dX7_init_256 : decode cX7_init 256 = .ok (.iload_n 1, 1) := by decide +kernel
theorem dX7_init_257 : decode cX7_init 257 = .ok (.new 27, 3) := by decide +kernel
theorem dX7_init_260 : decode cX7_init 260 = .ok (.dup, 1) := by decide +kernel
theorem dX7_init_261 : decode cX7_init 261 = .ok (.invokespecial 62, 3) := by decide +kernel
theorem dX7_init_264 : decode cX7_init 264 = .ok (.aastore, 1) := by decide +kernel
theorem dX7_init_265 : decode cX7_init 265 = .ok (.iinc 1 1, 3) := by decide +kernel
theorem dX7_init_268 : decode cX7_init 268 = .ok (.goto (-25), 3) := by decide +kernel
theorem dX7_init_271 : decode cX7_init 271 = .ok (.iconst 0, 1) := by decide +kernel
theorem dX7_init_272 : decode cX7_init 272 = .ok (.istore_n 1, 1) := by decide +kernel
theorem dX7_init_273 : decode cX7_init 273 = .ok (.iload_n 1, 1) := by decide +kernel
theorem dX7_init_274 : decode cX7_init 274 = .ok (.aload_n 0, 1) := by decide +kernel
theorem dX7_init_275 : decode cX7_init 275 = .ok (.getfield 40, 3) := by decide +kernel
theorem dX7_init_278 : decode cX7_init 278 = .ok (.arraylength, 1) := by decide +kernel
theorem dX7_init_279 : decode cX7_init 279 = .ok (.if_icmp .ge 22, 3) := by decide +kernel
theorem dX7_init_282 : decode cX7_init 282 = .ok (.aload_n 0, 1) := by decide +kernel
theorem dX7_init_283 : decode cX7_init 283 = .ok (.getfield 40, 3) := by decide +kernel
theorem dX7_init_286 : decode cX7_init 286 = .ok (.iload_n 1, 1) := by decide +kernel
theorem dX7_init_287 : decode cX7_init 287 = .ok (.new 33, 3) := by decide +kernel
theorem dX7_init_290 : decode cX7_init 290 = .ok (.dup, 1) := by decide +kernel
theorem dX7_init_291 : decode cX7_init 291 = .ok (.invokespecial 35, 3) := by decide +kernel
theorem dX7_init_294 : decode cX7_init 294 = .ok (.aastore, 1) := by decide +kernel
theorem dX7_init_295 : decode cX7_init 295 = .ok (.iinc 1 1, 3) := by decide +kernel
theorem dX7_init_298 : decode cX7_init 298 = .ok (.goto (-25), 3) := by decide +kernel
theorem dX7_init_301 : decode cX7_init 301 = .ok (.return_, 1) := by decide +kernel
theorem mi_X7 : MWI yX7_init cX7_init 2 0 := ⟨⟨by decide, by decide, by decide +kernel⟩, tz_42, tz_28, tz_41, rfl⟩
def zi_X7 (Z : Nat → Nat → Bool) : Nat → Nat → Bool := zs (zi_X0 (zs (zi_X0 (zs (zi_X0 (zs (zi_X2 (zs (zi_X2 (zs (zi_X2 (zs (zi_X2 (zs (zi_X5 (zs (zi_X5 (zs (zi_X5 (zs (zi_X5 (zs (zi_X6 (zs (zi_X6 (zs (zi_X6 (zs (zi_X6 (zs (zi_X4 (zs (zi_X4 (zs (zi_X4 (zs (zi_X4 (zs (zi_X4 (zs (zi_X4 (zs (zs (zs (zs (zi_X1 (zs (zi_X2 (zs (zi_X5 (zs (zi_X3 (zs (zi_X0 (zs (zi_X0 (zs (zs (zi_X0 (zs (zs (zs (zs Z 0 0) 0 1) 0 2) 0 3) 5) 0 4) 0 5) 17) 0 6) 28) 0 7) 39) 0 8) 40) 0 9) 41) 0 10) 45) 0 11) 0 12) 0 13) 0 14) 51) 1 (ix 0)) 53) 1 (ix 1)) 55) 1 (ix 2)) 57) 1 (ix 3)) 59) 1 (ix 4)) 61) 1 (ix 5)) 63) 2 (ix 0)) 65) 2 (ix 1)) 67) 2 (ix 2)) 69) 2 (ix 3)) 71) 3 (ix 0)) 72) 3 (ix 1)) 73) 3 (ix 2)) 74) 3 (ix 3)) 75) 4 (ix 0)) 79) 4 (ix 1)) 83) 4 (ix 2)) 87) 4 (ix 3)) 91) 16 (ix 0)) 102) 16 (ix 1)) 113) 16 (ix 2)
def gi_X7 (G : G_) : G_ := gi_X0 (gi_X0 (gi_X0 (gi_X2 (gi_X2 (gi_X2 (gi_X2 (gi_X5 (gi_X5 (gi_X5 (gi_X5 (gi_X6 (gi_X6 (gi_X6 (gi_X6 (gi_X4 (gi_X4 (gi_X4 (gi_X4 (gi_X4 (gi_X4 (sJ (gi_X1 (gi_X2 (gi_X5 (gi_X3 (gi_X0 (gi_X0 (gi_X0 G 5) 17) 28) 39) 40) 41) 45) 0 18 1) 51) 53) 55) 57) 59) 61) 63) 65) 67) 69) 71) 72) 73) 74) 75) 79) 83) 87) 91) 102) 113
set_option maxHeartbeats 8000000 in
set_option maxRecDepth 100000 in
theorem z_X7_init (l : Launch) (V : VT) (Z : Nat → Nat → Bool) (G : G_) : MCZ l V yX7_init cX7_init 2 3 60 [.ref (V.2.2.1 0)] Z 1 G (zi_X7 Z) 124 (gi_X7 G) 123 1810 := by
  refine mcz_of (by decide) rfl (Nat.le_of_ble_eq_true rfl) (fun K hV hc hkl hret hin => ?_)
  subst hV
  replace hc : OkZ K cX7_init RX7 (Cond.code yX7_init cX7_init 2 none :: TB) 3 60 123 1810 2 := hc
  show XZ K Z 1 0 0 0 [(0, .ref (kad K 0))] [] G
  refine z_aload_n hc 0 dX7_init_0 rfl rfl ?_
  refine z_obj hc tz_43 tz_44 tz_45 (by decide) (Nat.le_of_ble_eq_true rfl) dX7_init_1 ?_
  refine z_aload_n hc 0 dX7_init_4 rfl rfl ?_
  refine z_bipush (v := 6) hc rfl dX7_init_5 ?_
  refine z_newq (C := RX4) (N' := 6) hc (rfl : kd 1 = 14) (by decide) (fun _ => rfl) (rfl : ln 1 = 6) (by decide) rfl (by decide) tz_46 (fun _ h => h.1) (by decide) (by decide) dX7_init_7 ?_
  refine z_putR (T := TX7) (p0 := 0) hc tyX7 tyX7_ok nmX7 in_X7 rfl (by decide) (rfl : kd 0 = 7) (by decide) 0 (by decide) tz_240 rfl rfl rfl rfl hin (ty := tyX7 0) (by decide +kernel) (fun _ => ⟨rfl, rfl⟩) dX7_init_10 ?_
  refine z_aload_n hc 0 dX7_init_13 rfl rfl ?_
  refine z_iconst (v := 4) hc rfl dX7_init_14 ?_
  refine z_newq (C := RX6) (N' := 4) hc (rfl : kd 2 = 16) (by decide) (fun _ => rfl) (rfl : ln 2 = 4) (by decide) rfl (by decide) tz_48 (fun _ h => h.2.1) (by decide) (by decide) dX7_init_15 ?_
  refine z_putR (T := TX7) (p0 := 0) hc tyX7 tyX7_ok nmX7 in_X7 rfl (by decide) (rfl : kd 0 = 7) (by decide) 1 (by decide) tz_241 rfl rfl rfl rfl hin (ty := tyX7 1) (by decide +kernel) (fun _ => ⟨rfl, rfl⟩) dX7_init_18 ?_
  refine z_aload_n hc 0 dX7_init_21 rfl rfl ?_
  refine z_iconst (v := 4) hc rfl dX7_init_22 ?_
  refine z_newq (C := RX5) (N' := 4) hc (rfl : kd 3 = 15) (by decide) (fun _ => rfl) (rfl : ln 3 = 4) (by decide) rfl (by decide) tz_50 (fun _ h => h.2.2.1) (by decide) (by decide) dX7_init_23 ?_
  refine z_putR (T := TX7) (p0 := 0) hc tyX7 tyX7_ok nmX7 in_X7 rfl (by decide) (rfl : kd 0 = 7) (by decide) 2 (by decide) tz_242 rfl rfl rfl rfl hin (ty := tyX7 2) (by decide +kernel) (fun _ => ⟨rfl, rfl⟩) dX7_init_26 ?_
  refine z_aload_n hc 0 dX7_init_29 rfl rfl ?_
  refine z_iconst (v := 4) hc rfl dX7_init_30 ?_
  refine z_newq (C := RX2) (N' := 4) hc (rfl : kd 4 = 13) (by decide) (fun _ => rfl) (rfl : ln 4 = 4) (by decide) rfl (by decide) tz_52 (fun _ h => h.2.2.2.1) (by decide) (by decide) dX7_init_31 ?_
  refine z_putR (T := TX7) (p0 := 0) hc tyX7 tyX7_ok nmX7 in_X7 rfl (by decide) (rfl : kd 0 = 7) (by decide) 3 (by decide) tz_243 rfl rfl rfl rfl hin (ty := tyX7 3) (by decide +kernel) (fun _ => ⟨rfl, rfl⟩) dX7_init_34 ?_
  refine z_aload_n hc 0 dX7_init_37 rfl rfl ?_
  refine z_new (T := TX0) hc tyX0 tyX0_ok in_X0 rfl (by decide) (rfl : kd 5 = 0) hdt_X0 tz_54 tz_55 tz_29 (by decide) (by decide) dX7_init_38 ?_
  refine z_dup hc rfl dX7_init_41 ?_
  refine z_callIN (p0 := 5) (host := "SlabTurn") hc (z_X0_init (kl K) (kV K) 5 (rfl : kd 5 = 0) _ _) mi_X0 (List.mem_of_getElem? (i := 0) rfl) (Nat.le_of_ble_eq_true rfl) ⟨by decide, by decide⟩ (by decide) (by decide) dX7_init_42 ?_
  refine z_putR (T := TX7) (p0 := 0) hc tyX7 tyX7_ok nmX7 in_X7 rfl (by decide) (rfl : kd 0 = 7) (by decide) 4 (by decide) tz_244 rfl rfl rfl rfl hin (ty := tyX7 4) (by decide +kernel) (fun _ => ⟨rfl, rfl⟩) dX7_init_45 ?_
  refine z_aload_n hc 0 dX7_init_48 rfl rfl ?_
  refine z_iconst (v := 3) hc rfl dX7_init_49 ?_
  refine z_newq (C := RX0) (N' := 3) hc (rfl : kd 16 = 12) (by decide) (fun _ => rfl) (rfl : ln 16 = 3) (by decide) rfl (by decide) tz_54 (fun _ h => h.2.2.2.2) (by decide) (by decide) dX7_init_50 ?_
  refine z_putR (T := TX7) (p0 := 0) hc tyX7 tyX7_ok nmX7 in_X7 rfl (by decide) (rfl : kd 0 = 7) (by decide) 5 (by decide) tz_245 rfl rfl rfl rfl hin (ty := tyX7 5) (by decide +kernel) (fun _ => ⟨rfl, rfl⟩) dX7_init_53 ?_
  refine z_aload_n hc 0 dX7_init_56 rfl rfl ?_
  refine z_new (T := TX0) hc tyX0 tyX0_ok in_X0 rfl (by decide) (rfl : kd 17 = 0) hdt_X0 tz_54 tz_55 tz_29 (by decide) (by decide) dX7_init_57 ?_
  refine z_dup hc rfl dX7_init_60 ?_
  refine z_callIN (p0 := 17) (host := "SlabTurn") hc (z_X0_init (kl K) (kV K) 17 (rfl : kd 17 = 0) _ _) mi_X0 (List.mem_of_getElem? (i := 0) rfl) (Nat.le_of_ble_eq_true rfl) ⟨by decide, by decide⟩ (by decide) (by decide) dX7_init_61 ?_
  refine z_putR (T := TX7) (p0 := 0) hc tyX7 tyX7_ok nmX7 in_X7 rfl (by decide) (rfl : kd 0 = 7) (by decide) 6 (by decide) tz_246 rfl rfl rfl rfl hin (ty := tyX7 6) (by decide +kernel) (fun _ => ⟨rfl, rfl⟩) dX7_init_64 ?_
  refine z_aload_n hc 0 dX7_init_67 rfl rfl ?_
  refine z_new (T := TX0) hc tyX0 tyX0_ok in_X0 rfl (by decide) (rfl : kd 28 = 0) hdt_X0 tz_54 tz_55 tz_29 (by decide) (by decide) dX7_init_68 ?_
  refine z_dup hc rfl dX7_init_71 ?_
  refine z_callIN (p0 := 28) (host := "SlabTurn") hc (z_X0_init (kl K) (kV K) 28 (rfl : kd 28 = 0) _ _) mi_X0 (List.mem_of_getElem? (i := 0) rfl) (Nat.le_of_ble_eq_true rfl) ⟨by decide, by decide⟩ (by decide) (by decide) dX7_init_72 ?_
  refine z_putR (T := TX7) (p0 := 0) hc tyX7 tyX7_ok nmX7 in_X7 rfl (by decide) (rfl : kd 0 = 7) (by decide) 7 (by decide) tz_247 rfl rfl rfl rfl hin (ty := tyX7 7) (by decide +kernel) (fun _ => ⟨rfl, rfl⟩) dX7_init_75 ?_
  refine z_aload_n hc 0 dX7_init_78 rfl rfl ?_
  refine z_new (T := TX3) hc tyX3 tyX3_ok in_X3 rfl (by decide) (rfl : kd 39 = 3) hdt_X3 tz_149 tz_150 tz_31 (by decide) (by decide) dX7_init_79 ?_
  refine z_dup hc rfl dX7_init_82 ?_
  refine z_callIN (p0 := 39) (host := "SlabTurn") hc (z_X3_init (kl K) (kV K) 39 (rfl : kd 39 = 3) _ _) mi_X3 (List.mem_of_getElem? (i := 2) rfl) (Nat.le_of_ble_eq_true rfl) ⟨by decide, by decide⟩ (by decide) (by decide) dX7_init_83 ?_
  refine z_putR (T := TX7) (p0 := 0) hc tyX7 tyX7_ok nmX7 in_X7 rfl (by decide) (rfl : kd 0 = 7) (by decide) 8 (by decide) tz_248 rfl rfl rfl rfl hin (ty := tyX7 8) (by decide +kernel) (fun _ => ⟨rfl, rfl⟩) dX7_init_86 ?_
  refine z_aload_n hc 0 dX7_init_89 rfl rfl ?_
  refine z_new (T := TX5) hc tyX5 tyX5_ok in_X5 rfl (by decide) (rfl : kd 40 = 5) hdt_X5 tz_50 tz_163 tz_32 (by decide) (by decide) dX7_init_90 ?_
  refine z_dup hc rfl dX7_init_93 ?_
  refine z_callIN (p0 := 40) (host := "SlabTurn") hc (z_X5_init (kl K) (kV K) 40 (rfl : kd 40 = 5) _ _) mi_X5 (List.mem_of_getElem? (i := 3) rfl) (Nat.le_of_ble_eq_true rfl) ⟨by decide, by decide⟩ (by decide) (by decide) dX7_init_94 ?_
  refine z_putR (T := TX7) (p0 := 0) hc tyX7 tyX7_ok nmX7 in_X7 rfl (by decide) (rfl : kd 0 = 7) (by decide) 9 (by decide) tz_249 rfl rfl rfl rfl hin (ty := tyX7 9) (by decide +kernel) (fun _ => ⟨rfl, rfl⟩) dX7_init_97 ?_
  refine z_aload_n hc 0 dX7_init_100 rfl rfl ?_
  refine z_new (T := TX2) hc tyX2 tyX2_ok in_X2 rfl (by decide) (rfl : kd 41 = 2) hdt_X2 tz_52 tz_61 tz_30 (by decide) (by decide) dX7_init_101 ?_
  refine z_dup hc rfl dX7_init_104 ?_
  refine z_callIN (p0 := 41) (host := "SlabTurn") hc (z_X2_init (kl K) (kV K) 41 (rfl : kd 41 = 2) _ _) mi_X2 (List.mem_of_getElem? (i := 4) rfl) (Nat.le_of_ble_eq_true rfl) ⟨by decide, by decide⟩ (by decide) (by decide) dX7_init_105 ?_
  refine z_putR (T := TX7) (p0 := 0) hc tyX7 tyX7_ok nmX7 in_X7 rfl (by decide) (rfl : kd 0 = 7) (by decide) 10 (by decide) tz_250 rfl rfl rfl rfl hin (ty := tyX7 10) (by decide +kernel) (fun _ => ⟨rfl, rfl⟩) dX7_init_108 ?_
  refine z_aload_n hc 0 dX7_init_111 rfl rfl ?_
  refine z_new (T := TX1) hc tyX1 tyX1_ok in_X1 rfl (by decide) (rfl : kd 45 = 1) hdt_X1 tz_196 tz_197 tz_33 (by decide) (by decide) dX7_init_112 ?_
  refine z_dup hc rfl dX7_init_115 ?_
  refine z_callIN (p0 := 45) (host := "SlabTurn") hc (z_X1_init (kl K) (kV K) 45 (rfl : kd 45 = 1) _ _) mi_X1 (List.mem_of_getElem? (i := 5) rfl) (Nat.le_of_ble_eq_true rfl) ⟨by decide, by decide⟩ (by decide) (by decide) dX7_init_116 ?_
  refine z_putR (T := TX7) (p0 := 0) hc tyX7 tyX7_ok nmX7 in_X7 rfl (by decide) (rfl : kd 0 = 7) (by decide) 11 (by decide) tz_251 rfl rfl rfl rfl hin (ty := tyX7 11) (by decide +kernel) (fun _ => ⟨rfl, rfl⟩) dX7_init_119 ?_
  refine z_aload_n hc 0 dX7_init_122 rfl rfl ?_
  refine z_bipush (v := 16) hc rfl dX7_init_123 ?_
  refine z_newa_int (N' := 16) hc (rfl : kd 48 = 10) (rfl : ln 48 = 16) (by decide) rfl (by decide) tz_91 (by decide) (by decide) dX7_init_125 ?_
  refine z_putR (T := TX7) (p0 := 0) hc tyX7 tyX7_ok nmX7 in_X7 rfl (by decide) (rfl : kd 0 = 7) (by decide) 12 (by decide) tz_252 rfl rfl rfl rfl hin (ty := tyX7 12) (by decide +kernel) (fun _ => ⟨rfl, rfl⟩) dX7_init_127 ?_
  refine z_aload_n hc 0 dX7_init_130 rfl rfl ?_
  refine z_bipush (v := 21) hc rfl dX7_init_131 ?_
  refine z_newa_int (N' := 21) hc (rfl : kd 49 = 10) (rfl : ln 49 = 21) (by decide) rfl (by decide) tz_91 (by decide) (by decide) dX7_init_133 ?_
  refine z_putR (T := TX7) (p0 := 0) hc tyX7 tyX7_ok nmX7 in_X7 rfl (by decide) (rfl : kd 0 = 7) (by decide) 13 (by decide) tz_253 rfl rfl rfl rfl hin (ty := tyX7 13) (by decide +kernel) (fun _ => ⟨rfl, rfl⟩) dX7_init_135 ?_
  refine z_aload_n hc 0 dX7_init_138 rfl rfl ?_
  refine z_bipush (v := 6) hc rfl dX7_init_139 ?_
  refine z_newa_int (N' := 6) hc (rfl : kd 50 = 10) (rfl : ln 50 = 6) (by decide) rfl (by decide) tz_91 (by decide) (by decide) dX7_init_141 ?_
  refine z_putR (T := TX7) (p0 := 0) hc tyX7 tyX7_ok nmX7 in_X7 rfl (by decide) (rfl : kd 0 = 7) (by decide) 14 (by decide) tz_254 rfl rfl rfl rfl hin (ty := tyX7 14) (by decide +kernel) (fun _ => ⟨rfl, rfl⟩) dX7_init_143 ?_
  refine z_aload_n hc 0 dX7_init_146 rfl rfl ?_
  refine z_lconst (v := 1) hc rfl dX7_init_147 ?_
  refine z_putL (T := TX7) (p0 := 0) hc tyX7 tyX7_ok nmX7 in_X7 rfl (by decide) (rfl : kd 0 = 7) (by decide) 18 (by decide) tz_258 rfl rfl rfl (by decide +kernel) dX7_init_148 ?_
  refine z_iconst (v := 0) hc rfl dX7_init_151 ?_
  refine z_istore_n (L' := [(0, .ref (kad K 0)), (1, .int 0)]) hc [1, 0] dX7_init_152 rfl (by decide) rfl ?_
  refine z_iload_n hc 1 dX7_init_153 rfl rfl ?_
  refine z_aload_n hc 0 dX7_init_154 rfl rfl ?_
  refine z_getR (T := TX7) (p0 := 0) hc in_X7 rfl (by decide) (rfl : kd 0 = 7) (by decide) 0 (by decide) tz_240 rfl rfl rfl dX7_init_155 ?_
  refine z_alenQ (p0 := 1) (N' := 6) (v := 6) hc (rfl : kd 1 = 14) (by decide) (by decide) rfl (by decide) rfl dX7_init_158 ?_
  refine z_icmp_geF (tgt := 181) hc (by decide) dX7_init_159 rfl ?_
  refine z_aload_n hc 0 dX7_init_162 rfl rfl ?_
  refine z_getR (T := TX7) (p0 := 0) hc in_X7 rfl (by decide) (rfl : kd 0 = 7) (by decide) 0 (by decide) tz_240 rfl rfl rfl dX7_init_163 ?_
  refine z_iload_n hc 1 dX7_init_166 rfl rfl ?_
  refine z_new (T := TX4) hc tyX4 tyX4_ok in_X4 rfl (by decide) (rfl : kd 51 = 4) hdt_X4 tz_46 tz_213 tz_34 (by decide) (by decide) dX7_init_167 ?_
  refine z_dup hc rfl dX7_init_170 ?_
  refine z_callIN (p0 := 51) (host := "SlabTurn") hc (z_X4_init (kl K) (kV K) 51 (rfl : kd 51 = 4) _ _) mi_X4 (List.mem_of_getElem? (i := 6) rfl) (Nat.le_of_ble_eq_true rfl) ⟨by decide, by decide⟩ (by decide) (by decide) dX7_init_171 ?_
  refine z_aastore (p0 := 1) (v := 51) (N' := 6) (C := RX4) (T := TX4) (N := 2) hc (rfl : kd 1 = 14) (by decide) (fun _ => rfl) rfl (by decide) (by decide) (by decide) (rfl : kd 51 = 4) (by decide) rfl (by decide) dX7_init_174 ?_
  refine z_iinc (v := 1) (L' := [(0, .ref (kad K 0)), (1, .int 1)]) hc 1 [1, 0] dX7_init_175 rfl rfl (by decide) rfl ?_
  refine z_goto (tgt := 153) hc dX7_init_178 rfl ?_
  refine z_iload_n hc 1 dX7_init_153 rfl rfl ?_
  refine z_aload_n hc 0 dX7_init_154 rfl rfl ?_
  refine z_getR (T := TX7) (p0 := 0) hc in_X7 rfl (by decide) (rfl : kd 0 = 7) (by decide) 0 (by decide) tz_240 rfl rfl rfl dX7_init_155 ?_
  refine z_alenQ (p0 := 1) (N' := 6) (v := 6) hc (rfl : kd 1 = 14) (by decide) (by decide) rfl (by decide) rfl dX7_init_158 ?_
  refine z_icmp_geF (tgt := 181) hc (by decide) dX7_init_159 rfl ?_
  refine z_aload_n hc 0 dX7_init_162 rfl rfl ?_
  refine z_getR (T := TX7) (p0 := 0) hc in_X7 rfl (by decide) (rfl : kd 0 = 7) (by decide) 0 (by decide) tz_240 rfl rfl rfl dX7_init_163 ?_
  refine z_iload_n hc 1 dX7_init_166 rfl rfl ?_
  refine z_new (T := TX4) hc tyX4 tyX4_ok in_X4 rfl (by decide) (rfl : kd 53 = 4) hdt_X4 tz_46 tz_213 tz_34 (by decide) (by decide) dX7_init_167 ?_
  refine z_dup hc rfl dX7_init_170 ?_
  refine z_callIN (p0 := 53) (host := "SlabTurn") hc (z_X4_init (kl K) (kV K) 53 (rfl : kd 53 = 4) _ _) mi_X4 (List.mem_of_getElem? (i := 6) rfl) (Nat.le_of_ble_eq_true rfl) ⟨by decide, by decide⟩ (by decide) (by decide) dX7_init_171 ?_
  refine z_aastore (p0 := 1) (v := 53) (N' := 6) (C := RX4) (T := TX4) (N := 2) hc (rfl : kd 1 = 14) (by decide) (fun _ => rfl) rfl (by decide) (by decide) (by decide) (rfl : kd 53 = 4) (by decide) rfl (by decide) dX7_init_174 ?_
  refine z_iinc (v := 2) (L' := [(0, .ref (kad K 0)), (1, .int 2)]) hc 1 [1, 0] dX7_init_175 rfl rfl (by decide) rfl ?_
  refine z_goto (tgt := 153) hc dX7_init_178 rfl ?_
  refine z_iload_n hc 1 dX7_init_153 rfl rfl ?_
  refine z_aload_n hc 0 dX7_init_154 rfl rfl ?_
  refine z_getR (T := TX7) (p0 := 0) hc in_X7 rfl (by decide) (rfl : kd 0 = 7) (by decide) 0 (by decide) tz_240 rfl rfl rfl dX7_init_155 ?_
  refine z_alenQ (p0 := 1) (N' := 6) (v := 6) hc (rfl : kd 1 = 14) (by decide) (by decide) rfl (by decide) rfl dX7_init_158 ?_
  refine z_icmp_geF (tgt := 181) hc (by decide) dX7_init_159 rfl ?_
  refine z_aload_n hc 0 dX7_init_162 rfl rfl ?_
  refine z_getR (T := TX7) (p0 := 0) hc in_X7 rfl (by decide) (rfl : kd 0 = 7) (by decide) 0 (by decide) tz_240 rfl rfl rfl dX7_init_163 ?_
  refine z_iload_n hc 1 dX7_init_166 rfl rfl ?_
  refine z_new (T := TX4) hc tyX4 tyX4_ok in_X4 rfl (by decide) (rfl : kd 55 = 4) hdt_X4 tz_46 tz_213 tz_34 (by decide) (by decide) dX7_init_167 ?_
  refine z_dup hc rfl dX7_init_170 ?_
  refine z_callIN (p0 := 55) (host := "SlabTurn") hc (z_X4_init (kl K) (kV K) 55 (rfl : kd 55 = 4) _ _) mi_X4 (List.mem_of_getElem? (i := 6) rfl) (Nat.le_of_ble_eq_true rfl) ⟨by decide, by decide⟩ (by decide) (by decide) dX7_init_171 ?_
  refine z_aastore (p0 := 1) (v := 55) (N' := 6) (C := RX4) (T := TX4) (N := 2) hc (rfl : kd 1 = 14) (by decide) (fun _ => rfl) rfl (by decide) (by decide) (by decide) (rfl : kd 55 = 4) (by decide) rfl (by decide) dX7_init_174 ?_
  refine z_iinc (v := 3) (L' := [(0, .ref (kad K 0)), (1, .int 3)]) hc 1 [1, 0] dX7_init_175 rfl rfl (by decide) rfl ?_
  refine z_goto (tgt := 153) hc dX7_init_178 rfl ?_
  refine z_iload_n hc 1 dX7_init_153 rfl rfl ?_
  refine z_aload_n hc 0 dX7_init_154 rfl rfl ?_
  refine z_getR (T := TX7) (p0 := 0) hc in_X7 rfl (by decide) (rfl : kd 0 = 7) (by decide) 0 (by decide) tz_240 rfl rfl rfl dX7_init_155 ?_
  refine z_alenQ (p0 := 1) (N' := 6) (v := 6) hc (rfl : kd 1 = 14) (by decide) (by decide) rfl (by decide) rfl dX7_init_158 ?_
  refine z_icmp_geF (tgt := 181) hc (by decide) dX7_init_159 rfl ?_
  refine z_aload_n hc 0 dX7_init_162 rfl rfl ?_
  refine z_getR (T := TX7) (p0 := 0) hc in_X7 rfl (by decide) (rfl : kd 0 = 7) (by decide) 0 (by decide) tz_240 rfl rfl rfl dX7_init_163 ?_
  refine z_iload_n hc 1 dX7_init_166 rfl rfl ?_
  refine z_new (T := TX4) hc tyX4 tyX4_ok in_X4 rfl (by decide) (rfl : kd 57 = 4) hdt_X4 tz_46 tz_213 tz_34 (by decide) (by decide) dX7_init_167 ?_
  refine z_dup hc rfl dX7_init_170 ?_
  refine z_callIN (p0 := 57) (host := "SlabTurn") hc (z_X4_init (kl K) (kV K) 57 (rfl : kd 57 = 4) _ _) mi_X4 (List.mem_of_getElem? (i := 6) rfl) (Nat.le_of_ble_eq_true rfl) ⟨by decide, by decide⟩ (by decide) (by decide) dX7_init_171 ?_
  refine z_aastore (p0 := 1) (v := 57) (N' := 6) (C := RX4) (T := TX4) (N := 2) hc (rfl : kd 1 = 14) (by decide) (fun _ => rfl) rfl (by decide) (by decide) (by decide) (rfl : kd 57 = 4) (by decide) rfl (by decide) dX7_init_174 ?_
  refine z_iinc (v := 4) (L' := [(0, .ref (kad K 0)), (1, .int 4)]) hc 1 [1, 0] dX7_init_175 rfl rfl (by decide) rfl ?_
  refine z_goto (tgt := 153) hc dX7_init_178 rfl ?_
  refine z_iload_n hc 1 dX7_init_153 rfl rfl ?_
  refine z_aload_n hc 0 dX7_init_154 rfl rfl ?_
  refine z_getR (T := TX7) (p0 := 0) hc in_X7 rfl (by decide) (rfl : kd 0 = 7) (by decide) 0 (by decide) tz_240 rfl rfl rfl dX7_init_155 ?_
  refine z_alenQ (p0 := 1) (N' := 6) (v := 6) hc (rfl : kd 1 = 14) (by decide) (by decide) rfl (by decide) rfl dX7_init_158 ?_
  refine z_icmp_geF (tgt := 181) hc (by decide) dX7_init_159 rfl ?_
  refine z_aload_n hc 0 dX7_init_162 rfl rfl ?_
  refine z_getR (T := TX7) (p0 := 0) hc in_X7 rfl (by decide) (rfl : kd 0 = 7) (by decide) 0 (by decide) tz_240 rfl rfl rfl dX7_init_163 ?_
  refine z_iload_n hc 1 dX7_init_166 rfl rfl ?_
  refine z_new (T := TX4) hc tyX4 tyX4_ok in_X4 rfl (by decide) (rfl : kd 59 = 4) hdt_X4 tz_46 tz_213 tz_34 (by decide) (by decide) dX7_init_167 ?_
  refine z_dup hc rfl dX7_init_170 ?_
  refine z_callIN (p0 := 59) (host := "SlabTurn") hc (z_X4_init (kl K) (kV K) 59 (rfl : kd 59 = 4) _ _) mi_X4 (List.mem_of_getElem? (i := 6) rfl) (Nat.le_of_ble_eq_true rfl) ⟨by decide, by decide⟩ (by decide) (by decide) dX7_init_171 ?_
  refine z_aastore (p0 := 1) (v := 59) (N' := 6) (C := RX4) (T := TX4) (N := 2) hc (rfl : kd 1 = 14) (by decide) (fun _ => rfl) rfl (by decide) (by decide) (by decide) (rfl : kd 59 = 4) (by decide) rfl (by decide) dX7_init_174 ?_
  refine z_iinc (v := 5) (L' := [(0, .ref (kad K 0)), (1, .int 5)]) hc 1 [1, 0] dX7_init_175 rfl rfl (by decide) rfl ?_
  refine z_goto (tgt := 153) hc dX7_init_178 rfl ?_
  refine z_iload_n hc 1 dX7_init_153 rfl rfl ?_
  refine z_aload_n hc 0 dX7_init_154 rfl rfl ?_
  refine z_getR (T := TX7) (p0 := 0) hc in_X7 rfl (by decide) (rfl : kd 0 = 7) (by decide) 0 (by decide) tz_240 rfl rfl rfl dX7_init_155 ?_
  refine z_alenQ (p0 := 1) (N' := 6) (v := 6) hc (rfl : kd 1 = 14) (by decide) (by decide) rfl (by decide) rfl dX7_init_158 ?_
  refine z_icmp_geF (tgt := 181) hc (by decide) dX7_init_159 rfl ?_
  refine z_aload_n hc 0 dX7_init_162 rfl rfl ?_
  refine z_getR (T := TX7) (p0 := 0) hc in_X7 rfl (by decide) (rfl : kd 0 = 7) (by decide) 0 (by decide) tz_240 rfl rfl rfl dX7_init_163 ?_
  refine z_iload_n hc 1 dX7_init_166 rfl rfl ?_
  refine z_new (T := TX4) hc tyX4 tyX4_ok in_X4 rfl (by decide) (rfl : kd 61 = 4) hdt_X4 tz_46 tz_213 tz_34 (by decide) (by decide) dX7_init_167 ?_
  refine z_dup hc rfl dX7_init_170 ?_
  refine z_callIN (p0 := 61) (host := "SlabTurn") hc (z_X4_init (kl K) (kV K) 61 (rfl : kd 61 = 4) _ _) mi_X4 (List.mem_of_getElem? (i := 6) rfl) (Nat.le_of_ble_eq_true rfl) ⟨by decide, by decide⟩ (by decide) (by decide) dX7_init_171 ?_
  refine z_aastore (p0 := 1) (v := 61) (N' := 6) (C := RX4) (T := TX4) (N := 2) hc (rfl : kd 1 = 14) (by decide) (fun _ => rfl) rfl (by decide) (by decide) (by decide) (rfl : kd 61 = 4) (by decide) rfl (by decide) dX7_init_174 ?_
  refine z_iinc (v := 6) (L' := [(0, .ref (kad K 0)), (1, .int 6)]) hc 1 [1, 0] dX7_init_175 rfl rfl (by decide) rfl ?_
  refine z_goto (tgt := 153) hc dX7_init_178 rfl ?_
  refine z_iload_n hc 1 dX7_init_153 rfl rfl ?_
  refine z_aload_n hc 0 dX7_init_154 rfl rfl ?_
  refine z_getR (T := TX7) (p0 := 0) hc in_X7 rfl (by decide) (rfl : kd 0 = 7) (by decide) 0 (by decide) tz_240 rfl rfl rfl dX7_init_155 ?_
  refine z_alenQ (p0 := 1) (N' := 6) (v := 6) hc (rfl : kd 1 = 14) (by decide) (by decide) rfl (by decide) rfl dX7_init_158 ?_
  refine z_icmp_geT (tgt := 181) hc (by decide) dX7_init_159 rfl ?_
  refine z_iconst (v := 0) hc rfl dX7_init_181 ?_
  refine z_istore_n (L' := [(0, .ref (kad K 0)), (1, .int 0)]) hc [1, 0] dX7_init_182 rfl (by decide) rfl ?_
  refine z_iload_n hc 1 dX7_init_183 rfl rfl ?_
  refine z_aload_n hc 0 dX7_init_184 rfl rfl ?_
  refine z_getR (T := TX7) (p0 := 0) hc in_X7 rfl (by decide) (rfl : kd 0 = 7) (by decide) 1 (by decide) tz_241 rfl rfl rfl dX7_init_185 ?_
  refine z_alenQ (p0 := 2) (N' := 4) (v := 4) hc (rfl : kd 2 = 16) (by decide) (by decide) rfl (by decide) rfl dX7_init_188 ?_
  refine z_icmp_geF (tgt := 211) hc (by decide) dX7_init_189 rfl ?_
  refine z_aload_n hc 0 dX7_init_192 rfl rfl ?_
  refine z_getR (T := TX7) (p0 := 0) hc in_X7 rfl (by decide) (rfl : kd 0 = 7) (by decide) 1 (by decide) tz_241 rfl rfl rfl dX7_init_193 ?_
  refine z_iload_n hc 1 dX7_init_196 rfl rfl ?_
  refine z_new (T := TX6) hc tyX6 tyX6_ok in_X6 rfl (by decide) (rfl : kd 63 = 6) hdt_X6 tz_48 tz_226 tz_35 (by decide) (by decide) dX7_init_197 ?_
  refine z_dup hc rfl dX7_init_200 ?_
  refine z_callIN (p0 := 63) (host := "SlabTurn") hc (z_X6_init (kl K) (kV K) 63 (rfl : kd 63 = 6) _ _) mi_X6 (List.mem_of_getElem? (i := 7) rfl) (Nat.le_of_ble_eq_true rfl) ⟨by decide, by decide⟩ (by decide) (by decide) dX7_init_201 ?_
  refine z_aastore (p0 := 2) (v := 63) (N' := 4) (C := RX6) (T := TX6) (N := 2) hc (rfl : kd 2 = 16) (by decide) (fun _ => rfl) rfl (by decide) (by decide) (by decide) (rfl : kd 63 = 6) (by decide) rfl (by decide) dX7_init_204 ?_
  refine z_iinc (v := 1) (L' := [(0, .ref (kad K 0)), (1, .int 1)]) hc 1 [1, 0] dX7_init_205 rfl rfl (by decide) rfl ?_
  refine z_goto (tgt := 183) hc dX7_init_208 rfl ?_
  refine z_iload_n hc 1 dX7_init_183 rfl rfl ?_
  refine z_aload_n hc 0 dX7_init_184 rfl rfl ?_
  refine z_getR (T := TX7) (p0 := 0) hc in_X7 rfl (by decide) (rfl : kd 0 = 7) (by decide) 1 (by decide) tz_241 rfl rfl rfl dX7_init_185 ?_
  refine z_alenQ (p0 := 2) (N' := 4) (v := 4) hc (rfl : kd 2 = 16) (by decide) (by decide) rfl (by decide) rfl dX7_init_188 ?_
  refine z_icmp_geF (tgt := 211) hc (by decide) dX7_init_189 rfl ?_
  refine z_aload_n hc 0 dX7_init_192 rfl rfl ?_
  refine z_getR (T := TX7) (p0 := 0) hc in_X7 rfl (by decide) (rfl : kd 0 = 7) (by decide) 1 (by decide) tz_241 rfl rfl rfl dX7_init_193 ?_
  refine z_iload_n hc 1 dX7_init_196 rfl rfl ?_
  refine z_new (T := TX6) hc tyX6 tyX6_ok in_X6 rfl (by decide) (rfl : kd 65 = 6) hdt_X6 tz_48 tz_226 tz_35 (by decide) (by decide) dX7_init_197 ?_
  refine z_dup hc rfl dX7_init_200 ?_
  refine z_callIN (p0 := 65) (host := "SlabTurn") hc (z_X6_init (kl K) (kV K) 65 (rfl : kd 65 = 6) _ _) mi_X6 (List.mem_of_getElem? (i := 7) rfl) (Nat.le_of_ble_eq_true rfl) ⟨by decide, by decide⟩ (by decide) (by decide) dX7_init_201 ?_
  refine z_aastore (p0 := 2) (v := 65) (N' := 4) (C := RX6) (T := TX6) (N := 2) hc (rfl : kd 2 = 16) (by decide) (fun _ => rfl) rfl (by decide) (by decide) (by decide) (rfl : kd 65 = 6) (by decide) rfl (by decide) dX7_init_204 ?_
  refine z_iinc (v := 2) (L' := [(0, .ref (kad K 0)), (1, .int 2)]) hc 1 [1, 0] dX7_init_205 rfl rfl (by decide) rfl ?_
  refine z_goto (tgt := 183) hc dX7_init_208 rfl ?_
  refine z_iload_n hc 1 dX7_init_183 rfl rfl ?_
  refine z_aload_n hc 0 dX7_init_184 rfl rfl ?_
  refine z_getR (T := TX7) (p0 := 0) hc in_X7 rfl (by decide) (rfl : kd 0 = 7) (by decide) 1 (by decide) tz_241 rfl rfl rfl dX7_init_185 ?_
  refine z_alenQ (p0 := 2) (N' := 4) (v := 4) hc (rfl : kd 2 = 16) (by decide) (by decide) rfl (by decide) rfl dX7_init_188 ?_
  refine z_icmp_geF (tgt := 211) hc (by decide) dX7_init_189 rfl ?_
  refine z_aload_n hc 0 dX7_init_192 rfl rfl ?_
  refine z_getR (T := TX7) (p0 := 0) hc in_X7 rfl (by decide) (rfl : kd 0 = 7) (by decide) 1 (by decide) tz_241 rfl rfl rfl dX7_init_193 ?_
  refine z_iload_n hc 1 dX7_init_196 rfl rfl ?_
  refine z_new (T := TX6) hc tyX6 tyX6_ok in_X6 rfl (by decide) (rfl : kd 67 = 6) hdt_X6 tz_48 tz_226 tz_35 (by decide) (by decide) dX7_init_197 ?_
  refine z_dup hc rfl dX7_init_200 ?_
  refine z_callIN (p0 := 67) (host := "SlabTurn") hc (z_X6_init (kl K) (kV K) 67 (rfl : kd 67 = 6) _ _) mi_X6 (List.mem_of_getElem? (i := 7) rfl) (Nat.le_of_ble_eq_true rfl) ⟨by decide, by decide⟩ (by decide) (by decide) dX7_init_201 ?_
  refine z_aastore (p0 := 2) (v := 67) (N' := 4) (C := RX6) (T := TX6) (N := 2) hc (rfl : kd 2 = 16) (by decide) (fun _ => rfl) rfl (by decide) (by decide) (by decide) (rfl : kd 67 = 6) (by decide) rfl (by decide) dX7_init_204 ?_
  refine z_iinc (v := 3) (L' := [(0, .ref (kad K 0)), (1, .int 3)]) hc 1 [1, 0] dX7_init_205 rfl rfl (by decide) rfl ?_
  refine z_goto (tgt := 183) hc dX7_init_208 rfl ?_
  refine z_iload_n hc 1 dX7_init_183 rfl rfl ?_
  refine z_aload_n hc 0 dX7_init_184 rfl rfl ?_
  refine z_getR (T := TX7) (p0 := 0) hc in_X7 rfl (by decide) (rfl : kd 0 = 7) (by decide) 1 (by decide) tz_241 rfl rfl rfl dX7_init_185 ?_
  refine z_alenQ (p0 := 2) (N' := 4) (v := 4) hc (rfl : kd 2 = 16) (by decide) (by decide) rfl (by decide) rfl dX7_init_188 ?_
  refine z_icmp_geF (tgt := 211) hc (by decide) dX7_init_189 rfl ?_
  refine z_aload_n hc 0 dX7_init_192 rfl rfl ?_
  refine z_getR (T := TX7) (p0 := 0) hc in_X7 rfl (by decide) (rfl : kd 0 = 7) (by decide) 1 (by decide) tz_241 rfl rfl rfl dX7_init_193 ?_
  refine z_iload_n hc 1 dX7_init_196 rfl rfl ?_
  refine z_new (T := TX6) hc tyX6 tyX6_ok in_X6 rfl (by decide) (rfl : kd 69 = 6) hdt_X6 tz_48 tz_226 tz_35 (by decide) (by decide) dX7_init_197 ?_
  refine z_dup hc rfl dX7_init_200 ?_
  refine z_callIN (p0 := 69) (host := "SlabTurn") hc (z_X6_init (kl K) (kV K) 69 (rfl : kd 69 = 6) _ _) mi_X6 (List.mem_of_getElem? (i := 7) rfl) (Nat.le_of_ble_eq_true rfl) ⟨by decide, by decide⟩ (by decide) (by decide) dX7_init_201 ?_
  refine z_aastore (p0 := 2) (v := 69) (N' := 4) (C := RX6) (T := TX6) (N := 2) hc (rfl : kd 2 = 16) (by decide) (fun _ => rfl) rfl (by decide) (by decide) (by decide) (rfl : kd 69 = 6) (by decide) rfl (by decide) dX7_init_204 ?_
  refine z_iinc (v := 4) (L' := [(0, .ref (kad K 0)), (1, .int 4)]) hc 1 [1, 0] dX7_init_205 rfl rfl (by decide) rfl ?_
  refine z_goto (tgt := 183) hc dX7_init_208 rfl ?_
  refine z_iload_n hc 1 dX7_init_183 rfl rfl ?_
  refine z_aload_n hc 0 dX7_init_184 rfl rfl ?_
  refine z_getR (T := TX7) (p0 := 0) hc in_X7 rfl (by decide) (rfl : kd 0 = 7) (by decide) 1 (by decide) tz_241 rfl rfl rfl dX7_init_185 ?_
  refine z_alenQ (p0 := 2) (N' := 4) (v := 4) hc (rfl : kd 2 = 16) (by decide) (by decide) rfl (by decide) rfl dX7_init_188 ?_
  refine z_icmp_geT (tgt := 211) hc (by decide) dX7_init_189 rfl ?_
  refine z_iconst (v := 0) hc rfl dX7_init_211 ?_
  refine z_istore_n (L' := [(0, .ref (kad K 0)), (1, .int 0)]) hc [1, 0] dX7_init_212 rfl (by decide) rfl ?_
  refine z_iload_n hc 1 dX7_init_213 rfl rfl ?_
  refine z_aload_n hc 0 dX7_init_214 rfl rfl ?_
  refine z_getR (T := TX7) (p0 := 0) hc in_X7 rfl (by decide) (rfl : kd 0 = 7) (by decide) 2 (by decide) tz_242 rfl rfl rfl dX7_init_215 ?_
  refine z_alenQ (p0 := 3) (N' := 4) (v := 4) hc (rfl : kd 3 = 15) (by decide) (by decide) rfl (by decide) rfl dX7_init_218 ?_
  refine z_icmp_geF (tgt := 241) hc (by decide) dX7_init_219 rfl ?_
  refine z_aload_n hc 0 dX7_init_222 rfl rfl ?_
  refine z_getR (T := TX7) (p0 := 0) hc in_X7 rfl (by decide) (rfl : kd 0 = 7) (by decide) 2 (by decide) tz_242 rfl rfl rfl dX7_init_223 ?_
  refine z_iload_n hc 1 dX7_init_226 rfl rfl ?_
  refine z_new (T := TX5) hc tyX5 tyX5_ok in_X5 rfl (by decide) (rfl : kd 71 = 5) hdt_X5 tz_50 tz_163 tz_32 (by decide) (by decide) dX7_init_227 ?_
  refine z_dup hc rfl dX7_init_230 ?_
  refine z_callIN (p0 := 71) (host := "SlabTurn") hc (z_X5_init (kl K) (kV K) 71 (rfl : kd 71 = 5) _ _) mi_X5 (List.mem_of_getElem? (i := 3) rfl) (Nat.le_of_ble_eq_true rfl) ⟨by decide, by decide⟩ (by decide) (by decide) dX7_init_231 ?_
  refine z_aastore (p0 := 3) (v := 71) (N' := 4) (C := RX5) (T := TX5) (N := 5) hc (rfl : kd 3 = 15) (by decide) (fun _ => rfl) rfl (by decide) (by decide) (by decide) (rfl : kd 71 = 5) (by decide) rfl (by decide) dX7_init_234 ?_
  refine z_iinc (v := 1) (L' := [(0, .ref (kad K 0)), (1, .int 1)]) hc 1 [1, 0] dX7_init_235 rfl rfl (by decide) rfl ?_
  refine z_goto (tgt := 213) hc dX7_init_238 rfl ?_
  refine z_iload_n hc 1 dX7_init_213 rfl rfl ?_
  refine z_aload_n hc 0 dX7_init_214 rfl rfl ?_
  refine z_getR (T := TX7) (p0 := 0) hc in_X7 rfl (by decide) (rfl : kd 0 = 7) (by decide) 2 (by decide) tz_242 rfl rfl rfl dX7_init_215 ?_
  refine z_alenQ (p0 := 3) (N' := 4) (v := 4) hc (rfl : kd 3 = 15) (by decide) (by decide) rfl (by decide) rfl dX7_init_218 ?_
  refine z_icmp_geF (tgt := 241) hc (by decide) dX7_init_219 rfl ?_
  refine z_aload_n hc 0 dX7_init_222 rfl rfl ?_
  refine z_getR (T := TX7) (p0 := 0) hc in_X7 rfl (by decide) (rfl : kd 0 = 7) (by decide) 2 (by decide) tz_242 rfl rfl rfl dX7_init_223 ?_
  refine z_iload_n hc 1 dX7_init_226 rfl rfl ?_
  refine z_new (T := TX5) hc tyX5 tyX5_ok in_X5 rfl (by decide) (rfl : kd 72 = 5) hdt_X5 tz_50 tz_163 tz_32 (by decide) (by decide) dX7_init_227 ?_
  refine z_dup hc rfl dX7_init_230 ?_
  refine z_callIN (p0 := 72) (host := "SlabTurn") hc (z_X5_init (kl K) (kV K) 72 (rfl : kd 72 = 5) _ _) mi_X5 (List.mem_of_getElem? (i := 3) rfl) (Nat.le_of_ble_eq_true rfl) ⟨by decide, by decide⟩ (by decide) (by decide) dX7_init_231 ?_
  refine z_aastore (p0 := 3) (v := 72) (N' := 4) (C := RX5) (T := TX5) (N := 5) hc (rfl : kd 3 = 15) (by decide) (fun _ => rfl) rfl (by decide) (by decide) (by decide) (rfl : kd 72 = 5) (by decide) rfl (by decide) dX7_init_234 ?_
  refine z_iinc (v := 2) (L' := [(0, .ref (kad K 0)), (1, .int 2)]) hc 1 [1, 0] dX7_init_235 rfl rfl (by decide) rfl ?_
  refine z_goto (tgt := 213) hc dX7_init_238 rfl ?_
  refine z_iload_n hc 1 dX7_init_213 rfl rfl ?_
  refine z_aload_n hc 0 dX7_init_214 rfl rfl ?_
  refine z_getR (T := TX7) (p0 := 0) hc in_X7 rfl (by decide) (rfl : kd 0 = 7) (by decide) 2 (by decide) tz_242 rfl rfl rfl dX7_init_215 ?_
  refine z_alenQ (p0 := 3) (N' := 4) (v := 4) hc (rfl : kd 3 = 15) (by decide) (by decide) rfl (by decide) rfl dX7_init_218 ?_
  refine z_icmp_geF (tgt := 241) hc (by decide) dX7_init_219 rfl ?_
  refine z_aload_n hc 0 dX7_init_222 rfl rfl ?_
  refine z_getR (T := TX7) (p0 := 0) hc in_X7 rfl (by decide) (rfl : kd 0 = 7) (by decide) 2 (by decide) tz_242 rfl rfl rfl dX7_init_223 ?_
  refine z_iload_n hc 1 dX7_init_226 rfl rfl ?_
  refine z_new (T := TX5) hc tyX5 tyX5_ok in_X5 rfl (by decide) (rfl : kd 73 = 5) hdt_X5 tz_50 tz_163 tz_32 (by decide) (by decide) dX7_init_227 ?_
  refine z_dup hc rfl dX7_init_230 ?_
  refine z_callIN (p0 := 73) (host := "SlabTurn") hc (z_X5_init (kl K) (kV K) 73 (rfl : kd 73 = 5) _ _) mi_X5 (List.mem_of_getElem? (i := 3) rfl) (Nat.le_of_ble_eq_true rfl) ⟨by decide, by decide⟩ (by decide) (by decide) dX7_init_231 ?_
  refine z_aastore (p0 := 3) (v := 73) (N' := 4) (C := RX5) (T := TX5) (N := 5) hc (rfl : kd 3 = 15) (by decide) (fun _ => rfl) rfl (by decide) (by decide) (by decide) (rfl : kd 73 = 5) (by decide) rfl (by decide) dX7_init_234 ?_
  refine z_iinc (v := 3) (L' := [(0, .ref (kad K 0)), (1, .int 3)]) hc 1 [1, 0] dX7_init_235 rfl rfl (by decide) rfl ?_
  refine z_goto (tgt := 213) hc dX7_init_238 rfl ?_
  refine z_iload_n hc 1 dX7_init_213 rfl rfl ?_
  refine z_aload_n hc 0 dX7_init_214 rfl rfl ?_
  refine z_getR (T := TX7) (p0 := 0) hc in_X7 rfl (by decide) (rfl : kd 0 = 7) (by decide) 2 (by decide) tz_242 rfl rfl rfl dX7_init_215 ?_
  refine z_alenQ (p0 := 3) (N' := 4) (v := 4) hc (rfl : kd 3 = 15) (by decide) (by decide) rfl (by decide) rfl dX7_init_218 ?_
  refine z_icmp_geF (tgt := 241) hc (by decide) dX7_init_219 rfl ?_
  refine z_aload_n hc 0 dX7_init_222 rfl rfl ?_
  refine z_getR (T := TX7) (p0 := 0) hc in_X7 rfl (by decide) (rfl : kd 0 = 7) (by decide) 2 (by decide) tz_242 rfl rfl rfl dX7_init_223 ?_
  refine z_iload_n hc 1 dX7_init_226 rfl rfl ?_
  refine z_new (T := TX5) hc tyX5 tyX5_ok in_X5 rfl (by decide) (rfl : kd 74 = 5) hdt_X5 tz_50 tz_163 tz_32 (by decide) (by decide) dX7_init_227 ?_
  refine z_dup hc rfl dX7_init_230 ?_
  refine z_callIN (p0 := 74) (host := "SlabTurn") hc (z_X5_init (kl K) (kV K) 74 (rfl : kd 74 = 5) _ _) mi_X5 (List.mem_of_getElem? (i := 3) rfl) (Nat.le_of_ble_eq_true rfl) ⟨by decide, by decide⟩ (by decide) (by decide) dX7_init_231 ?_
  refine z_aastore (p0 := 3) (v := 74) (N' := 4) (C := RX5) (T := TX5) (N := 5) hc (rfl : kd 3 = 15) (by decide) (fun _ => rfl) rfl (by decide) (by decide) (by decide) (rfl : kd 74 = 5) (by decide) rfl (by decide) dX7_init_234 ?_
  refine z_iinc (v := 4) (L' := [(0, .ref (kad K 0)), (1, .int 4)]) hc 1 [1, 0] dX7_init_235 rfl rfl (by decide) rfl ?_
  refine z_goto (tgt := 213) hc dX7_init_238 rfl ?_
  refine z_iload_n hc 1 dX7_init_213 rfl rfl ?_
  refine z_aload_n hc 0 dX7_init_214 rfl rfl ?_
  refine z_getR (T := TX7) (p0 := 0) hc in_X7 rfl (by decide) (rfl : kd 0 = 7) (by decide) 2 (by decide) tz_242 rfl rfl rfl dX7_init_215 ?_
  refine z_alenQ (p0 := 3) (N' := 4) (v := 4) hc (rfl : kd 3 = 15) (by decide) (by decide) rfl (by decide) rfl dX7_init_218 ?_
  refine z_icmp_geT (tgt := 241) hc (by decide) dX7_init_219 rfl ?_
  refine z_iconst (v := 0) hc rfl dX7_init_241 ?_
  refine z_istore_n (L' := [(0, .ref (kad K 0)), (1, .int 0)]) hc [1, 0] dX7_init_242 rfl (by decide) rfl ?_
  refine z_iload_n hc 1 dX7_init_243 rfl rfl ?_
  refine z_aload_n hc 0 dX7_init_244 rfl rfl ?_
  refine z_getR (T := TX7) (p0 := 0) hc in_X7 rfl (by decide) (rfl : kd 0 = 7) (by decide) 3 (by decide) tz_243 rfl rfl rfl dX7_init_245 ?_
  refine z_alenQ (p0 := 4) (N' := 4) (v := 4) hc (rfl : kd 4 = 13) (by decide) (by decide) rfl (by decide) rfl dX7_init_248 ?_
  refine z_icmp_geF (tgt := 271) hc (by decide) dX7_init_249 rfl ?_
  refine z_aload_n hc 0 dX7_init_252 rfl rfl ?_
  refine z_getR (T := TX7) (p0 := 0) hc in_X7 rfl (by decide) (rfl : kd 0 = 7) (by decide) 3 (by decide) tz_243 rfl rfl rfl dX7_init_253 ?_
  refine z_iload_n hc 1 dX7_init_256 rfl rfl ?_
  refine z_new (T := TX2) hc tyX2 tyX2_ok in_X2 rfl (by decide) (rfl : kd 75 = 2) hdt_X2 tz_52 tz_61 tz_30 (by decide) (by decide) dX7_init_257 ?_
  refine z_dup hc rfl dX7_init_260 ?_
  refine z_callIN (p0 := 75) (host := "SlabTurn") hc (z_X2_init (kl K) (kV K) 75 (rfl : kd 75 = 2) _ _) mi_X2 (List.mem_of_getElem? (i := 4) rfl) (Nat.le_of_ble_eq_true rfl) ⟨by decide, by decide⟩ (by decide) (by decide) dX7_init_261 ?_
  refine z_aastore (p0 := 4) (v := 75) (N' := 4) (C := RX2) (T := TX2) (N := 6) hc (rfl : kd 4 = 13) (by decide) (fun _ => rfl) rfl (by decide) (by decide) (by decide) (rfl : kd 75 = 2) (by decide) rfl (by decide) dX7_init_264 ?_
  refine z_iinc (v := 1) (L' := [(0, .ref (kad K 0)), (1, .int 1)]) hc 1 [1, 0] dX7_init_265 rfl rfl (by decide) rfl ?_
  refine z_goto (tgt := 243) hc dX7_init_268 rfl ?_
  refine z_iload_n hc 1 dX7_init_243 rfl rfl ?_
  refine z_aload_n hc 0 dX7_init_244 rfl rfl ?_
  refine z_getR (T := TX7) (p0 := 0) hc in_X7 rfl (by decide) (rfl : kd 0 = 7) (by decide) 3 (by decide) tz_243 rfl rfl rfl dX7_init_245 ?_
  refine z_alenQ (p0 := 4) (N' := 4) (v := 4) hc (rfl : kd 4 = 13) (by decide) (by decide) rfl (by decide) rfl dX7_init_248 ?_
  refine z_icmp_geF (tgt := 271) hc (by decide) dX7_init_249 rfl ?_
  refine z_aload_n hc 0 dX7_init_252 rfl rfl ?_
  refine z_getR (T := TX7) (p0 := 0) hc in_X7 rfl (by decide) (rfl : kd 0 = 7) (by decide) 3 (by decide) tz_243 rfl rfl rfl dX7_init_253 ?_
  refine z_iload_n hc 1 dX7_init_256 rfl rfl ?_
  refine z_new (T := TX2) hc tyX2 tyX2_ok in_X2 rfl (by decide) (rfl : kd 79 = 2) hdt_X2 tz_52 tz_61 tz_30 (by decide) (by decide) dX7_init_257 ?_
  refine z_dup hc rfl dX7_init_260 ?_
  refine z_callIN (p0 := 79) (host := "SlabTurn") hc (z_X2_init (kl K) (kV K) 79 (rfl : kd 79 = 2) _ _) mi_X2 (List.mem_of_getElem? (i := 4) rfl) (Nat.le_of_ble_eq_true rfl) ⟨by decide, by decide⟩ (by decide) (by decide) dX7_init_261 ?_
  refine z_aastore (p0 := 4) (v := 79) (N' := 4) (C := RX2) (T := TX2) (N := 6) hc (rfl : kd 4 = 13) (by decide) (fun _ => rfl) rfl (by decide) (by decide) (by decide) (rfl : kd 79 = 2) (by decide) rfl (by decide) dX7_init_264 ?_
  refine z_iinc (v := 2) (L' := [(0, .ref (kad K 0)), (1, .int 2)]) hc 1 [1, 0] dX7_init_265 rfl rfl (by decide) rfl ?_
  refine z_goto (tgt := 243) hc dX7_init_268 rfl ?_
  refine z_iload_n hc 1 dX7_init_243 rfl rfl ?_
  refine z_aload_n hc 0 dX7_init_244 rfl rfl ?_
  refine z_getR (T := TX7) (p0 := 0) hc in_X7 rfl (by decide) (rfl : kd 0 = 7) (by decide) 3 (by decide) tz_243 rfl rfl rfl dX7_init_245 ?_
  refine z_alenQ (p0 := 4) (N' := 4) (v := 4) hc (rfl : kd 4 = 13) (by decide) (by decide) rfl (by decide) rfl dX7_init_248 ?_
  refine z_icmp_geF (tgt := 271) hc (by decide) dX7_init_249 rfl ?_
  refine z_aload_n hc 0 dX7_init_252 rfl rfl ?_
  refine z_getR (T := TX7) (p0 := 0) hc in_X7 rfl (by decide) (rfl : kd 0 = 7) (by decide) 3 (by decide) tz_243 rfl rfl rfl dX7_init_253 ?_
  refine z_iload_n hc 1 dX7_init_256 rfl rfl ?_
  refine z_new (T := TX2) hc tyX2 tyX2_ok in_X2 rfl (by decide) (rfl : kd 83 = 2) hdt_X2 tz_52 tz_61 tz_30 (by decide) (by decide) dX7_init_257 ?_
  refine z_dup hc rfl dX7_init_260 ?_
  refine z_callIN (p0 := 83) (host := "SlabTurn") hc (z_X2_init (kl K) (kV K) 83 (rfl : kd 83 = 2) _ _) mi_X2 (List.mem_of_getElem? (i := 4) rfl) (Nat.le_of_ble_eq_true rfl) ⟨by decide, by decide⟩ (by decide) (by decide) dX7_init_261 ?_
  refine z_aastore (p0 := 4) (v := 83) (N' := 4) (C := RX2) (T := TX2) (N := 6) hc (rfl : kd 4 = 13) (by decide) (fun _ => rfl) rfl (by decide) (by decide) (by decide) (rfl : kd 83 = 2) (by decide) rfl (by decide) dX7_init_264 ?_
  refine z_iinc (v := 3) (L' := [(0, .ref (kad K 0)), (1, .int 3)]) hc 1 [1, 0] dX7_init_265 rfl rfl (by decide) rfl ?_
  refine z_goto (tgt := 243) hc dX7_init_268 rfl ?_
  refine z_iload_n hc 1 dX7_init_243 rfl rfl ?_
  refine z_aload_n hc 0 dX7_init_244 rfl rfl ?_
  refine z_getR (T := TX7) (p0 := 0) hc in_X7 rfl (by decide) (rfl : kd 0 = 7) (by decide) 3 (by decide) tz_243 rfl rfl rfl dX7_init_245 ?_
  refine z_alenQ (p0 := 4) (N' := 4) (v := 4) hc (rfl : kd 4 = 13) (by decide) (by decide) rfl (by decide) rfl dX7_init_248 ?_
  refine z_icmp_geF (tgt := 271) hc (by decide) dX7_init_249 rfl ?_
  refine z_aload_n hc 0 dX7_init_252 rfl rfl ?_
  refine z_getR (T := TX7) (p0 := 0) hc in_X7 rfl (by decide) (rfl : kd 0 = 7) (by decide) 3 (by decide) tz_243 rfl rfl rfl dX7_init_253 ?_
  refine z_iload_n hc 1 dX7_init_256 rfl rfl ?_
  refine z_new (T := TX2) hc tyX2 tyX2_ok in_X2 rfl (by decide) (rfl : kd 87 = 2) hdt_X2 tz_52 tz_61 tz_30 (by decide) (by decide) dX7_init_257 ?_
  refine z_dup hc rfl dX7_init_260 ?_
  refine z_callIN (p0 := 87) (host := "SlabTurn") hc (z_X2_init (kl K) (kV K) 87 (rfl : kd 87 = 2) _ _) mi_X2 (List.mem_of_getElem? (i := 4) rfl) (Nat.le_of_ble_eq_true rfl) ⟨by decide, by decide⟩ (by decide) (by decide) dX7_init_261 ?_
  refine z_aastore (p0 := 4) (v := 87) (N' := 4) (C := RX2) (T := TX2) (N := 6) hc (rfl : kd 4 = 13) (by decide) (fun _ => rfl) rfl (by decide) (by decide) (by decide) (rfl : kd 87 = 2) (by decide) rfl (by decide) dX7_init_264 ?_
  refine z_iinc (v := 4) (L' := [(0, .ref (kad K 0)), (1, .int 4)]) hc 1 [1, 0] dX7_init_265 rfl rfl (by decide) rfl ?_
  refine z_goto (tgt := 243) hc dX7_init_268 rfl ?_
  refine z_iload_n hc 1 dX7_init_243 rfl rfl ?_
  refine z_aload_n hc 0 dX7_init_244 rfl rfl ?_
  refine z_getR (T := TX7) (p0 := 0) hc in_X7 rfl (by decide) (rfl : kd 0 = 7) (by decide) 3 (by decide) tz_243 rfl rfl rfl dX7_init_245 ?_
  refine z_alenQ (p0 := 4) (N' := 4) (v := 4) hc (rfl : kd 4 = 13) (by decide) (by decide) rfl (by decide) rfl dX7_init_248 ?_
  refine z_icmp_geT (tgt := 271) hc (by decide) dX7_init_249 rfl ?_
  refine z_iconst (v := 0) hc rfl dX7_init_271 ?_
  refine z_istore_n (L' := [(0, .ref (kad K 0)), (1, .int 0)]) hc [1, 0] dX7_init_272 rfl (by decide) rfl ?_
  refine z_iload_n hc 1 dX7_init_273 rfl rfl ?_
  refine z_aload_n hc 0 dX7_init_274 rfl rfl ?_
  refine z_getR (T := TX7) (p0 := 0) hc in_X7 rfl (by decide) (rfl : kd 0 = 7) (by decide) 5 (by decide) tz_245 rfl rfl rfl dX7_init_275 ?_
  refine z_alenQ (p0 := 16) (N' := 3) (v := 3) hc (rfl : kd 16 = 12) (by decide) (by decide) rfl (by decide) rfl dX7_init_278 ?_
  refine z_icmp_geF (tgt := 301) hc (by decide) dX7_init_279 rfl ?_
  refine z_aload_n hc 0 dX7_init_282 rfl rfl ?_
  refine z_getR (T := TX7) (p0 := 0) hc in_X7 rfl (by decide) (rfl : kd 0 = 7) (by decide) 5 (by decide) tz_245 rfl rfl rfl dX7_init_283 ?_
  refine z_iload_n hc 1 dX7_init_286 rfl rfl ?_
  refine z_new (T := TX0) hc tyX0 tyX0_ok in_X0 rfl (by decide) (rfl : kd 91 = 0) hdt_X0 tz_54 tz_55 tz_29 (by decide) (by decide) dX7_init_287 ?_
  refine z_dup hc rfl dX7_init_290 ?_
  refine z_callIN (p0 := 91) (host := "SlabTurn") hc (z_X0_init (kl K) (kV K) 91 (rfl : kd 91 = 0) _ _) mi_X0 (List.mem_of_getElem? (i := 0) rfl) (Nat.le_of_ble_eq_true rfl) ⟨by decide, by decide⟩ (by decide) (by decide) dX7_init_291 ?_
  refine z_aastore (p0 := 16) (v := 91) (N' := 3) (C := RX0) (T := TX0) (N := 17) hc (rfl : kd 16 = 12) (by decide) (fun _ => rfl) rfl (by decide) (by decide) (by decide) (rfl : kd 91 = 0) (by decide) rfl (by decide) dX7_init_294 ?_
  refine z_iinc (v := 1) (L' := [(0, .ref (kad K 0)), (1, .int 1)]) hc 1 [1, 0] dX7_init_295 rfl rfl (by decide) rfl ?_
  refine z_goto (tgt := 273) hc dX7_init_298 rfl ?_
  refine z_iload_n hc 1 dX7_init_273 rfl rfl ?_
  refine z_aload_n hc 0 dX7_init_274 rfl rfl ?_
  refine z_getR (T := TX7) (p0 := 0) hc in_X7 rfl (by decide) (rfl : kd 0 = 7) (by decide) 5 (by decide) tz_245 rfl rfl rfl dX7_init_275 ?_
  refine z_alenQ (p0 := 16) (N' := 3) (v := 3) hc (rfl : kd 16 = 12) (by decide) (by decide) rfl (by decide) rfl dX7_init_278 ?_
  refine z_icmp_geF (tgt := 301) hc (by decide) dX7_init_279 rfl ?_
  refine z_aload_n hc 0 dX7_init_282 rfl rfl ?_
  refine z_getR (T := TX7) (p0 := 0) hc in_X7 rfl (by decide) (rfl : kd 0 = 7) (by decide) 5 (by decide) tz_245 rfl rfl rfl dX7_init_283 ?_
  refine z_iload_n hc 1 dX7_init_286 rfl rfl ?_
  refine z_new (T := TX0) hc tyX0 tyX0_ok in_X0 rfl (by decide) (rfl : kd 102 = 0) hdt_X0 tz_54 tz_55 tz_29 (by decide) (by decide) dX7_init_287 ?_
  refine z_dup hc rfl dX7_init_290 ?_
  refine z_callIN (p0 := 102) (host := "SlabTurn") hc (z_X0_init (kl K) (kV K) 102 (rfl : kd 102 = 0) _ _) mi_X0 (List.mem_of_getElem? (i := 0) rfl) (Nat.le_of_ble_eq_true rfl) ⟨by decide, by decide⟩ (by decide) (by decide) dX7_init_291 ?_
  refine z_aastore (p0 := 16) (v := 102) (N' := 3) (C := RX0) (T := TX0) (N := 17) hc (rfl : kd 16 = 12) (by decide) (fun _ => rfl) rfl (by decide) (by decide) (by decide) (rfl : kd 102 = 0) (by decide) rfl (by decide) dX7_init_294 ?_
  refine z_iinc (v := 2) (L' := [(0, .ref (kad K 0)), (1, .int 2)]) hc 1 [1, 0] dX7_init_295 rfl rfl (by decide) rfl ?_
  refine z_goto (tgt := 273) hc dX7_init_298 rfl ?_
  refine z_iload_n hc 1 dX7_init_273 rfl rfl ?_
  refine z_aload_n hc 0 dX7_init_274 rfl rfl ?_
  refine z_getR (T := TX7) (p0 := 0) hc in_X7 rfl (by decide) (rfl : kd 0 = 7) (by decide) 5 (by decide) tz_245 rfl rfl rfl dX7_init_275 ?_
  refine z_alenQ (p0 := 16) (N' := 3) (v := 3) hc (rfl : kd 16 = 12) (by decide) (by decide) rfl (by decide) rfl dX7_init_278 ?_
  refine z_icmp_geF (tgt := 301) hc (by decide) dX7_init_279 rfl ?_
  refine z_aload_n hc 0 dX7_init_282 rfl rfl ?_
  refine z_getR (T := TX7) (p0 := 0) hc in_X7 rfl (by decide) (rfl : kd 0 = 7) (by decide) 5 (by decide) tz_245 rfl rfl rfl dX7_init_283 ?_
  refine z_iload_n hc 1 dX7_init_286 rfl rfl ?_
  refine z_new (T := TX0) hc tyX0 tyX0_ok in_X0 rfl (by decide) (rfl : kd 113 = 0) hdt_X0 tz_54 tz_55 tz_29 (by decide) (by decide) dX7_init_287 ?_
  refine z_dup hc rfl dX7_init_290 ?_
  refine z_callIN (p0 := 113) (host := "SlabTurn") hc (z_X0_init (kl K) (kV K) 113 (rfl : kd 113 = 0) _ _) mi_X0 (List.mem_of_getElem? (i := 0) rfl) (Nat.le_of_ble_eq_true rfl) ⟨by decide, by decide⟩ (by decide) (by decide) dX7_init_291 ?_
  refine z_aastore (p0 := 16) (v := 113) (N' := 3) (C := RX0) (T := TX0) (N := 17) hc (rfl : kd 16 = 12) (by decide) (fun _ => rfl) rfl (by decide) (by decide) (by decide) (rfl : kd 113 = 0) (by decide) rfl (by decide) dX7_init_294 ?_
  refine z_iinc (v := 3) (L' := [(0, .ref (kad K 0)), (1, .int 3)]) hc 1 [1, 0] dX7_init_295 rfl rfl (by decide) rfl ?_
  refine z_goto (tgt := 273) hc dX7_init_298 rfl ?_
  refine z_iload_n hc 1 dX7_init_273 rfl rfl ?_
  refine z_aload_n hc 0 dX7_init_274 rfl rfl ?_
  refine z_getR (T := TX7) (p0 := 0) hc in_X7 rfl (by decide) (rfl : kd 0 = 7) (by decide) 5 (by decide) tz_245 rfl rfl rfl dX7_init_275 ?_
  refine z_alenQ (p0 := 16) (N' := 3) (v := 3) hc (rfl : kd 16 = 12) (by decide) (by decide) rfl (by decide) rfl dX7_init_278 ?_
  refine z_icmp_geT (tgt := 301) hc (by decide) dX7_init_279 rfl ?_
  exact hret _ _ dX7_init_301
def zi_X7q (Z : Nat → Nat → Bool) : Nat → Nat → Bool := zs (zi_X0 (zs (zi_X0 (zs (zi_X0 (zs (zi_X2 (zs (zi_X2 (zs (zi_X2 (zs (zi_X2 (zs (zi_X5 (zs (zi_X5 (zs (zi_X5 (zs (zi_X5 (zs (zi_X6 (zs (zi_X6 (zs (zi_X6 (zs (zi_X6 (zs (zi_X4 (zs (zi_X4 (zs (zi_X4 (zs (zi_X4 (zs (zi_X4 (zs (zi_X4 (zs (zs (zs (zs (zi_X1 (zs (zi_X2 (zs (zi_X5 (zs (zi_X3 (zs (zi_X0 (zs (zi_X0 (zs (zs (zi_X0 (zs (zs (zs (zs Z 124 0) 124 1) 124 2) 124 3) 129) 124 4) 124 5) 141) 124 6) 152) 124 7) 163) 124 8) 164) 124 9) 165) 124 10) 169) 124 11) 124 12) 124 13) 124 14) 175) 125 (ix 0)) 177) 125 (ix 1)) 179) 125 (ix 2)) 181) 125 (ix 3)) 183) 125 (ix 4)) 185) 125 (ix 5)) 187) 126 (ix 0)) 189) 126 (ix 1)) 191) 126 (ix 2)) 193) 126 (ix 3)) 195) 127 (ix 0)) 196) 127 (ix 1)) 197) 127 (ix 2)) 198) 127 (ix 3)) 199) 128 (ix 0)) 203) 128 (ix 1)) 207) 128 (ix 2)) 211) 128 (ix 3)) 215) 140 (ix 0)) 226) 140 (ix 1)) 237) 140 (ix 2)
def gi_X7q (G : G_) : G_ := gi_X0 (gi_X0 (gi_X0 (gi_X2 (gi_X2 (gi_X2 (gi_X2 (gi_X5 (gi_X5 (gi_X5 (gi_X5 (gi_X6 (gi_X6 (gi_X6 (gi_X6 (gi_X4 (gi_X4 (gi_X4 (gi_X4 (gi_X4 (gi_X4 (sJ (gi_X1 (gi_X2 (gi_X5 (gi_X3 (gi_X0 (gi_X0 (gi_X0 G 129) 141) 152) 163) 164) 165) 169) 124 18 1) 175) 177) 179) 181) 183) 185) 187) 189) 191) 193) 195) 196) 197) 198) 199) 203) 207) 211) 215) 226) 237
set_option maxHeartbeats 8000000 in
set_option maxRecDepth 100000 in
theorem z_X7q_init (l : Launch) (V : VT) (Z : Nat → Nat → Bool) (G : G_) : MCZ l V yX7_init cX7_init 2 3 60 [.ref (V.2.2.1 124)] Z 125 G (zi_X7q Z) 248 (gi_X7q G) 123 1810 := by
  refine mcz_of (by decide) rfl (Nat.le_of_ble_eq_true rfl) (fun K hV hc hkl hret hin => ?_)
  subst hV
  replace hc : OkZ K cX7_init RX7 (Cond.code yX7_init cX7_init 2 none :: TB) 3 60 123 1810 2 := hc
  show XZ K Z 125 0 0 0 [(0, .ref (kad K 124))] [] G
  refine z_aload_n hc 0 dX7_init_0 rfl rfl ?_
  refine z_obj hc tz_43 tz_44 tz_45 (by decide) (Nat.le_of_ble_eq_true rfl) dX7_init_1 ?_
  refine z_aload_n hc 0 dX7_init_4 rfl rfl ?_
  refine z_bipush (v := 6) hc rfl dX7_init_5 ?_
  refine z_newq (C := RX4) (N' := 6) hc (rfl : kd 125 = 14) (by decide) (fun _ => rfl) (rfl : ln 125 = 6) (by decide) rfl (by decide) tz_46 (fun _ h => h.1) (by decide) (by decide) dX7_init_7 ?_
  refine z_putR (T := TX7) (p0 := 124) hc tyX7 tyX7_ok nmX7 in_X7 rfl (by decide) (rfl : kd 124 = 7) (by decide) 0 (by decide) tz_240 rfl rfl rfl rfl hin (ty := tyX7 0) (by decide +kernel) (fun _ => ⟨rfl, rfl⟩) dX7_init_10 ?_
  refine z_aload_n hc 0 dX7_init_13 rfl rfl ?_
  refine z_iconst (v := 4) hc rfl dX7_init_14 ?_
  refine z_newq (C := RX6) (N' := 4) hc (rfl : kd 126 = 16) (by decide) (fun _ => rfl) (rfl : ln 126 = 4) (by decide) rfl (by decide) tz_48 (fun _ h => h.2.1) (by decide) (by decide) dX7_init_15 ?_
  refine z_putR (T := TX7) (p0 := 124) hc tyX7 tyX7_ok nmX7 in_X7 rfl (by decide) (rfl : kd 124 = 7) (by decide) 1 (by decide) tz_241 rfl rfl rfl rfl hin (ty := tyX7 1) (by decide +kernel) (fun _ => ⟨rfl, rfl⟩) dX7_init_18 ?_
  refine z_aload_n hc 0 dX7_init_21 rfl rfl ?_
  refine z_iconst (v := 4) hc rfl dX7_init_22 ?_
  refine z_newq (C := RX5) (N' := 4) hc (rfl : kd 127 = 15) (by decide) (fun _ => rfl) (rfl : ln 127 = 4) (by decide) rfl (by decide) tz_50 (fun _ h => h.2.2.1) (by decide) (by decide) dX7_init_23 ?_
  refine z_putR (T := TX7) (p0 := 124) hc tyX7 tyX7_ok nmX7 in_X7 rfl (by decide) (rfl : kd 124 = 7) (by decide) 2 (by decide) tz_242 rfl rfl rfl rfl hin (ty := tyX7 2) (by decide +kernel) (fun _ => ⟨rfl, rfl⟩) dX7_init_26 ?_
  refine z_aload_n hc 0 dX7_init_29 rfl rfl ?_
  refine z_iconst (v := 4) hc rfl dX7_init_30 ?_
  refine z_newq (C := RX2) (N' := 4) hc (rfl : kd 128 = 13) (by decide) (fun _ => rfl) (rfl : ln 128 = 4) (by decide) rfl (by decide) tz_52 (fun _ h => h.2.2.2.1) (by decide) (by decide) dX7_init_31 ?_
  refine z_putR (T := TX7) (p0 := 124) hc tyX7 tyX7_ok nmX7 in_X7 rfl (by decide) (rfl : kd 124 = 7) (by decide) 3 (by decide) tz_243 rfl rfl rfl rfl hin (ty := tyX7 3) (by decide +kernel) (fun _ => ⟨rfl, rfl⟩) dX7_init_34 ?_
  refine z_aload_n hc 0 dX7_init_37 rfl rfl ?_
  refine z_new (T := TX0) hc tyX0 tyX0_ok in_X0 rfl (by decide) (rfl : kd 129 = 0) hdt_X0 tz_54 tz_55 tz_29 (by decide) (by decide) dX7_init_38 ?_
  refine z_dup hc rfl dX7_init_41 ?_
  refine z_callIN (p0 := 129) (host := "SlabTurn") hc (z_X0_init (kl K) (kV K) 129 (rfl : kd 129 = 0) _ _) mi_X0 (List.mem_of_getElem? (i := 0) rfl) (Nat.le_of_ble_eq_true rfl) ⟨by decide, by decide⟩ (by decide) (by decide) dX7_init_42 ?_
  refine z_putR (T := TX7) (p0 := 124) hc tyX7 tyX7_ok nmX7 in_X7 rfl (by decide) (rfl : kd 124 = 7) (by decide) 4 (by decide) tz_244 rfl rfl rfl rfl hin (ty := tyX7 4) (by decide +kernel) (fun _ => ⟨rfl, rfl⟩) dX7_init_45 ?_
  refine z_aload_n hc 0 dX7_init_48 rfl rfl ?_
  refine z_iconst (v := 3) hc rfl dX7_init_49 ?_
  refine z_newq (C := RX0) (N' := 3) hc (rfl : kd 140 = 12) (by decide) (fun _ => rfl) (rfl : ln 140 = 3) (by decide) rfl (by decide) tz_54 (fun _ h => h.2.2.2.2) (by decide) (by decide) dX7_init_50 ?_
  refine z_putR (T := TX7) (p0 := 124) hc tyX7 tyX7_ok nmX7 in_X7 rfl (by decide) (rfl : kd 124 = 7) (by decide) 5 (by decide) tz_245 rfl rfl rfl rfl hin (ty := tyX7 5) (by decide +kernel) (fun _ => ⟨rfl, rfl⟩) dX7_init_53 ?_
  refine z_aload_n hc 0 dX7_init_56 rfl rfl ?_
  refine z_new (T := TX0) hc tyX0 tyX0_ok in_X0 rfl (by decide) (rfl : kd 141 = 0) hdt_X0 tz_54 tz_55 tz_29 (by decide) (by decide) dX7_init_57 ?_
  refine z_dup hc rfl dX7_init_60 ?_
  refine z_callIN (p0 := 141) (host := "SlabTurn") hc (z_X0_init (kl K) (kV K) 141 (rfl : kd 141 = 0) _ _) mi_X0 (List.mem_of_getElem? (i := 0) rfl) (Nat.le_of_ble_eq_true rfl) ⟨by decide, by decide⟩ (by decide) (by decide) dX7_init_61 ?_
  refine z_putR (T := TX7) (p0 := 124) hc tyX7 tyX7_ok nmX7 in_X7 rfl (by decide) (rfl : kd 124 = 7) (by decide) 6 (by decide) tz_246 rfl rfl rfl rfl hin (ty := tyX7 6) (by decide +kernel) (fun _ => ⟨rfl, rfl⟩) dX7_init_64 ?_
  refine z_aload_n hc 0 dX7_init_67 rfl rfl ?_
  refine z_new (T := TX0) hc tyX0 tyX0_ok in_X0 rfl (by decide) (rfl : kd 152 = 0) hdt_X0 tz_54 tz_55 tz_29 (by decide) (by decide) dX7_init_68 ?_
  refine z_dup hc rfl dX7_init_71 ?_
  refine z_callIN (p0 := 152) (host := "SlabTurn") hc (z_X0_init (kl K) (kV K) 152 (rfl : kd 152 = 0) _ _) mi_X0 (List.mem_of_getElem? (i := 0) rfl) (Nat.le_of_ble_eq_true rfl) ⟨by decide, by decide⟩ (by decide) (by decide) dX7_init_72 ?_
  refine z_putR (T := TX7) (p0 := 124) hc tyX7 tyX7_ok nmX7 in_X7 rfl (by decide) (rfl : kd 124 = 7) (by decide) 7 (by decide) tz_247 rfl rfl rfl rfl hin (ty := tyX7 7) (by decide +kernel) (fun _ => ⟨rfl, rfl⟩) dX7_init_75 ?_
  refine z_aload_n hc 0 dX7_init_78 rfl rfl ?_
  refine z_new (T := TX3) hc tyX3 tyX3_ok in_X3 rfl (by decide) (rfl : kd 163 = 3) hdt_X3 tz_149 tz_150 tz_31 (by decide) (by decide) dX7_init_79 ?_
  refine z_dup hc rfl dX7_init_82 ?_
  refine z_callIN (p0 := 163) (host := "SlabTurn") hc (z_X3_init (kl K) (kV K) 163 (rfl : kd 163 = 3) _ _) mi_X3 (List.mem_of_getElem? (i := 2) rfl) (Nat.le_of_ble_eq_true rfl) ⟨by decide, by decide⟩ (by decide) (by decide) dX7_init_83 ?_
  refine z_putR (T := TX7) (p0 := 124) hc tyX7 tyX7_ok nmX7 in_X7 rfl (by decide) (rfl : kd 124 = 7) (by decide) 8 (by decide) tz_248 rfl rfl rfl rfl hin (ty := tyX7 8) (by decide +kernel) (fun _ => ⟨rfl, rfl⟩) dX7_init_86 ?_
  refine z_aload_n hc 0 dX7_init_89 rfl rfl ?_
  refine z_new (T := TX5) hc tyX5 tyX5_ok in_X5 rfl (by decide) (rfl : kd 164 = 5) hdt_X5 tz_50 tz_163 tz_32 (by decide) (by decide) dX7_init_90 ?_
  refine z_dup hc rfl dX7_init_93 ?_
  refine z_callIN (p0 := 164) (host := "SlabTurn") hc (z_X5_init (kl K) (kV K) 164 (rfl : kd 164 = 5) _ _) mi_X5 (List.mem_of_getElem? (i := 3) rfl) (Nat.le_of_ble_eq_true rfl) ⟨by decide, by decide⟩ (by decide) (by decide) dX7_init_94 ?_
  refine z_putR (T := TX7) (p0 := 124) hc tyX7 tyX7_ok nmX7 in_X7 rfl (by decide) (rfl : kd 124 = 7) (by decide) 9 (by decide) tz_249 rfl rfl rfl rfl hin (ty := tyX7 9) (by decide +kernel) (fun _ => ⟨rfl, rfl⟩) dX7_init_97 ?_
  refine z_aload_n hc 0 dX7_init_100 rfl rfl ?_
  refine z_new (T := TX2) hc tyX2 tyX2_ok in_X2 rfl (by decide) (rfl : kd 165 = 2) hdt_X2 tz_52 tz_61 tz_30 (by decide) (by decide) dX7_init_101 ?_
  refine z_dup hc rfl dX7_init_104 ?_
  refine z_callIN (p0 := 165) (host := "SlabTurn") hc (z_X2_init (kl K) (kV K) 165 (rfl : kd 165 = 2) _ _) mi_X2 (List.mem_of_getElem? (i := 4) rfl) (Nat.le_of_ble_eq_true rfl) ⟨by decide, by decide⟩ (by decide) (by decide) dX7_init_105 ?_
  refine z_putR (T := TX7) (p0 := 124) hc tyX7 tyX7_ok nmX7 in_X7 rfl (by decide) (rfl : kd 124 = 7) (by decide) 10 (by decide) tz_250 rfl rfl rfl rfl hin (ty := tyX7 10) (by decide +kernel) (fun _ => ⟨rfl, rfl⟩) dX7_init_108 ?_
  refine z_aload_n hc 0 dX7_init_111 rfl rfl ?_
  refine z_new (T := TX1) hc tyX1 tyX1_ok in_X1 rfl (by decide) (rfl : kd 169 = 1) hdt_X1 tz_196 tz_197 tz_33 (by decide) (by decide) dX7_init_112 ?_
  refine z_dup hc rfl dX7_init_115 ?_
  refine z_callIN (p0 := 169) (host := "SlabTurn") hc (z_X1_init (kl K) (kV K) 169 (rfl : kd 169 = 1) _ _) mi_X1 (List.mem_of_getElem? (i := 5) rfl) (Nat.le_of_ble_eq_true rfl) ⟨by decide, by decide⟩ (by decide) (by decide) dX7_init_116 ?_
  refine z_putR (T := TX7) (p0 := 124) hc tyX7 tyX7_ok nmX7 in_X7 rfl (by decide) (rfl : kd 124 = 7) (by decide) 11 (by decide) tz_251 rfl rfl rfl rfl hin (ty := tyX7 11) (by decide +kernel) (fun _ => ⟨rfl, rfl⟩) dX7_init_119 ?_
  refine z_aload_n hc 0 dX7_init_122 rfl rfl ?_
  refine z_bipush (v := 16) hc rfl dX7_init_123 ?_
  refine z_newa_int (N' := 16) hc (rfl : kd 172 = 10) (rfl : ln 172 = 16) (by decide) rfl (by decide) tz_91 (by decide) (by decide) dX7_init_125 ?_
  refine z_putR (T := TX7) (p0 := 124) hc tyX7 tyX7_ok nmX7 in_X7 rfl (by decide) (rfl : kd 124 = 7) (by decide) 12 (by decide) tz_252 rfl rfl rfl rfl hin (ty := tyX7 12) (by decide +kernel) (fun _ => ⟨rfl, rfl⟩) dX7_init_127 ?_
  refine z_aload_n hc 0 dX7_init_130 rfl rfl ?_
  refine z_bipush (v := 21) hc rfl dX7_init_131 ?_
  refine z_newa_int (N' := 21) hc (rfl : kd 173 = 10) (rfl : ln 173 = 21) (by decide) rfl (by decide) tz_91 (by decide) (by decide) dX7_init_133 ?_
  refine z_putR (T := TX7) (p0 := 124) hc tyX7 tyX7_ok nmX7 in_X7 rfl (by decide) (rfl : kd 124 = 7) (by decide) 13 (by decide) tz_253 rfl rfl rfl rfl hin (ty := tyX7 13) (by decide +kernel) (fun _ => ⟨rfl, rfl⟩) dX7_init_135 ?_
  refine z_aload_n hc 0 dX7_init_138 rfl rfl ?_
  refine z_bipush (v := 6) hc rfl dX7_init_139 ?_
  refine z_newa_int (N' := 6) hc (rfl : kd 174 = 10) (rfl : ln 174 = 6) (by decide) rfl (by decide) tz_91 (by decide) (by decide) dX7_init_141 ?_
  refine z_putR (T := TX7) (p0 := 124) hc tyX7 tyX7_ok nmX7 in_X7 rfl (by decide) (rfl : kd 124 = 7) (by decide) 14 (by decide) tz_254 rfl rfl rfl rfl hin (ty := tyX7 14) (by decide +kernel) (fun _ => ⟨rfl, rfl⟩) dX7_init_143 ?_
  refine z_aload_n hc 0 dX7_init_146 rfl rfl ?_
  refine z_lconst (v := 1) hc rfl dX7_init_147 ?_
  refine z_putL (T := TX7) (p0 := 124) hc tyX7 tyX7_ok nmX7 in_X7 rfl (by decide) (rfl : kd 124 = 7) (by decide) 18 (by decide) tz_258 rfl rfl rfl (by decide +kernel) dX7_init_148 ?_
  refine z_iconst (v := 0) hc rfl dX7_init_151 ?_
  refine z_istore_n (L' := [(0, .ref (kad K 124)), (1, .int 0)]) hc [1, 0] dX7_init_152 rfl (by decide) rfl ?_
  refine z_iload_n hc 1 dX7_init_153 rfl rfl ?_
  refine z_aload_n hc 0 dX7_init_154 rfl rfl ?_
  refine z_getR (T := TX7) (p0 := 124) hc in_X7 rfl (by decide) (rfl : kd 124 = 7) (by decide) 0 (by decide) tz_240 rfl rfl rfl dX7_init_155 ?_
  refine z_alenQ (p0 := 125) (N' := 6) (v := 6) hc (rfl : kd 125 = 14) (by decide) (by decide) rfl (by decide) rfl dX7_init_158 ?_
  refine z_icmp_geF (tgt := 181) hc (by decide) dX7_init_159 rfl ?_
  refine z_aload_n hc 0 dX7_init_162 rfl rfl ?_
  refine z_getR (T := TX7) (p0 := 124) hc in_X7 rfl (by decide) (rfl : kd 124 = 7) (by decide) 0 (by decide) tz_240 rfl rfl rfl dX7_init_163 ?_
  refine z_iload_n hc 1 dX7_init_166 rfl rfl ?_
  refine z_new (T := TX4) hc tyX4 tyX4_ok in_X4 rfl (by decide) (rfl : kd 175 = 4) hdt_X4 tz_46 tz_213 tz_34 (by decide) (by decide) dX7_init_167 ?_
  refine z_dup hc rfl dX7_init_170 ?_
  refine z_callIN (p0 := 175) (host := "SlabTurn") hc (z_X4_init (kl K) (kV K) 175 (rfl : kd 175 = 4) _ _) mi_X4 (List.mem_of_getElem? (i := 6) rfl) (Nat.le_of_ble_eq_true rfl) ⟨by decide, by decide⟩ (by decide) (by decide) dX7_init_171 ?_
  refine z_aastore (p0 := 125) (v := 175) (N' := 6) (C := RX4) (T := TX4) (N := 2) hc (rfl : kd 125 = 14) (by decide) (fun _ => rfl) rfl (by decide) (by decide) (by decide) (rfl : kd 175 = 4) (by decide) rfl (by decide) dX7_init_174 ?_
  refine z_iinc (v := 1) (L' := [(0, .ref (kad K 124)), (1, .int 1)]) hc 1 [1, 0] dX7_init_175 rfl rfl (by decide) rfl ?_
  refine z_goto (tgt := 153) hc dX7_init_178 rfl ?_
  refine z_iload_n hc 1 dX7_init_153 rfl rfl ?_
  refine z_aload_n hc 0 dX7_init_154 rfl rfl ?_
  refine z_getR (T := TX7) (p0 := 124) hc in_X7 rfl (by decide) (rfl : kd 124 = 7) (by decide) 0 (by decide) tz_240 rfl rfl rfl dX7_init_155 ?_
  refine z_alenQ (p0 := 125) (N' := 6) (v := 6) hc (rfl : kd 125 = 14) (by decide) (by decide) rfl (by decide) rfl dX7_init_158 ?_
  refine z_icmp_geF (tgt := 181) hc (by decide) dX7_init_159 rfl ?_
  refine z_aload_n hc 0 dX7_init_162 rfl rfl ?_
  refine z_getR (T := TX7) (p0 := 124) hc in_X7 rfl (by decide) (rfl : kd 124 = 7) (by decide) 0 (by decide) tz_240 rfl rfl rfl dX7_init_163 ?_
  refine z_iload_n hc 1 dX7_init_166 rfl rfl ?_
  refine z_new (T := TX4) hc tyX4 tyX4_ok in_X4 rfl (by decide) (rfl : kd 177 = 4) hdt_X4 tz_46 tz_213 tz_34 (by decide) (by decide) dX7_init_167 ?_
  refine z_dup hc rfl dX7_init_170 ?_
  refine z_callIN (p0 := 177) (host := "SlabTurn") hc (z_X4_init (kl K) (kV K) 177 (rfl : kd 177 = 4) _ _) mi_X4 (List.mem_of_getElem? (i := 6) rfl) (Nat.le_of_ble_eq_true rfl) ⟨by decide, by decide⟩ (by decide) (by decide) dX7_init_171 ?_
  refine z_aastore (p0 := 125) (v := 177) (N' := 6) (C := RX4) (T := TX4) (N := 2) hc (rfl : kd 125 = 14) (by decide) (fun _ => rfl) rfl (by decide) (by decide) (by decide) (rfl : kd 177 = 4) (by decide) rfl (by decide) dX7_init_174 ?_
  refine z_iinc (v := 2) (L' := [(0, .ref (kad K 124)), (1, .int 2)]) hc 1 [1, 0] dX7_init_175 rfl rfl (by decide) rfl ?_
  refine z_goto (tgt := 153) hc dX7_init_178 rfl ?_
  refine z_iload_n hc 1 dX7_init_153 rfl rfl ?_
  refine z_aload_n hc 0 dX7_init_154 rfl rfl ?_
  refine z_getR (T := TX7) (p0 := 124) hc in_X7 rfl (by decide) (rfl : kd 124 = 7) (by decide) 0 (by decide) tz_240 rfl rfl rfl dX7_init_155 ?_
  refine z_alenQ (p0 := 125) (N' := 6) (v := 6) hc (rfl : kd 125 = 14) (by decide) (by decide) rfl (by decide) rfl dX7_init_158 ?_
  refine z_icmp_geF (tgt := 181) hc (by decide) dX7_init_159 rfl ?_
  refine z_aload_n hc 0 dX7_init_162 rfl rfl ?_
  refine z_getR (T := TX7) (p0 := 124) hc in_X7 rfl (by decide) (rfl : kd 124 = 7) (by decide) 0 (by decide) tz_240 rfl rfl rfl dX7_init_163 ?_
  refine z_iload_n hc 1 dX7_init_166 rfl rfl ?_
  refine z_new (T := TX4) hc tyX4 tyX4_ok in_X4 rfl (by decide) (rfl : kd 179 = 4) hdt_X4 tz_46 tz_213 tz_34 (by decide) (by decide) dX7_init_167 ?_
  refine z_dup hc rfl dX7_init_170 ?_
  refine z_callIN (p0 := 179) (host := "SlabTurn") hc (z_X4_init (kl K) (kV K) 179 (rfl : kd 179 = 4) _ _) mi_X4 (List.mem_of_getElem? (i := 6) rfl) (Nat.le_of_ble_eq_true rfl) ⟨by decide, by decide⟩ (by decide) (by decide) dX7_init_171 ?_
  refine z_aastore (p0 := 125) (v := 179) (N' := 6) (C := RX4) (T := TX4) (N := 2) hc (rfl : kd 125 = 14) (by decide) (fun _ => rfl) rfl (by decide) (by decide) (by decide) (rfl : kd 179 = 4) (by decide) rfl (by decide) dX7_init_174 ?_
  refine z_iinc (v := 3) (L' := [(0, .ref (kad K 124)), (1, .int 3)]) hc 1 [1, 0] dX7_init_175 rfl rfl (by decide) rfl ?_
  refine z_goto (tgt := 153) hc dX7_init_178 rfl ?_
  refine z_iload_n hc 1 dX7_init_153 rfl rfl ?_
  refine z_aload_n hc 0 dX7_init_154 rfl rfl ?_
  refine z_getR (T := TX7) (p0 := 124) hc in_X7 rfl (by decide) (rfl : kd 124 = 7) (by decide) 0 (by decide) tz_240 rfl rfl rfl dX7_init_155 ?_
  refine z_alenQ (p0 := 125) (N' := 6) (v := 6) hc (rfl : kd 125 = 14) (by decide) (by decide) rfl (by decide) rfl dX7_init_158 ?_
  refine z_icmp_geF (tgt := 181) hc (by decide) dX7_init_159 rfl ?_
  refine z_aload_n hc 0 dX7_init_162 rfl rfl ?_
  refine z_getR (T := TX7) (p0 := 124) hc in_X7 rfl (by decide) (rfl : kd 124 = 7) (by decide) 0 (by decide) tz_240 rfl rfl rfl dX7_init_163 ?_
  refine z_iload_n hc 1 dX7_init_166 rfl rfl ?_
  refine z_new (T := TX4) hc tyX4 tyX4_ok in_X4 rfl (by decide) (rfl : kd 181 = 4) hdt_X4 tz_46 tz_213 tz_34 (by decide) (by decide) dX7_init_167 ?_
  refine z_dup hc rfl dX7_init_170 ?_
  refine z_callIN (p0 := 181) (host := "SlabTurn") hc (z_X4_init (kl K) (kV K) 181 (rfl : kd 181 = 4) _ _) mi_X4 (List.mem_of_getElem? (i := 6) rfl) (Nat.le_of_ble_eq_true rfl) ⟨by decide, by decide⟩ (by decide) (by decide) dX7_init_171 ?_
  refine z_aastore (p0 := 125) (v := 181) (N' := 6) (C := RX4) (T := TX4) (N := 2) hc (rfl : kd 125 = 14) (by decide) (fun _ => rfl) rfl (by decide) (by decide) (by decide) (rfl : kd 181 = 4) (by decide) rfl (by decide) dX7_init_174 ?_
  refine z_iinc (v := 4) (L' := [(0, .ref (kad K 124)), (1, .int 4)]) hc 1 [1, 0] dX7_init_175 rfl rfl (by decide) rfl ?_
  refine z_goto (tgt := 153) hc dX7_init_178 rfl ?_
  refine z_iload_n hc 1 dX7_init_153 rfl rfl ?_
  refine z_aload_n hc 0 dX7_init_154 rfl rfl ?_
  refine z_getR (T := TX7) (p0 := 124) hc in_X7 rfl (by decide) (rfl : kd 124 = 7) (by decide) 0 (by decide) tz_240 rfl rfl rfl dX7_init_155 ?_
  refine z_alenQ (p0 := 125) (N' := 6) (v := 6) hc (rfl : kd 125 = 14) (by decide) (by decide) rfl (by decide) rfl dX7_init_158 ?_
  refine z_icmp_geF (tgt := 181) hc (by decide) dX7_init_159 rfl ?_
  refine z_aload_n hc 0 dX7_init_162 rfl rfl ?_
  refine z_getR (T := TX7) (p0 := 124) hc in_X7 rfl (by decide) (rfl : kd 124 = 7) (by decide) 0 (by decide) tz_240 rfl rfl rfl dX7_init_163 ?_
  refine z_iload_n hc 1 dX7_init_166 rfl rfl ?_
  refine z_new (T := TX4) hc tyX4 tyX4_ok in_X4 rfl (by decide) (rfl : kd 183 = 4) hdt_X4 tz_46 tz_213 tz_34 (by decide) (by decide) dX7_init_167 ?_
  refine z_dup hc rfl dX7_init_170 ?_
  refine z_callIN (p0 := 183) (host := "SlabTurn") hc (z_X4_init (kl K) (kV K) 183 (rfl : kd 183 = 4) _ _) mi_X4 (List.mem_of_getElem? (i := 6) rfl) (Nat.le_of_ble_eq_true rfl) ⟨by decide, by decide⟩ (by decide) (by decide) dX7_init_171 ?_
  refine z_aastore (p0 := 125) (v := 183) (N' := 6) (C := RX4) (T := TX4) (N := 2) hc (rfl : kd 125 = 14) (by decide) (fun _ => rfl) rfl (by decide) (by decide) (by decide) (rfl : kd 183 = 4) (by decide) rfl (by decide) dX7_init_174 ?_
  refine z_iinc (v := 5) (L' := [(0, .ref (kad K 124)), (1, .int 5)]) hc 1 [1, 0] dX7_init_175 rfl rfl (by decide) rfl ?_
  refine z_goto (tgt := 153) hc dX7_init_178 rfl ?_
  refine z_iload_n hc 1 dX7_init_153 rfl rfl ?_
  refine z_aload_n hc 0 dX7_init_154 rfl rfl ?_
  refine z_getR (T := TX7) (p0 := 124) hc in_X7 rfl (by decide) (rfl : kd 124 = 7) (by decide) 0 (by decide) tz_240 rfl rfl rfl dX7_init_155 ?_
  refine z_alenQ (p0 := 125) (N' := 6) (v := 6) hc (rfl : kd 125 = 14) (by decide) (by decide) rfl (by decide) rfl dX7_init_158 ?_
  refine z_icmp_geF (tgt := 181) hc (by decide) dX7_init_159 rfl ?_
  refine z_aload_n hc 0 dX7_init_162 rfl rfl ?_
  refine z_getR (T := TX7) (p0 := 124) hc in_X7 rfl (by decide) (rfl : kd 124 = 7) (by decide) 0 (by decide) tz_240 rfl rfl rfl dX7_init_163 ?_
  refine z_iload_n hc 1 dX7_init_166 rfl rfl ?_
  refine z_new (T := TX4) hc tyX4 tyX4_ok in_X4 rfl (by decide) (rfl : kd 185 = 4) hdt_X4 tz_46 tz_213 tz_34 (by decide) (by decide) dX7_init_167 ?_
  refine z_dup hc rfl dX7_init_170 ?_
  refine z_callIN (p0 := 185) (host := "SlabTurn") hc (z_X4_init (kl K) (kV K) 185 (rfl : kd 185 = 4) _ _) mi_X4 (List.mem_of_getElem? (i := 6) rfl) (Nat.le_of_ble_eq_true rfl) ⟨by decide, by decide⟩ (by decide) (by decide) dX7_init_171 ?_
  refine z_aastore (p0 := 125) (v := 185) (N' := 6) (C := RX4) (T := TX4) (N := 2) hc (rfl : kd 125 = 14) (by decide) (fun _ => rfl) rfl (by decide) (by decide) (by decide) (rfl : kd 185 = 4) (by decide) rfl (by decide) dX7_init_174 ?_
  refine z_iinc (v := 6) (L' := [(0, .ref (kad K 124)), (1, .int 6)]) hc 1 [1, 0] dX7_init_175 rfl rfl (by decide) rfl ?_
  refine z_goto (tgt := 153) hc dX7_init_178 rfl ?_
  refine z_iload_n hc 1 dX7_init_153 rfl rfl ?_
  refine z_aload_n hc 0 dX7_init_154 rfl rfl ?_
  refine z_getR (T := TX7) (p0 := 124) hc in_X7 rfl (by decide) (rfl : kd 124 = 7) (by decide) 0 (by decide) tz_240 rfl rfl rfl dX7_init_155 ?_
  refine z_alenQ (p0 := 125) (N' := 6) (v := 6) hc (rfl : kd 125 = 14) (by decide) (by decide) rfl (by decide) rfl dX7_init_158 ?_
  refine z_icmp_geT (tgt := 181) hc (by decide) dX7_init_159 rfl ?_
  refine z_iconst (v := 0) hc rfl dX7_init_181 ?_
  refine z_istore_n (L' := [(0, .ref (kad K 124)), (1, .int 0)]) hc [1, 0] dX7_init_182 rfl (by decide) rfl ?_
  refine z_iload_n hc 1 dX7_init_183 rfl rfl ?_
  refine z_aload_n hc 0 dX7_init_184 rfl rfl ?_
  refine z_getR (T := TX7) (p0 := 124) hc in_X7 rfl (by decide) (rfl : kd 124 = 7) (by decide) 1 (by decide) tz_241 rfl rfl rfl dX7_init_185 ?_
  refine z_alenQ (p0 := 126) (N' := 4) (v := 4) hc (rfl : kd 126 = 16) (by decide) (by decide) rfl (by decide) rfl dX7_init_188 ?_
  refine z_icmp_geF (tgt := 211) hc (by decide) dX7_init_189 rfl ?_
  refine z_aload_n hc 0 dX7_init_192 rfl rfl ?_
  refine z_getR (T := TX7) (p0 := 124) hc in_X7 rfl (by decide) (rfl : kd 124 = 7) (by decide) 1 (by decide) tz_241 rfl rfl rfl dX7_init_193 ?_
  refine z_iload_n hc 1 dX7_init_196 rfl rfl ?_
  refine z_new (T := TX6) hc tyX6 tyX6_ok in_X6 rfl (by decide) (rfl : kd 187 = 6) hdt_X6 tz_48 tz_226 tz_35 (by decide) (by decide) dX7_init_197 ?_
  refine z_dup hc rfl dX7_init_200 ?_
  refine z_callIN (p0 := 187) (host := "SlabTurn") hc (z_X6_init (kl K) (kV K) 187 (rfl : kd 187 = 6) _ _) mi_X6 (List.mem_of_getElem? (i := 7) rfl) (Nat.le_of_ble_eq_true rfl) ⟨by decide, by decide⟩ (by decide) (by decide) dX7_init_201 ?_
  refine z_aastore (p0 := 126) (v := 187) (N' := 4) (C := RX6) (T := TX6) (N := 2) hc (rfl : kd 126 = 16) (by decide) (fun _ => rfl) rfl (by decide) (by decide) (by decide) (rfl : kd 187 = 6) (by decide) rfl (by decide) dX7_init_204 ?_
  refine z_iinc (v := 1) (L' := [(0, .ref (kad K 124)), (1, .int 1)]) hc 1 [1, 0] dX7_init_205 rfl rfl (by decide) rfl ?_
  refine z_goto (tgt := 183) hc dX7_init_208 rfl ?_
  refine z_iload_n hc 1 dX7_init_183 rfl rfl ?_
  refine z_aload_n hc 0 dX7_init_184 rfl rfl ?_
  refine z_getR (T := TX7) (p0 := 124) hc in_X7 rfl (by decide) (rfl : kd 124 = 7) (by decide) 1 (by decide) tz_241 rfl rfl rfl dX7_init_185 ?_
  refine z_alenQ (p0 := 126) (N' := 4) (v := 4) hc (rfl : kd 126 = 16) (by decide) (by decide) rfl (by decide) rfl dX7_init_188 ?_
  refine z_icmp_geF (tgt := 211) hc (by decide) dX7_init_189 rfl ?_
  refine z_aload_n hc 0 dX7_init_192 rfl rfl ?_
  refine z_getR (T := TX7) (p0 := 124) hc in_X7 rfl (by decide) (rfl : kd 124 = 7) (by decide) 1 (by decide) tz_241 rfl rfl rfl dX7_init_193 ?_
  refine z_iload_n hc 1 dX7_init_196 rfl rfl ?_
  refine z_new (T := TX6) hc tyX6 tyX6_ok in_X6 rfl (by decide) (rfl : kd 189 = 6) hdt_X6 tz_48 tz_226 tz_35 (by decide) (by decide) dX7_init_197 ?_
  refine z_dup hc rfl dX7_init_200 ?_
  refine z_callIN (p0 := 189) (host := "SlabTurn") hc (z_X6_init (kl K) (kV K) 189 (rfl : kd 189 = 6) _ _) mi_X6 (List.mem_of_getElem? (i := 7) rfl) (Nat.le_of_ble_eq_true rfl) ⟨by decide, by decide⟩ (by decide) (by decide) dX7_init_201 ?_
  refine z_aastore (p0 := 126) (v := 189) (N' := 4) (C := RX6) (T := TX6) (N := 2) hc (rfl : kd 126 = 16) (by decide) (fun _ => rfl) rfl (by decide) (by decide) (by decide) (rfl : kd 189 = 6) (by decide) rfl (by decide) dX7_init_204 ?_
  refine z_iinc (v := 2) (L' := [(0, .ref (kad K 124)), (1, .int 2)]) hc 1 [1, 0] dX7_init_205 rfl rfl (by decide) rfl ?_
  refine z_goto (tgt := 183) hc dX7_init_208 rfl ?_
  refine z_iload_n hc 1 dX7_init_183 rfl rfl ?_
  refine z_aload_n hc 0 dX7_init_184 rfl rfl ?_
  refine z_getR (T := TX7) (p0 := 124) hc in_X7 rfl (by decide) (rfl : kd 124 = 7) (by decide) 1 (by decide) tz_241 rfl rfl rfl dX7_init_185 ?_
  refine z_alenQ (p0 := 126) (N' := 4) (v := 4) hc (rfl : kd 126 = 16) (by decide) (by decide) rfl (by decide) rfl dX7_init_188 ?_
  refine z_icmp_geF (tgt := 211) hc (by decide) dX7_init_189 rfl ?_
  refine z_aload_n hc 0 dX7_init_192 rfl rfl ?_
  refine z_getR (T := TX7) (p0 := 124) hc in_X7 rfl (by decide) (rfl : kd 124 = 7) (by decide) 1 (by decide) tz_241 rfl rfl rfl dX7_init_193 ?_
  refine z_iload_n hc 1 dX7_init_196 rfl rfl ?_
  refine z_new (T := TX6) hc tyX6 tyX6_ok in_X6 rfl (by decide) (rfl : kd 191 = 6) hdt_X6 tz_48 tz_226 tz_35 (by decide) (by decide) dX7_init_197 ?_
  refine z_dup hc rfl dX7_init_200 ?_
  refine z_callIN (p0 := 191) (host := "SlabTurn") hc (z_X6_init (kl K) (kV K) 191 (rfl : kd 191 = 6) _ _) mi_X6 (List.mem_of_getElem? (i := 7) rfl) (Nat.le_of_ble_eq_true rfl) ⟨by decide, by decide⟩ (by decide) (by decide) dX7_init_201 ?_
  refine z_aastore (p0 := 126) (v := 191) (N' := 4) (C := RX6) (T := TX6) (N := 2) hc (rfl : kd 126 = 16) (by decide) (fun _ => rfl) rfl (by decide) (by decide) (by decide) (rfl : kd 191 = 6) (by decide) rfl (by decide) dX7_init_204 ?_
  refine z_iinc (v := 3) (L' := [(0, .ref (kad K 124)), (1, .int 3)]) hc 1 [1, 0] dX7_init_205 rfl rfl (by decide) rfl ?_
  refine z_goto (tgt := 183) hc dX7_init_208 rfl ?_
  refine z_iload_n hc 1 dX7_init_183 rfl rfl ?_
  refine z_aload_n hc 0 dX7_init_184 rfl rfl ?_
  refine z_getR (T := TX7) (p0 := 124) hc in_X7 rfl (by decide) (rfl : kd 124 = 7) (by decide) 1 (by decide) tz_241 rfl rfl rfl dX7_init_185 ?_
  refine z_alenQ (p0 := 126) (N' := 4) (v := 4) hc (rfl : kd 126 = 16) (by decide) (by decide) rfl (by decide) rfl dX7_init_188 ?_
  refine z_icmp_geF (tgt := 211) hc (by decide) dX7_init_189 rfl ?_
  refine z_aload_n hc 0 dX7_init_192 rfl rfl ?_
  refine z_getR (T := TX7) (p0 := 124) hc in_X7 rfl (by decide) (rfl : kd 124 = 7) (by decide) 1 (by decide) tz_241 rfl rfl rfl dX7_init_193 ?_
  refine z_iload_n hc 1 dX7_init_196 rfl rfl ?_
  refine z_new (T := TX6) hc tyX6 tyX6_ok in_X6 rfl (by decide) (rfl : kd 193 = 6) hdt_X6 tz_48 tz_226 tz_35 (by decide) (by decide) dX7_init_197 ?_
  refine z_dup hc rfl dX7_init_200 ?_
  refine z_callIN (p0 := 193) (host := "SlabTurn") hc (z_X6_init (kl K) (kV K) 193 (rfl : kd 193 = 6) _ _) mi_X6 (List.mem_of_getElem? (i := 7) rfl) (Nat.le_of_ble_eq_true rfl) ⟨by decide, by decide⟩ (by decide) (by decide) dX7_init_201 ?_
  refine z_aastore (p0 := 126) (v := 193) (N' := 4) (C := RX6) (T := TX6) (N := 2) hc (rfl : kd 126 = 16) (by decide) (fun _ => rfl) rfl (by decide) (by decide) (by decide) (rfl : kd 193 = 6) (by decide) rfl (by decide) dX7_init_204 ?_
  refine z_iinc (v := 4) (L' := [(0, .ref (kad K 124)), (1, .int 4)]) hc 1 [1, 0] dX7_init_205 rfl rfl (by decide) rfl ?_
  refine z_goto (tgt := 183) hc dX7_init_208 rfl ?_
  refine z_iload_n hc 1 dX7_init_183 rfl rfl ?_
  refine z_aload_n hc 0 dX7_init_184 rfl rfl ?_
  refine z_getR (T := TX7) (p0 := 124) hc in_X7 rfl (by decide) (rfl : kd 124 = 7) (by decide) 1 (by decide) tz_241 rfl rfl rfl dX7_init_185 ?_
  refine z_alenQ (p0 := 126) (N' := 4) (v := 4) hc (rfl : kd 126 = 16) (by decide) (by decide) rfl (by decide) rfl dX7_init_188 ?_
  refine z_icmp_geT (tgt := 211) hc (by decide) dX7_init_189 rfl ?_
  refine z_iconst (v := 0) hc rfl dX7_init_211 ?_
  refine z_istore_n (L' := [(0, .ref (kad K 124)), (1, .int 0)]) hc [1, 0] dX7_init_212 rfl (by decide) rfl ?_
  refine z_iload_n hc 1 dX7_init_213 rfl rfl ?_
  refine z_aload_n hc 0 dX7_init_214 rfl rfl ?_
  refine z_getR (T := TX7) (p0 := 124) hc in_X7 rfl (by decide) (rfl : kd 124 = 7) (by decide) 2 (by decide) tz_242 rfl rfl rfl dX7_init_215 ?_
  refine z_alenQ (p0 := 127) (N' := 4) (v := 4) hc (rfl : kd 127 = 15) (by decide) (by decide) rfl (by decide) rfl dX7_init_218 ?_
  refine z_icmp_geF (tgt := 241) hc (by decide) dX7_init_219 rfl ?_
  refine z_aload_n hc 0 dX7_init_222 rfl rfl ?_
  refine z_getR (T := TX7) (p0 := 124) hc in_X7 rfl (by decide) (rfl : kd 124 = 7) (by decide) 2 (by decide) tz_242 rfl rfl rfl dX7_init_223 ?_
  refine z_iload_n hc 1 dX7_init_226 rfl rfl ?_
  refine z_new (T := TX5) hc tyX5 tyX5_ok in_X5 rfl (by decide) (rfl : kd 195 = 5) hdt_X5 tz_50 tz_163 tz_32 (by decide) (by decide) dX7_init_227 ?_
  refine z_dup hc rfl dX7_init_230 ?_
  refine z_callIN (p0 := 195) (host := "SlabTurn") hc (z_X5_init (kl K) (kV K) 195 (rfl : kd 195 = 5) _ _) mi_X5 (List.mem_of_getElem? (i := 3) rfl) (Nat.le_of_ble_eq_true rfl) ⟨by decide, by decide⟩ (by decide) (by decide) dX7_init_231 ?_
  refine z_aastore (p0 := 127) (v := 195) (N' := 4) (C := RX5) (T := TX5) (N := 5) hc (rfl : kd 127 = 15) (by decide) (fun _ => rfl) rfl (by decide) (by decide) (by decide) (rfl : kd 195 = 5) (by decide) rfl (by decide) dX7_init_234 ?_
  refine z_iinc (v := 1) (L' := [(0, .ref (kad K 124)), (1, .int 1)]) hc 1 [1, 0] dX7_init_235 rfl rfl (by decide) rfl ?_
  refine z_goto (tgt := 213) hc dX7_init_238 rfl ?_
  refine z_iload_n hc 1 dX7_init_213 rfl rfl ?_
  refine z_aload_n hc 0 dX7_init_214 rfl rfl ?_
  refine z_getR (T := TX7) (p0 := 124) hc in_X7 rfl (by decide) (rfl : kd 124 = 7) (by decide) 2 (by decide) tz_242 rfl rfl rfl dX7_init_215 ?_
  refine z_alenQ (p0 := 127) (N' := 4) (v := 4) hc (rfl : kd 127 = 15) (by decide) (by decide) rfl (by decide) rfl dX7_init_218 ?_
  refine z_icmp_geF (tgt := 241) hc (by decide) dX7_init_219 rfl ?_
  refine z_aload_n hc 0 dX7_init_222 rfl rfl ?_
  refine z_getR (T := TX7) (p0 := 124) hc in_X7 rfl (by decide) (rfl : kd 124 = 7) (by decide) 2 (by decide) tz_242 rfl rfl rfl dX7_init_223 ?_
  refine z_iload_n hc 1 dX7_init_226 rfl rfl ?_
  refine z_new (T := TX5) hc tyX5 tyX5_ok in_X5 rfl (by decide) (rfl : kd 196 = 5) hdt_X5 tz_50 tz_163 tz_32 (by decide) (by decide) dX7_init_227 ?_
  refine z_dup hc rfl dX7_init_230 ?_
  refine z_callIN (p0 := 196) (host := "SlabTurn") hc (z_X5_init (kl K) (kV K) 196 (rfl : kd 196 = 5) _ _) mi_X5 (List.mem_of_getElem? (i := 3) rfl) (Nat.le_of_ble_eq_true rfl) ⟨by decide, by decide⟩ (by decide) (by decide) dX7_init_231 ?_
  refine z_aastore (p0 := 127) (v := 196) (N' := 4) (C := RX5) (T := TX5) (N := 5) hc (rfl : kd 127 = 15) (by decide) (fun _ => rfl) rfl (by decide) (by decide) (by decide) (rfl : kd 196 = 5) (by decide) rfl (by decide) dX7_init_234 ?_
  refine z_iinc (v := 2) (L' := [(0, .ref (kad K 124)), (1, .int 2)]) hc 1 [1, 0] dX7_init_235 rfl rfl (by decide) rfl ?_
  refine z_goto (tgt := 213) hc dX7_init_238 rfl ?_
  refine z_iload_n hc 1 dX7_init_213 rfl rfl ?_
  refine z_aload_n hc 0 dX7_init_214 rfl rfl ?_
  refine z_getR (T := TX7) (p0 := 124) hc in_X7 rfl (by decide) (rfl : kd 124 = 7) (by decide) 2 (by decide) tz_242 rfl rfl rfl dX7_init_215 ?_
  refine z_alenQ (p0 := 127) (N' := 4) (v := 4) hc (rfl : kd 127 = 15) (by decide) (by decide) rfl (by decide) rfl dX7_init_218 ?_
  refine z_icmp_geF (tgt := 241) hc (by decide) dX7_init_219 rfl ?_
  refine z_aload_n hc 0 dX7_init_222 rfl rfl ?_
  refine z_getR (T := TX7) (p0 := 124) hc in_X7 rfl (by decide) (rfl : kd 124 = 7) (by decide) 2 (by decide) tz_242 rfl rfl rfl dX7_init_223 ?_
  refine z_iload_n hc 1 dX7_init_226 rfl rfl ?_
  refine z_new (T := TX5) hc tyX5 tyX5_ok in_X5 rfl (by decide) (rfl : kd 197 = 5) hdt_X5 tz_50 tz_163 tz_32 (by decide) (by decide) dX7_init_227 ?_
  refine z_dup hc rfl dX7_init_230 ?_
  refine z_callIN (p0 := 197) (host := "SlabTurn") hc (z_X5_init (kl K) (kV K) 197 (rfl : kd 197 = 5) _ _) mi_X5 (List.mem_of_getElem? (i := 3) rfl) (Nat.le_of_ble_eq_true rfl) ⟨by decide, by decide⟩ (by decide) (by decide) dX7_init_231 ?_
  refine z_aastore (p0 := 127) (v := 197) (N' := 4) (C := RX5) (T := TX5) (N := 5) hc (rfl : kd 127 = 15) (by decide) (fun _ => rfl) rfl (by decide) (by decide) (by decide) (rfl : kd 197 = 5) (by decide) rfl (by decide) dX7_init_234 ?_
  refine z_iinc (v := 3) (L' := [(0, .ref (kad K 124)), (1, .int 3)]) hc 1 [1, 0] dX7_init_235 rfl rfl (by decide) rfl ?_
  refine z_goto (tgt := 213) hc dX7_init_238 rfl ?_
  refine z_iload_n hc 1 dX7_init_213 rfl rfl ?_
  refine z_aload_n hc 0 dX7_init_214 rfl rfl ?_
  refine z_getR (T := TX7) (p0 := 124) hc in_X7 rfl (by decide) (rfl : kd 124 = 7) (by decide) 2 (by decide) tz_242 rfl rfl rfl dX7_init_215 ?_
  refine z_alenQ (p0 := 127) (N' := 4) (v := 4) hc (rfl : kd 127 = 15) (by decide) (by decide) rfl (by decide) rfl dX7_init_218 ?_
  refine z_icmp_geF (tgt := 241) hc (by decide) dX7_init_219 rfl ?_
  refine z_aload_n hc 0 dX7_init_222 rfl rfl ?_
  refine z_getR (T := TX7) (p0 := 124) hc in_X7 rfl (by decide) (rfl : kd 124 = 7) (by decide) 2 (by decide) tz_242 rfl rfl rfl dX7_init_223 ?_
  refine z_iload_n hc 1 dX7_init_226 rfl rfl ?_
  refine z_new (T := TX5) hc tyX5 tyX5_ok in_X5 rfl (by decide) (rfl : kd 198 = 5) hdt_X5 tz_50 tz_163 tz_32 (by decide) (by decide) dX7_init_227 ?_
  refine z_dup hc rfl dX7_init_230 ?_
  refine z_callIN (p0 := 198) (host := "SlabTurn") hc (z_X5_init (kl K) (kV K) 198 (rfl : kd 198 = 5) _ _) mi_X5 (List.mem_of_getElem? (i := 3) rfl) (Nat.le_of_ble_eq_true rfl) ⟨by decide, by decide⟩ (by decide) (by decide) dX7_init_231 ?_
  refine z_aastore (p0 := 127) (v := 198) (N' := 4) (C := RX5) (T := TX5) (N := 5) hc (rfl : kd 127 = 15) (by decide) (fun _ => rfl) rfl (by decide) (by decide) (by decide) (rfl : kd 198 = 5) (by decide) rfl (by decide) dX7_init_234 ?_
  refine z_iinc (v := 4) (L' := [(0, .ref (kad K 124)), (1, .int 4)]) hc 1 [1, 0] dX7_init_235 rfl rfl (by decide) rfl ?_
  refine z_goto (tgt := 213) hc dX7_init_238 rfl ?_
  refine z_iload_n hc 1 dX7_init_213 rfl rfl ?_
  refine z_aload_n hc 0 dX7_init_214 rfl rfl ?_
  refine z_getR (T := TX7) (p0 := 124) hc in_X7 rfl (by decide) (rfl : kd 124 = 7) (by decide) 2 (by decide) tz_242 rfl rfl rfl dX7_init_215 ?_
  refine z_alenQ (p0 := 127) (N' := 4) (v := 4) hc (rfl : kd 127 = 15) (by decide) (by decide) rfl (by decide) rfl dX7_init_218 ?_
  refine z_icmp_geT (tgt := 241) hc (by decide) dX7_init_219 rfl ?_
  refine z_iconst (v := 0) hc rfl dX7_init_241 ?_
  refine z_istore_n (L' := [(0, .ref (kad K 124)), (1, .int 0)]) hc [1, 0] dX7_init_242 rfl (by decide) rfl ?_
  refine z_iload_n hc 1 dX7_init_243 rfl rfl ?_
  refine z_aload_n hc 0 dX7_init_244 rfl rfl ?_
  refine z_getR (T := TX7) (p0 := 124) hc in_X7 rfl (by decide) (rfl : kd 124 = 7) (by decide) 3 (by decide) tz_243 rfl rfl rfl dX7_init_245 ?_
  refine z_alenQ (p0 := 128) (N' := 4) (v := 4) hc (rfl : kd 128 = 13) (by decide) (by decide) rfl (by decide) rfl dX7_init_248 ?_
  refine z_icmp_geF (tgt := 271) hc (by decide) dX7_init_249 rfl ?_
  refine z_aload_n hc 0 dX7_init_252 rfl rfl ?_
  refine z_getR (T := TX7) (p0 := 124) hc in_X7 rfl (by decide) (rfl : kd 124 = 7) (by decide) 3 (by decide) tz_243 rfl rfl rfl dX7_init_253 ?_
  refine z_iload_n hc 1 dX7_init_256 rfl rfl ?_
  refine z_new (T := TX2) hc tyX2 tyX2_ok in_X2 rfl (by decide) (rfl : kd 199 = 2) hdt_X2 tz_52 tz_61 tz_30 (by decide) (by decide) dX7_init_257 ?_
  refine z_dup hc rfl dX7_init_260 ?_
  refine z_callIN (p0 := 199) (host := "SlabTurn") hc (z_X2_init (kl K) (kV K) 199 (rfl : kd 199 = 2) _ _) mi_X2 (List.mem_of_getElem? (i := 4) rfl) (Nat.le_of_ble_eq_true rfl) ⟨by decide, by decide⟩ (by decide) (by decide) dX7_init_261 ?_
  refine z_aastore (p0 := 128) (v := 199) (N' := 4) (C := RX2) (T := TX2) (N := 6) hc (rfl : kd 128 = 13) (by decide) (fun _ => rfl) rfl (by decide) (by decide) (by decide) (rfl : kd 199 = 2) (by decide) rfl (by decide) dX7_init_264 ?_
  refine z_iinc (v := 1) (L' := [(0, .ref (kad K 124)), (1, .int 1)]) hc 1 [1, 0] dX7_init_265 rfl rfl (by decide) rfl ?_
  refine z_goto (tgt := 243) hc dX7_init_268 rfl ?_
  refine z_iload_n hc 1 dX7_init_243 rfl rfl ?_
  refine z_aload_n hc 0 dX7_init_244 rfl rfl ?_
  refine z_getR (T := TX7) (p0 := 124) hc in_X7 rfl (by decide) (rfl : kd 124 = 7) (by decide) 3 (by decide) tz_243 rfl rfl rfl dX7_init_245 ?_
  refine z_alenQ (p0 := 128) (N' := 4) (v := 4) hc (rfl : kd 128 = 13) (by decide) (by decide) rfl (by decide) rfl dX7_init_248 ?_
  refine z_icmp_geF (tgt := 271) hc (by decide) dX7_init_249 rfl ?_
  refine z_aload_n hc 0 dX7_init_252 rfl rfl ?_
  refine z_getR (T := TX7) (p0 := 124) hc in_X7 rfl (by decide) (rfl : kd 124 = 7) (by decide) 3 (by decide) tz_243 rfl rfl rfl dX7_init_253 ?_
  refine z_iload_n hc 1 dX7_init_256 rfl rfl ?_
  refine z_new (T := TX2) hc tyX2 tyX2_ok in_X2 rfl (by decide) (rfl : kd 203 = 2) hdt_X2 tz_52 tz_61 tz_30 (by decide) (by decide) dX7_init_257 ?_
  refine z_dup hc rfl dX7_init_260 ?_
  refine z_callIN (p0 := 203) (host := "SlabTurn") hc (z_X2_init (kl K) (kV K) 203 (rfl : kd 203 = 2) _ _) mi_X2 (List.mem_of_getElem? (i := 4) rfl) (Nat.le_of_ble_eq_true rfl) ⟨by decide, by decide⟩ (by decide) (by decide) dX7_init_261 ?_
  refine z_aastore (p0 := 128) (v := 203) (N' := 4) (C := RX2) (T := TX2) (N := 6) hc (rfl : kd 128 = 13) (by decide) (fun _ => rfl) rfl (by decide) (by decide) (by decide) (rfl : kd 203 = 2) (by decide) rfl (by decide) dX7_init_264 ?_
  refine z_iinc (v := 2) (L' := [(0, .ref (kad K 124)), (1, .int 2)]) hc 1 [1, 0] dX7_init_265 rfl rfl (by decide) rfl ?_
  refine z_goto (tgt := 243) hc dX7_init_268 rfl ?_
  refine z_iload_n hc 1 dX7_init_243 rfl rfl ?_
  refine z_aload_n hc 0 dX7_init_244 rfl rfl ?_
  refine z_getR (T := TX7) (p0 := 124) hc in_X7 rfl (by decide) (rfl : kd 124 = 7) (by decide) 3 (by decide) tz_243 rfl rfl rfl dX7_init_245 ?_
  refine z_alenQ (p0 := 128) (N' := 4) (v := 4) hc (rfl : kd 128 = 13) (by decide) (by decide) rfl (by decide) rfl dX7_init_248 ?_
  refine z_icmp_geF (tgt := 271) hc (by decide) dX7_init_249 rfl ?_
  refine z_aload_n hc 0 dX7_init_252 rfl rfl ?_
  refine z_getR (T := TX7) (p0 := 124) hc in_X7 rfl (by decide) (rfl : kd 124 = 7) (by decide) 3 (by decide) tz_243 rfl rfl rfl dX7_init_253 ?_
  refine z_iload_n hc 1 dX7_init_256 rfl rfl ?_
  refine z_new (T := TX2) hc tyX2 tyX2_ok in_X2 rfl (by decide) (rfl : kd 207 = 2) hdt_X2 tz_52 tz_61 tz_30 (by decide) (by decide) dX7_init_257 ?_
  refine z_dup hc rfl dX7_init_260 ?_
  refine z_callIN (p0 := 207) (host := "SlabTurn") hc (z_X2_init (kl K) (kV K) 207 (rfl : kd 207 = 2) _ _) mi_X2 (List.mem_of_getElem? (i := 4) rfl) (Nat.le_of_ble_eq_true rfl) ⟨by decide, by decide⟩ (by decide) (by decide) dX7_init_261 ?_
  refine z_aastore (p0 := 128) (v := 207) (N' := 4) (C := RX2) (T := TX2) (N := 6) hc (rfl : kd 128 = 13) (by decide) (fun _ => rfl) rfl (by decide) (by decide) (by decide) (rfl : kd 207 = 2) (by decide) rfl (by decide) dX7_init_264 ?_
  refine z_iinc (v := 3) (L' := [(0, .ref (kad K 124)), (1, .int 3)]) hc 1 [1, 0] dX7_init_265 rfl rfl (by decide) rfl ?_
  refine z_goto (tgt := 243) hc dX7_init_268 rfl ?_
  refine z_iload_n hc 1 dX7_init_243 rfl rfl ?_
  refine z_aload_n hc 0 dX7_init_244 rfl rfl ?_
  refine z_getR (T := TX7) (p0 := 124) hc in_X7 rfl (by decide) (rfl : kd 124 = 7) (by decide) 3 (by decide) tz_243 rfl rfl rfl dX7_init_245 ?_
  refine z_alenQ (p0 := 128) (N' := 4) (v := 4) hc (rfl : kd 128 = 13) (by decide) (by decide) rfl (by decide) rfl dX7_init_248 ?_
  refine z_icmp_geF (tgt := 271) hc (by decide) dX7_init_249 rfl ?_
  refine z_aload_n hc 0 dX7_init_252 rfl rfl ?_
  refine z_getR (T := TX7) (p0 := 124) hc in_X7 rfl (by decide) (rfl : kd 124 = 7) (by decide) 3 (by decide) tz_243 rfl rfl rfl dX7_init_253 ?_
  refine z_iload_n hc 1 dX7_init_256 rfl rfl ?_
  refine z_new (T := TX2) hc tyX2 tyX2_ok in_X2 rfl (by decide) (rfl : kd 211 = 2) hdt_X2 tz_52 tz_61 tz_30 (by decide) (by decide) dX7_init_257 ?_
  refine z_dup hc rfl dX7_init_260 ?_
  refine z_callIN (p0 := 211) (host := "SlabTurn") hc (z_X2_init (kl K) (kV K) 211 (rfl : kd 211 = 2) _ _) mi_X2 (List.mem_of_getElem? (i := 4) rfl) (Nat.le_of_ble_eq_true rfl) ⟨by decide, by decide⟩ (by decide) (by decide) dX7_init_261 ?_
  refine z_aastore (p0 := 128) (v := 211) (N' := 4) (C := RX2) (T := TX2) (N := 6) hc (rfl : kd 128 = 13) (by decide) (fun _ => rfl) rfl (by decide) (by decide) (by decide) (rfl : kd 211 = 2) (by decide) rfl (by decide) dX7_init_264 ?_
  refine z_iinc (v := 4) (L' := [(0, .ref (kad K 124)), (1, .int 4)]) hc 1 [1, 0] dX7_init_265 rfl rfl (by decide) rfl ?_
  refine z_goto (tgt := 243) hc dX7_init_268 rfl ?_
  refine z_iload_n hc 1 dX7_init_243 rfl rfl ?_
  refine z_aload_n hc 0 dX7_init_244 rfl rfl ?_
  refine z_getR (T := TX7) (p0 := 124) hc in_X7 rfl (by decide) (rfl : kd 124 = 7) (by decide) 3 (by decide) tz_243 rfl rfl rfl dX7_init_245 ?_
  refine z_alenQ (p0 := 128) (N' := 4) (v := 4) hc (rfl : kd 128 = 13) (by decide) (by decide) rfl (by decide) rfl dX7_init_248 ?_
  refine z_icmp_geT (tgt := 271) hc (by decide) dX7_init_249 rfl ?_
  refine z_iconst (v := 0) hc rfl dX7_init_271 ?_
  refine z_istore_n (L' := [(0, .ref (kad K 124)), (1, .int 0)]) hc [1, 0] dX7_init_272 rfl (by decide) rfl ?_
  refine z_iload_n hc 1 dX7_init_273 rfl rfl ?_
  refine z_aload_n hc 0 dX7_init_274 rfl rfl ?_
  refine z_getR (T := TX7) (p0 := 124) hc in_X7 rfl (by decide) (rfl : kd 124 = 7) (by decide) 5 (by decide) tz_245 rfl rfl rfl dX7_init_275 ?_
  refine z_alenQ (p0 := 140) (N' := 3) (v := 3) hc (rfl : kd 140 = 12) (by decide) (by decide) rfl (by decide) rfl dX7_init_278 ?_
  refine z_icmp_geF (tgt := 301) hc (by decide) dX7_init_279 rfl ?_
  refine z_aload_n hc 0 dX7_init_282 rfl rfl ?_
  refine z_getR (T := TX7) (p0 := 124) hc in_X7 rfl (by decide) (rfl : kd 124 = 7) (by decide) 5 (by decide) tz_245 rfl rfl rfl dX7_init_283 ?_
  refine z_iload_n hc 1 dX7_init_286 rfl rfl ?_
  refine z_new (T := TX0) hc tyX0 tyX0_ok in_X0 rfl (by decide) (rfl : kd 215 = 0) hdt_X0 tz_54 tz_55 tz_29 (by decide) (by decide) dX7_init_287 ?_
  refine z_dup hc rfl dX7_init_290 ?_
  refine z_callIN (p0 := 215) (host := "SlabTurn") hc (z_X0_init (kl K) (kV K) 215 (rfl : kd 215 = 0) _ _) mi_X0 (List.mem_of_getElem? (i := 0) rfl) (Nat.le_of_ble_eq_true rfl) ⟨by decide, by decide⟩ (by decide) (by decide) dX7_init_291 ?_
  refine z_aastore (p0 := 140) (v := 215) (N' := 3) (C := RX0) (T := TX0) (N := 17) hc (rfl : kd 140 = 12) (by decide) (fun _ => rfl) rfl (by decide) (by decide) (by decide) (rfl : kd 215 = 0) (by decide) rfl (by decide) dX7_init_294 ?_
  refine z_iinc (v := 1) (L' := [(0, .ref (kad K 124)), (1, .int 1)]) hc 1 [1, 0] dX7_init_295 rfl rfl (by decide) rfl ?_
  refine z_goto (tgt := 273) hc dX7_init_298 rfl ?_
  refine z_iload_n hc 1 dX7_init_273 rfl rfl ?_
  refine z_aload_n hc 0 dX7_init_274 rfl rfl ?_
  refine z_getR (T := TX7) (p0 := 124) hc in_X7 rfl (by decide) (rfl : kd 124 = 7) (by decide) 5 (by decide) tz_245 rfl rfl rfl dX7_init_275 ?_
  refine z_alenQ (p0 := 140) (N' := 3) (v := 3) hc (rfl : kd 140 = 12) (by decide) (by decide) rfl (by decide) rfl dX7_init_278 ?_
  refine z_icmp_geF (tgt := 301) hc (by decide) dX7_init_279 rfl ?_
  refine z_aload_n hc 0 dX7_init_282 rfl rfl ?_
  refine z_getR (T := TX7) (p0 := 124) hc in_X7 rfl (by decide) (rfl : kd 124 = 7) (by decide) 5 (by decide) tz_245 rfl rfl rfl dX7_init_283 ?_
  refine z_iload_n hc 1 dX7_init_286 rfl rfl ?_
  refine z_new (T := TX0) hc tyX0 tyX0_ok in_X0 rfl (by decide) (rfl : kd 226 = 0) hdt_X0 tz_54 tz_55 tz_29 (by decide) (by decide) dX7_init_287 ?_
  refine z_dup hc rfl dX7_init_290 ?_
  refine z_callIN (p0 := 226) (host := "SlabTurn") hc (z_X0_init (kl K) (kV K) 226 (rfl : kd 226 = 0) _ _) mi_X0 (List.mem_of_getElem? (i := 0) rfl) (Nat.le_of_ble_eq_true rfl) ⟨by decide, by decide⟩ (by decide) (by decide) dX7_init_291 ?_
  refine z_aastore (p0 := 140) (v := 226) (N' := 3) (C := RX0) (T := TX0) (N := 17) hc (rfl : kd 140 = 12) (by decide) (fun _ => rfl) rfl (by decide) (by decide) (by decide) (rfl : kd 226 = 0) (by decide) rfl (by decide) dX7_init_294 ?_
  refine z_iinc (v := 2) (L' := [(0, .ref (kad K 124)), (1, .int 2)]) hc 1 [1, 0] dX7_init_295 rfl rfl (by decide) rfl ?_
  refine z_goto (tgt := 273) hc dX7_init_298 rfl ?_
  refine z_iload_n hc 1 dX7_init_273 rfl rfl ?_
  refine z_aload_n hc 0 dX7_init_274 rfl rfl ?_
  refine z_getR (T := TX7) (p0 := 124) hc in_X7 rfl (by decide) (rfl : kd 124 = 7) (by decide) 5 (by decide) tz_245 rfl rfl rfl dX7_init_275 ?_
  refine z_alenQ (p0 := 140) (N' := 3) (v := 3) hc (rfl : kd 140 = 12) (by decide) (by decide) rfl (by decide) rfl dX7_init_278 ?_
  refine z_icmp_geF (tgt := 301) hc (by decide) dX7_init_279 rfl ?_
  refine z_aload_n hc 0 dX7_init_282 rfl rfl ?_
  refine z_getR (T := TX7) (p0 := 124) hc in_X7 rfl (by decide) (rfl : kd 124 = 7) (by decide) 5 (by decide) tz_245 rfl rfl rfl dX7_init_283 ?_
  refine z_iload_n hc 1 dX7_init_286 rfl rfl ?_
  refine z_new (T := TX0) hc tyX0 tyX0_ok in_X0 rfl (by decide) (rfl : kd 237 = 0) hdt_X0 tz_54 tz_55 tz_29 (by decide) (by decide) dX7_init_287 ?_
  refine z_dup hc rfl dX7_init_290 ?_
  refine z_callIN (p0 := 237) (host := "SlabTurn") hc (z_X0_init (kl K) (kV K) 237 (rfl : kd 237 = 0) _ _) mi_X0 (List.mem_of_getElem? (i := 0) rfl) (Nat.le_of_ble_eq_true rfl) ⟨by decide, by decide⟩ (by decide) (by decide) dX7_init_291 ?_
  refine z_aastore (p0 := 140) (v := 237) (N' := 3) (C := RX0) (T := TX0) (N := 17) hc (rfl : kd 140 = 12) (by decide) (fun _ => rfl) rfl (by decide) (by decide) (by decide) (rfl : kd 237 = 0) (by decide) rfl (by decide) dX7_init_294 ?_
  refine z_iinc (v := 3) (L' := [(0, .ref (kad K 124)), (1, .int 3)]) hc 1 [1, 0] dX7_init_295 rfl rfl (by decide) rfl ?_
  refine z_goto (tgt := 273) hc dX7_init_298 rfl ?_
  refine z_iload_n hc 1 dX7_init_273 rfl rfl ?_
  refine z_aload_n hc 0 dX7_init_274 rfl rfl ?_
  refine z_getR (T := TX7) (p0 := 124) hc in_X7 rfl (by decide) (rfl : kd 124 = 7) (by decide) 5 (by decide) tz_245 rfl rfl rfl dX7_init_275 ?_
  refine z_alenQ (p0 := 140) (N' := 3) (v := 3) hc (rfl : kd 140 = 12) (by decide) (by decide) rfl (by decide) rfl dX7_init_278 ?_
  refine z_icmp_geT (tgt := 301) hc (by decide) dX7_init_279 rfl ?_
  exact hret _ _ dX7_init_301

/-! ===== THE HEAP AS MAPS: (field number, address) to an int or a reference; (array, place) likewise; the next address. A field's number is 64 * its class's number in vwCl + its place in the table ===== -/
abbrev Hp : Type := (Nat → Nat → Int32) × (Nat → Nat → Option Nat) × (Nat → Nat → Int32) × (Nat → Nat → Option Nat) × Nat
abbrev hn (h : Hp) : Nat := h.2.2.2.2
def sI (h : Hp) (f a : Nat) (v : Int32) : Hp := (fun g b => if g = f ∧ b = a then v else h.1 g b, h.2)
def sR (h : Hp) (f a : Nat) (v : Option Nat) : Hp := (h.1, fun g b => if g = f ∧ b = a then v else h.2.1 g b, h.2.2)
def sA (h : Hp) (a i : Nat) (v : Int32) : Hp := (h.1, h.2.1, fun b j => if b = a ∧ j = i then v else h.2.2.1 b j, h.2.2.2)
def sQ (h : Hp) (a i : Nat) (v : Option Nat) : Hp := (h.1, h.2.1, h.2.2.1, fun b j => if b = a ∧ j = i then v else h.2.2.2.1 b j, h.2.2.2.2)
/-- a new cell at the next address, all of it 0 and null -/
def sN (h : Hp) : Hp := (fun g b => if b = hn h then 0 else h.1 g b, fun g b => if b = hn h then none else h.2.1 g b, fun b j => if b = hn h then 0 else h.2.2.1 b j, fun b j => if b = hn h then none else h.2.2.2.1 b j, hn h + 1)
def isRf (ci k : Nat) : Bool := match ci with
  | 1 => k == 0
  | 4 => k == 0
  | 5 => k == 1 || k == 2 || k == 3 || k == 4 || k == 11
  | 7 => k == 0 || k == 1 || k == 2
  | 8 => (Nat.ble 7 k && Nat.ble k 30) || Nat.ble 32 k
  | _ => false
def nfl (ci : Nat) : Nat := match ci with
  | 0 => 6 | 1 => 2 | 2 => 4 | 3 => 5 | 4 => 2 | 5 => 20 | 6 => 3 | 7 => 9 | _ => 41
def tyF (ci : Nat) : Nat → FieldType := match ci with
  | 0 => tyX0 | 1 => tyX1 | 2 => tyX2 | 3 => tyX3 | 4 => tyX4 | 5 => tyX5 | 6 => tyX6 | 7 => tyX7 | _ => tyX8
def fv (h : Hp) (ci a k : Nat) : Value := if isRf ci k = true then va_rf (h.2.1 (64 * ci + k) a) else .int (h.1 (64 * ci + k) a)
def flds (h : Hp) (ci a : Nat) : List Value := (List.range (nfl ci)).map (fv h ci a)
/-! the setting: launch, the tables' numbers, the array classes by kind, the first address, the kind and the length of every cell, the script -/
abbrev Ev : Type := Launch × va_G × (Nat → ClassId) × Nat × (Nat → Nat) × (Nat → Nat) × Nat × Nat × (Nat → Int32)
abbrev eL (E : Ev) : Launch := E.1
abbrev eD (E : Ev) : va_G := E.2.1
abbrev eC (E : Ev) : Nat → ClassId := E.2.2.1
abbrev eB (E : Ev) : Nat := E.2.2.2.1
abbrev eK (E : Ev) : Nat → Nat := E.2.2.2.2.1
abbrev eN (E : Ev) : Nat → Nat := E.2.2.2.2.2.1
abbrev eS (E : Ev) : Nat := E.2.2.2.2.2.2.1
abbrev eZ (E : Ev) : Nat := E.2.2.2.2.2.2.2.1
abbrev eX (E : Ev) : Nat → Int32 := E.2.2.2.2.2.2.2.2
def ent (E : Ev) (h : Hp) (a : Nat) : va_E :=
  if eK E a < 9 then .inr (eK E a, flds h (eK E a) a)
  else if eK E a < 11 then .inl (eC E (eK E a), eN E a, .inl (h.2.2.1 a))
  else .inl (eC E (eK E a), eN E a, .inr (.inr (.inr (.inr (h.2.2.2.1 a)))))
def pl (E : Ev) (h : Hp) : va_W := va_pl (List.range' (eB E) (hn h - eB E)) (ent E h)
def tysL (E : Ev) : List (ClassId × FieldType) := [(eC E 9, .int), (eC E 10, .boolean), (eC E 11, .object RX0), (eC E 12, .object RX1), (eC E 13, .object RX2), (eC E 14, .object RX5)]
def lw_good : List Cond := lw_tbl.filter goodWord
def KK (E : Ev) (s : State) : Prop := va_K (eD E) vwCl (tysL E) s ∧ (va_AO RX0 s ∧ va_AO RX1 s ∧ va_AO RX2 s ∧ va_AO RX5 s) ∧ (∀ w ∈ lw_tbl, (∃ a i x b, w = Cond.methodLinkNest a i x b) → va_Nw w s)
def HH (E : Ev) (s : State) (h : Hp) (H : Heap) : Prop := va_P (eD E) vwCl (pl E h) H ∧ eB E ≤ hn h ∧ H.size = hn h ∧ eS E < eB E ∧ va_X (eS E) (eZ E) (eX E) s H
def eA (E : Ev) : Nat → Prop := fun q => eB E ≤ q
/-- an object (or array) of a kind at an address that is in use -/
def Ob (E : Ev) (h : Hp) (ci a : Nat) : Prop := eK E a = ci ∧ eB E ≤ a ∧ a < hn h
/-! a method: its class, name, bytes, locals, answer -/
abbrev MD : Type := String × MethodName × ByteArray × Nat × Option FieldType
def WS (M : MD) : List Cond := Cond.code M.2.1 M.2.2.1 M.2.2.2.1 M.2.2.2.2 :: lw_good
def QQ (E : Ev) (Post : Option Value → Hp → Prop) : Array Value → State → Outcome → State → Prop := fun _ s o t => ∃ (v : Option Value) (h' : Hp), o = .returned v ∧ Post v h' ∧ KK E t ∧ HH E t h' t.heap ∧ va_F (eA E) s t
def Cn (E : Ev) (M : MD) (R : Room) (h : Hp) (args : List Value) (Post : Option Value → Hp → Prop) : Prop :=
  Met (eL E) M.2.1 (WS M) R (va_Pc args (fun U => KK E U ∧ eB E ≤ U.heap.size ∧ HH E U h U.heap)) (QQ E Post) R.cells R.slots (eA E)
def CX (E : Ev) (M : MD) (p : Program) (s : State) (m : MethodId) (args : Array Value) (meth : Method) (c : Code) : Prop :=
  p.tables.exec = Jvm.exec ∧ c.code = M.2.2.1 ∧ c.maxLocals = M.2.2.2.1 ∧ s.vm.findClass M.1 = some m.cls ∧ (∀ w ∈ WS M, w.before args s = true) ∧ meth.sig.returnType = M.2.2.2.2 ∧ meth.locks = false ∧ meth.name = M.2.1.name ∧ KK E s ∧ eB E ≤ s.heap.size
def LH (ls : Array Slot) (nL : Nat) (L : List (Option Value)) : Prop := ls.size = nL ∧ lv_wf ls ∧ ∀ (k : Nat) (v : Value), L[k]? = some (some v) → ls[k]? = some (.val v) ∧ v.category = 1
def G (E : Ev) (M : MD) (R : Room) (Post : Option Value → Hp → Prop) (pc : Nat) (L : List (Option Value)) (st : List Value) (h : Hp) (ac as : Nat) : Prop :=
  ∀ (p : Program) (e : Env) (s : State) (m : MethodId) (args : Array Value) (below : List Frame) (meth : Method) (c : Code) (H : Heap) (locs : List Loc) (cells slots : Nat) (ls : Array Slot),
    CX E M p s m args meth c → HH E s h H → va_S (eA E) s.heap H locs → LH ls M.2.2.2.1 L → cells + ac = R.cells → slots + as = R.slots →
    W p (eL E) e R s m args below meth c H locs cells slots (MQ below (QQ E Post) args s R.cells R.slots (eA E)) (F0 m pc ls st)
/-! ===== locals ===== -/
def asL (L : List (Option Value)) : List (Nat × Value) := (List.range L.length).filterMap (fun k => (L[k]?.join).map (fun v => (k, v)))
theorem mem_asL {L : List (Option Value)} {k : Nat} {v : Value} : (k, v) ∈ asL L ↔ L[k]? = some (some v) := by
  unfold asL
  rw [List.mem_filterMap]
  constructor
  · rintro ⟨j, -, h⟩
    cases hj : L[j]? with
    | none => rw [hj] at h; cases h
    | some o =>
      cases o with
      | none => rw [hj] at h; cases h
      | some x =>
        rw [hj] at h
        simp at h
        obtain ⟨rfl, rfl⟩ := h
        exact hj
  · intro h
    refine ⟨k, List.mem_range.mpr (List.getElem?_eq_some_iff.mp h).1, ?_⟩
    rw [h]
    rfl
theorem LH.has {ls : Array Slot} {nL : Nat} {L : List (Option Value)} (h : LH ls nL L) : lv_has ls nL (asL L) := ⟨h.1, h.2.1, fun q hq => (h.2.2 q.1 q.2 (mem_asL.mp hq)).1⟩
theorem LH.at {ls : Array Slot} {nL : Nat} {L : List (Option Value)} (h : LH ls nL L) {k : Nat} {v : Value} (hk : L[k]? = some (some v)) : ls[k]? = some (.val v) := (h.2.2 k v hk).1
theorem LH.set {ls ls' : Array Slot} {nL i : Nat} {L : List (Option Value)} {x : Value} (h : LH ls nL L) (hx : x.category = 1) (h' : lv_has ls' nL ((i, x) :: (asL L).filter (fun q => !(q.1 == i) && !(q.1 + 1 == i && q.2.category == 2)))) : LH ls' nL (L.set i (some x)) := by
  refine ⟨h'.1, h'.2.1, fun k v hk => ?_⟩
  by_cases hki : k = i
  · subst hki
    have hlt : k < L.length := by
      have := (List.getElem?_eq_some_iff.mp hk).1
      rwa [List.length_set] at this
    rw [List.getElem?_set_self hlt] at hk
    obtain rfl : x = v := by simpa using hk
    exact ⟨h'.2.2 (k, x) List.mem_cons_self, hx⟩
  · rw [List.getElem?_set_ne (Ne.symm hki)] at hk
    have hc := (h.2.2 k v hk).2
    refine ⟨h'.2.2 (k, v) (List.mem_cons_of_mem _ (List.mem_filter.mpr ⟨mem_asL.mpr hk, ?_⟩)), hc⟩
    simp [hki, hc]
theorem lvargs_mem : ∀ (vs : List Value) (i : Nat), (∀ v ∈ vs, v.category = 1) → ∀ (j : Nat) (v : Value), vs[j]? = some v → (i + j, v) ∈ lv_args i vs := by
  intro vs
  induction vs with
  | nil => intro i _ j v h; simp at h
  | cons a l ih =>
    intro i hc j v h
    have ha : a.category = 1 := hc a List.mem_cons_self
    unfold lv_args
    cases j with
    | zero => simp at h; subst h; exact List.mem_cons_self
    | succ j =>
      simp at h
      refine List.mem_cons_of_mem _ ?_
      rw [if_neg (by omega)]
      have := ih (i + 1) (fun v hv => hc v (List.mem_cons_of_mem _ hv)) j v h
      rwa [show i + 1 + j = i + (j + 1) by omega] at this
theorem lgsl_len : ∀ (vs : List Value), (∀ v ∈ vs, v.category = 1) → (lg_sl vs).length = vs.length := by
  intro vs
  induction vs with
  | nil => intro _; rfl
  | cons a l ih =>
    intro hc
    have ha : a.category = 1 := hc a List.mem_cons_self
    have h2 := ih (fun v hv => hc v (List.mem_cons_of_mem _ hv))
    unfold lg_sl at h2 ⊢
    rw [List.flatMap_cons, if_neg (by omega), List.length_append, h2]
    simp [Nat.add_comm]
theorem LH.entry {vs : List Value} {n : Nat} (hc : ∀ v ∈ vs, v.category = 1) (hn : vs.length ≤ n) : LH ((lg_sl vs ++ List.replicate (n - (lg_sl vs).length) Slot.unset).toArray) n (vs.map some ++ List.replicate (n - vs.length) none) := by
  have h := lv_entry vs (n := n) (by rw [lgsl_len vs hc]; exact hn)
  refine ⟨h.1, h.2.1, fun k v hk => ?_⟩
  by_cases hl : k < vs.length
  · rw [List.getElem?_append_left (by rw [List.length_map]; exact hl), List.getElem?_map] at hk
    cases hv : vs[k]? with
    | none => rw [hv] at hk; cases hk
    | some x =>
      rw [hv] at hk
      simp at hk
      subst hk
      have := lvargs_mem vs 0 hc k x hv
      rw [Nat.zero_add] at this
      exact ⟨h.2.2 _ this, hc x (List.mem_of_getElem? hv)⟩
  · rw [List.getElem?_append_right (by rw [List.length_map]; omega)] at hk
    have := List.mem_of_getElem? hk
    simp at this
/-! ===== a contract out of a walk ===== -/
theorem KK.moved {E : Ev} {u U : State} (hW : u.WarmedH U.vm) (h : KK E u) : KK E U := by
  obtain ⟨h1, ⟨a1, a2, a3, a4⟩, h3⟩ := h
  refine ⟨va_K.moved hW.alike h1, ⟨a1.moved hW.alike, a2.moved hW.alike, a3.moved hW.alike, a4.moved hW.alike⟩, fun w hw hx => ?_⟩
  have := h3 w hw hx
  obtain ⟨a, i, x, b, rfl⟩ := hx
  exact va_Nw.warmM hW this
theorem KK.same {E : Ev} {u U : State} (hvm : u.vm = U.vm) (h : KK E u) : KK E U := by
  obtain ⟨h1, ⟨a1, a2, a3, a4⟩, h3⟩ := h
  have hal : u.vm.Alike U.vm := by rw [hvm]; exact Vm.Alike.refl _
  refine ⟨va_K.moved hal h1, ⟨a1.moved hal, a2.moved hal, a3.moved hal, a4.moved hal⟩, fun w hw hx => ?_⟩
  have := h3 w hw hx
  obtain ⟨a, i, x, b, rfl⟩ := hx
  exact va_Nw.same rfl hvm this
theorem HH.moved {E : Ev} {u U : State} {h : Hp} {H : Heap} (hal : u.vm.Alike U.vm) (hh : HH E u h H) : HH E U h H := ⟨hh.1, hh.2.1, hh.2.2.1, hh.2.2.2.1, hh.2.2.2.2.moved hal⟩
set_option maxHeartbeats 1000000 in
theorem Cn_of {E : Ev} {M : MD} {R : Room} {h : Hp} {args : List Value} {Post : Option Value → Hp → Prop} (hy : plainName M.2.1.cls = true) (hown : M.2.1.cls = M.1) (hc : ∀ v ∈ args, v.category = 1) (hlen : args.length ≤ M.2.2.2.1)
    (g : G E M R Post 0 (args.map some ++ List.replicate (M.2.2.2.1 - args.length) none) [] h R.cells R.slots) : Cn E M R h args Post := by
  refine Met.ofW (cc := M.2.2.1) (maxL := M.2.2.2.1) (ret := M.2.2.2.2) (ws' := lw_good) hy rfl ?_
  intro p e s m args' below meth c s₁ Bd hml hv
  obtain ⟨rfl, hKK, hB, hHH⟩ := hv
  have hfc : s.vm.findClass M.1 = some m.cls := by rw [← hown]; exact findClass_of_methodNamed Bd.named
  rw [lg_entry_eq]
  exact g p e s m args.toArray below meth c s.heap [] 0 0 _ ⟨Bd.exec, Bd.bytes, hml, hfc, atoms_spec (ws := WS M) Bd.pre, Bd.returns, Bd.notSynchronized, (name_of_methodNamed Bd.named Bd.method).1, hKK, hB⟩ hHH va_S.rf (LH.entry hc hlen) (Nat.zero_add _) (Nat.zero_add _)

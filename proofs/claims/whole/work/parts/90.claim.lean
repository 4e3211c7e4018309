/-! THE CLAIM OUT OF ONE WALK OF THE LAW'S BODY. Your part is whole_start (and what it stands on); all else here is the same for every law, but numbers. -/
def R_law : String := "ChoiceBenchLaw"
def lw_P (b : Addr) (xs : List Int32) (args : Array Value) (s : State) : Prop := args = #[.ref b] ∧ s.IntsAt b xs ∧ xs.length ≤ 3073 ∧ (Jvm.Cond.and given_1 narrow_1).before args s = true
def lw_Q (_ : Array Value) (s : State) (o : Outcome) (t : State) : Prop := o = .returned (some (.int 1)) ∧ Framed s o t [] 600000 7302250
def lw_Z (below : List Frame) (a : Array Value) (s : State) : State → Prop := fun t => ∃ o, t.status = .running ∧ Ended t below o ∧ lw_Q a s o t
/-- the law's own end, with 1 on the stack, nothing written that was there before, its room as the claim has it -/
theorem lw_ret {p : Program} {l : Launch} {e : Env} {s : State} {m : MethodId} {below : List Frame} {meth : Method} {c : Code} {b : Nat} (hx : p.tables.exec = Jvm.exec) (hb : c.code = code) (hr : meth.sig.returnType = ret) (hlocks : meth.locks = false) {pc : Nat} {H : Heap} {ls : Array Slot} (hdg : decode code pc = .ok (.ireturn, 1)) : W p l e room_1 s m #[Value.ref b] below meth c H [] 600000 7302250 (lw_Z below #[Value.ref b] s) (F0 m pc ls [.int 1]) := by
  intro T hT X
  obtain ⟨fs, hret, hrun, hended, hW, hframe⟩ := X.leave (v := some (.int 1)) (hlocks := hlocks) (fun h => by rw [hr] at h; cases h)
  have hmeth' : T.vm.method? m = some meth := X.method'
  refine ⟨T.setFrames fs, ?_, .returned (some (.int 1)), hrun, hended, rfl, ⟨_, rfl⟩, hW, hframe⟩
  jvm_step X.here [X.here.top, hx, hb, hdg, hmeth', hr, ret, narrow_b1]
  (try refine ⟨rfl, ?_⟩); (try refine ⟨rfl, ?_⟩)
  first | (intro acts; rw [hret _ acts rfl rfl rfl]) | rw [hret _ _ rfl rfl rfl]
  exact Steps.refl _
/-- what holds at the law's entry: the machine, the code, the tables' words (any of lw_tbl by 'hts w (by decide +kernel)'), the script of L ints xs at the cell b, what the Statement gives of the start (any of its parts by flat_of_before) -/
def lw_At (p : Program) (s : State) (m : MethodId) (meth : Method) (c : Code) (b L : Nat) (xs : Nat → Int32) : Prop :=
  p.tables.exec = Jvm.exec ∧ c.code = code ∧ meth.sig.returnType = ret ∧ c.maxLocals = 4 ∧ s.vm.findClass R_law = some m.cls ∧ (∀ w ∈ lw_tbl, w.before #[Value.ref b] s = true) ∧ va_X b L xs s s.heap ∧ b < s.heap.size ∧ meth.locks = false ∧ (Jvm.Cond.and given_1 narrow_1).before #[Value.ref b] s = true ∧ (Jvm.Cond.code x code maxLocals ret).before #[Value.ref b] s = true ∧ meth.name = x.name
theorem win : ∀ ci, ci < 9 → Cond.instantiable (cT ci).1 (nfl ci) ∈ lw_good := nine w_in0 w_in1 w_in2 w_in3 w_in4 w_in5 w_in6 w_in7 w_in8
theorem ao_5 : Cond.arrayOver (.object RX5) ∈ lw_tbl := List.mem_of_getElem? (i := 73) (by decide +kernel)
theorem ao_2 : Cond.arrayOver (.object RX2) ∈ lw_tbl := List.mem_of_getElem? (i := 124) (by decide +kernel)
theorem ao_0 : Cond.arrayOver (.object RX0) ∈ lw_tbl := List.mem_of_getElem? (i := 126) (by decide +kernel)
theorem ao_1 : Cond.arrayOver (.object RX1) ∈ lw_tbl := List.mem_of_getElem? (i := 236) (by decide +kernel)
theorem ar_over {s : State} {args : Array Value} {C0 : String} (h : (Cond.arrayOver (.object C0)).before args s = true) : ∃ cA : ClassId, ArrOfT s cA (.object C0) ∧ va_RA s cA (.object C0) := by
  obtain ⟨comp, c, k, f1, f2, f3, f4, f5⟩ := Cond.arrayOver_spec h
  exact ⟨c, fun n z => ⟨fun k h => (by cases h), k, f3, comp, f4⟩, k, comp, f3, f4, f1, f5⟩
/-- the setting's classes, out of the tables -/
theorem KK_of {s : State} {args : Array Value} (hts : ∀ w ∈ lw_tbl, w.before args s = true) : ∃ (D : va_G) (C : Nat → ClassId), ∀ E : Ev, eD E = D → eC E = C → KK E s := by
  have hgd : ∀ w ∈ lw_good, w.before args s = true := fun w hw => hts w (List.mem_filter.mp hw).1
  have hk : ∀ ci : Nat, ∃ q : ClassId × (Nat → Nat), ci < 9 → u_Kn s (cT ci).1 (cT ci).2.1 (cT ci).2.2 q.1 q.2 := fun ci => by
    by_cases hc : ci < 9
    · obtain ⟨cC, iS, h⟩ := u_known hgd (cT_w ci hc) (hgd _ (win ci hc))
      exact ⟨(cC, iS), fun _ => h⟩
    · obtain ⟨cC, iS, h⟩ := u_known hgd (cT_w 0 (by omega)) (hgd _ (win 0 (by omega)))
      exact ⟨(cC, iS), fun h => absurd h hc⟩
  obtain ⟨c9, k9, m9, x91, x92, x93⟩ := Cond.arrayClass_spec (hgd _ w_ai)
  obtain ⟨c10, k10, m10, x101, x102, x103⟩ := Cond.arrayClass_spec (hgd _ w_az)
  obtain ⟨c11, y11⟩ := ar_over (hts _ ao_0)
  obtain ⟨c12, y12⟩ := ar_over (hts _ ao_1)
  obtain ⟨c13, y13⟩ := ar_over (hts _ ao_2)
  obtain ⟨c14, y14⟩ := ar_over (hts _ ao_5)
  refine ⟨(fun ci => (Classical.choose (hk ci)).1, fun ci => (Classical.choose (hk ci)).2), fun k => if k = 9 then c9 else if k = 10 then c10 else if k = 11 then c11 else if k = 12 then c12 else if k = 13 then c13 else c14, fun E hD hC => ⟨⟨fun c q hq => ?_, fun k q hk' => ?_⟩, ⟨va_AO.of (hts _ ao_0), va_AO.of (hts _ ao_1), va_AO.of (hts _ ao_2), va_AO.of (hts _ ao_5)⟩, fun w hw hx => ?_⟩⟩
  · have hc : c < 9 := by
      have := (List.getElem?_eq_some_iff.mp hq).1
      exact this
    rw [cT_at c hc] at hq
    cases hq
    rw [hD]
    exact Classical.choose_spec (hk c) hc
  · have e9 : eC E 9 = c9 := by rw [hC]; rfl
    have e10 : eC E 10 = c10 := by rw [hC]; rfl
    have e11 : eC E 11 = c11 := by rw [hC]; rfl
    have e12 : eC E 12 = c12 := by rw [hC]; rfl
    have e13 : eC E 13 = c13 := by rw [hC]; rfl
    have e14 : eC E 14 = c14 := by rw [hC]; rfl
    unfold tysL at hk'
    rw [e9, e10, e11, e12, e13, e14] at hk'
    rcases k with _ | _ | _ | _ | _ | _ | k
    · cases hk'
      exact ⟨fun n z => ⟨fun k h => (by cases h), k9, x92, m9, x93⟩, x91⟩
    · cases hk'
      exact ⟨fun n z => ⟨fun k h => (by cases h), k10, x102, m10, x103⟩, x101⟩
    · cases hk'
      exact y11
    · cases hk'
      exact y12
    · cases hk'
      exact y13
    · cases hk'
      exact y14
    · simp at hk'
  · obtain ⟨a, i, x, b, rfl⟩ := hx
    exact hts _ hw
def h00 (n : Nat) : Hp := (fun _ _ => 0, fun _ _ => none, fun _ _ => 0, fun _ _ => none, n)
set_option maxHeartbeats 4000000 in
theorem whole_start {p : Program} {e : Env} {s : State} {m : MethodId} {below : List Frame} {meth : Method} {c : Code} (l : Launch) {b L : Nat} {xs : Nat → Int32} (hL : L ≤ 3073) (C0 : lw_At p s m meth c b L xs) : W p l e room_1 s m #[Value.ref b] below meth c s.heap [] 0 0 (lw_Z below #[Value.ref b] s) (entryFrame m ([Value.ref b] : List Value).toArray 4) := by
  obtain ⟨q1, q2, q3, q4, q5, q6, q7, q8, q9, q10, q11, q12⟩ := C0
  obtain ⟨m', hm', hk1, hk2⟩ := many_of (if 0 < L then xs 0 else 0)
  obtain ⟨D, Cc, hKK⟩ := KK_of q6
  have hE : ∃ E : Ev, E = (l, D, Cc, s.heap.size, kK s.heap.size m', kN s.heap.size m', b, L, xs) := ⟨_, rfl⟩
  obtain ⟨E, hE⟩ := hE
  have eL1 : eL E = l := by rw [hE]
  have eB1 : eB E = s.heap.size := by rw [hE]
  have eS1 : eS E = b := by rw [hE]
  have eZ1 : eZ E = L := by rw [hE]
  have eX1 : eX E = xs := by rw [hE]
  have hLY : LY E m' := LY_of hm' (by rw [hE]) (by rw [hE])
  have g := law_G (E := E) (h := h00 s.heap.size) hLY (by rw [eZ1]; exact hL) (by rw [eZ1, eX1]; exact hk1) (by rw [eZ1, eX1]; exact hk2) (by rw [eB1]; rfl)
  have KE : KK E s := hKK E (by rw [hE]) (by rw [hE])
  have hH : HH E s (h00 s.heap.size) s.heap := by
    refine ⟨fun k q hq => ?_, by rw [eB1]; exact Nat.le_refl _, rfl, by rw [eS1, eB1]; exact q8, by rw [eS1, eZ1, eX1]; exact q7⟩
    have e0 : pl E (h00 s.heap.size) = [] := by
      unfold pl
      rw [eB1, show hn (h00 s.heap.size) - s.heap.size = 0 from Nat.sub_self _]
      rfl
    rw [e0] at hq
    simp at hq
  rw [lg_entry_eq]
  have hCX : CX E mL_law p s m #[Value.ref b] meth c := ⟨q1, q2, q4, q5, fun w hw => by
    rcases List.mem_cons.mp hw with rfl | hw
    · exact q11
    · exact q6 w (List.mem_filter.mp hw).1, q3, q9, q12, KE, by rw [eB1]; exact Nat.le_refl _⟩
  have hLH := LH.entry (vs := [Value.ref b]) (n := 4) (by simp [Value.category]) (by simp)
  intro T hT X
  rw [← eL1] at X
  rw [eS1] at g
  obtain ⟨t, a1, o, b1, b2, ⟨v, h', rfl, hP, hKt, hHt, hF⟩, Lc, hfe, hfree⟩ := g p e s m #[Value.ref b] below meth c s.heap [] 0 0 _ hCX hH va_S.rf hLH rfl rfl T hT X
  refine ⟨t, a1, _, b1, b2, by rw [show v = some (.int 1) from hP], hfe.1, hfe.2.1, ?_⟩
  exact hfe.2.2.weaken (fun y hy hlt => absurd hlt (Nat.not_lt.mpr (by rw [← eB1]; exact hfree y hy))) (Nat.le_refl _) (Nat.le_refl _)
set_option maxHeartbeats 4000000 in
theorem lw_walk (l : Launch) (b : Addr) (xs : List Int32) : MetFree l x (headSpec (Jvm.Cond.code x code maxLocals ret :: tables_1) room_1) (lw_P b xs) (fun _ _ _ _ _ => True) lw_Q := by
  refine MetFree.of_bodyS (code := code) (maxLocals := maxLocals) (ret := ret) (by decide) ?_ ?_
  · intro args s m h hn
    obtain ⟨meth, c, h1, h2, h3, h4, h5, h6, -, -⟩ := Cond.code_spec hn (atoms_spec (ws := Jvm.Cond.code x code maxLocals ret :: tables_1) h _ List.mem_cons_self)
    exact ⟨meth, c, h1, h2, h3, h4, h5, h6⟩
  · intro p e s m args below meth c s₁ B hml0 hP _
    obtain ⟨rfl, hx, hbd, hgv⟩ := hP
    obtain ⟨scr, harrAt, hlist, hof, hsmall⟩ := hx
    obtain ⟨hcb, hkn, -, -⟩ := State.arrayAt?_spec harrAt
    have hown : s.vm.findClass R_law = some m.cls := findClass_of_methodNamed B.named
    have hts0 : ∀ c ∈ (Jvm.Cond.code x code maxLocals ret :: tables_1), c.before #[Value.ref b] s = true := atoms_spec (ws := Jvm.Cond.code x code maxLocals ret :: tables_1) B.pre
    have hts : ∀ w ∈ lw_tbl, w.before #[Value.ref b] s = true := k2_hts_sels lw_privs (fun w hw => hts0 w (List.mem_cons_of_mem _ hw)) lw_privs_ok
    have hml : c.maxLocals = 4 := B.maxLocals_eq (hts0 _ List.mem_cons_self)
    have X₀ : Stand p l e room_1 s m #[Value.ref b] below meth c s₁ [] 0 0 := Stand.of_body B
    have hh0 : s₁.heap = s.heap := by rw [B.state]; rfl
    have hsz : scr.slots.size = xs.length := by rw [← Array.length_toList, hlist, List.length_map]
    have hval : ∀ j : Nat, j < xs.length → scr.slots[j]? = some (.int (xs.getD j 0)) := fun j hj => by
      rw [← Array.getElem?_toList, hlist]
      simp [hj]
    have hbl : b < s.heap.size := (Array.getElem?_eq_some_iff.mp hcb).1
    have hX : va_X b xs.length (fun j => xs.getD j 0) s s.heap := ⟨scr, hcb, hof, hkn, hsz, hval⟩
    have K : W p l e room_1 s m #[Value.ref b] below meth c s₁.heap [] 0 0 (lw_Z below #[Value.ref b] s) (entryFrame m ([Value.ref b] : List Value).toArray 4) := by
      rw [hh0]
      exact whole_start l hbd ⟨B.exec, B.bytes, B.returns, hml, hown, hts, hX, hbl, B.notSynchronized, hgv, hts0 _ List.mem_cons_self, (name_of_methodNamed B.named B.method).1⟩
    obtain ⟨t, a1, o, b1, b2, b3⟩ := K s₁ rfl X₀
    exact ⟨t, o, a1, b1, b2, b3⟩
theorem lw_pre_spec {args : Array Value} {s : State} (h : (Jvm.Cond.and given_1 narrow_1).before args s = true) (hr : rest_1_c.before args s = true) : ∃ (b : Addr) (xs : List Int32), lw_P b xs args s := by
  have hs := flat_of_before _ h
  have hq := flat_of_before _ hr
  have hc : (Cond.count 1).before args s = true := hs _ (by decide +kernel)
  have harr : (Cond.arrayOf (.arg 0) .int).before args s = true := hs _ (by decide +kernel)
  have hle : (Cond.le (.length (.arg 0)) (.int 3073)).before args s = true := hs _ (by decide +kernel)
  have hlen : (Cond.isInt (.length (.arg 0))).before args s = true := hq _ (by decide +kernel)
  have hall : (Cond.all (.arg 0) (.isInt (.elem (.arg 0) (.index 0)))).before args s = true := hq _ (by decide +kernel)
  obtain ⟨b, xs, hb, hx⟩ := State.ints_of_pre rfl harr hlen hall
  have hsm : xs.length < 2 ^ 31 := hx.choose_spec.2.2.2
  have hev : (Term.length (.arg 0)).eval args s none [] s = some (.int xs.length.toInt32) := hx.length_eval hb
  have hv := Cond.le_ints hev (show (Term.int 3073).eval args s none [] s = some (.int 3073) from rfl)
  have hd : xs.length.toInt32 ≤ 3073 := by
    simpa [Cond.before, Cond.holds, hv] using hle
  have hN : xs.length ≤ 3073 := (Int32.ofNat_le_ofNat hsm (by decide)).mp (show Int32.ofNat xs.length ≤ Int32.ofNat 3073 from hd)
  exact ⟨b, xs, Cond.one_arg hc (show args[0]? = some (.ref b) from hb), hx, hN, h⟩
theorem lw_comes (l : Launch) : Comes l x (Jvm.Cond.code x code maxLocals ret :: tables_1) room_1 (fun tb e args s => Calls_1 tb e args s ∧ rest_1 tb e args s ∧ Pre_1 tb e args s)
    (fun _ _ args s o t => lw_Q args s o t) := by
  intro p e ha hc hk s m args below hf hfit hheap happ hpre
  obtain ⟨b, xs, hP⟩ := lw_pre_spec hpre.2.2 hpre.2.1
  obtain ⟨k, o, h1, h2, h3, hQ⟩ := lw_walk l b xs p e ha hc hk s m args below hf ((Spec.applies_iff_loose hf).mp happ).1 hP trivial
  exact ⟨k, o, h1, h2, h3, hQ⟩
theorem lw_frame {s t : State} {o : Outcome} {args : Array Value} (h : Framed s o t [] 600000 7302250) :
    Framed s o t (fieldLocs frame_1_writes args s ++ arrayLocs frame_1_arrays args s ++ staticLocs frame_1_statics s) 600000 7302250 := h
theorem lw_limb (L : Cond) (hL : ∀ (args : Array Value) (s t : State), L.after args s (.returned (some (.int 1))) t = true) :
    ArmFor flags0 classFile x code maxLocals ret World_1 tables_1 room_1 Calls_1 rest_1 Pre_1
      (fun tb e a s o t => postC L tb e a s o t ∧ Framed s o t (fieldLocs frame_1_writes a s ++ arrayLocs frame_1_arrays a s ++ staticLocs frame_1_statics s) 600000 7302250) := by
  intro l _ _ _ p e ha hc hk s m args below hf hfit hheap happ hpre
  obtain ⟨k, o, h1, h2, h3, rfl, hF⟩ := lw_comes l p e ha hc hk s m args below hf hfit hheap happ hpre
  exact ⟨k, _, h1, h2, h3, hL args s _, lw_frame hF⟩
theorem i_vc : Claimed_1_1 ∧ Claimed_1_2 := ⟨lw_limb limb_1_1 (fun args s t => by simp [limb_1_1, Cond.after, Cond.holds, Cond.value]), lw_limb limb_1_2 (fun args s t => Cond.after_iff.mpr (by
  first | (rw [show limb_1_2 = Cond.eq .result (.int 1) from rfl, Cond.eq_ints (x := 1) (y := 1) rfl rfl]; simp; done) | (simp [limb_1_2, Cond.value, Term.eval]; done)))⟩

section CALLS
variable {E : Ev} {M : MD} {R : Room} {Post : Option Value → Hp → Prop} {pc : Nat} {L : List (Option Value)} {st : List Value} {h : Hp} {ac as : Nat}
/-! ===== calls: a method's own words, and the four ways to it ===== -/
def rk (r mc ms : Nat) : Room := { frames := r, cells := mc, slots := ms, locals := 32 * r }
def OkM (M : MD) (n : Nat) : Prop := M.2.1.cls = M.1 ∧ (M.1 ≠ "java/lang/invoke/MethodHandle" ∧ M.1 ≠ "java/lang/invoke/VarHandle") ∧ (parseMethodDescriptor M.2.1.desc).map (fun d => d.parameters.length) = some n ∧ Cond.code M.2.1 M.2.2.1 M.2.2.2.1 M.2.2.2.2 ∈ lw_good ∧ Cond.initialized M.1 ∈ lw_good
def OkV (M : MD) : Prop := Cond.instanceMethod M.2.1 ∈ lw_good ∧ Cond.selects M.1 M.2.1 M.2.1 ∈ lw_good
theorem good_in {w : Cond} (hw : w ∈ lw_good) : (w.onTables && w.keeps) = true ∨ ∃ ty, w = .arrayClass ty := good_of_word (List.mem_filter.mp hw).2
theorem WS_in {M M' : MD} (hc : Cond.code M'.2.1 M'.2.2.1 M'.2.2.2.1 M'.2.2.2.2 ∈ lw_good) : GoodIn (WS M) (WS M') := by
  intro w hw
  rcases List.mem_cons.mp hw with rfl | hw
  · exact ⟨List.mem_cons_of_mem _ hc, good_in hc⟩
  · exact ⟨List.mem_cons_of_mem _ hw, good_in hw⟩
theorem Pc_blind {args : List Value} {h : Hp} : FrameBlind (va_Pc args (fun U => KK E U ∧ eB E ≤ U.heap.size ∧ HH E U h U.heap)) := fun a U g mk q => ⟨q.1, KK.same (u := U) (U := U.calling g mk a) rfl q.2.1, q.2.2.1, q.2.2.2.moved (Vm.Alike.refl U.vm)⟩
theorem Pc_now {args : List Value} {s U : State} {H : Heap} (hKK : KK E s) (hB : eB E ≤ s.heap.size) {locs : List Loc} (hS : va_S (eA E) s.heap H locs) (hH : HH E s h H) (hU : U.heap = H) (hW : s.WarmedH U.vm) : va_Pc args (fun U => KK E U ∧ eB E ≤ U.heap.size ∧ HH E U h U.heap) args.toArray U :=
  ⟨rfl, hKK.moved hW, by rw [hU]; exact Nat.le_trans hB hS.1, by rw [hU]; exact hH.moved hW.alike⟩
theorem G_after {p : Program} {e : Env} {s : State} {m : MethodId} {args : Array Value} {below : List Frame} {meth : Method} {c : Code} {H : Heap} {locs : List Loc} {cells slots mc ms ac' as' : Nat} {ls : Array Slot} {stk : List Value} {Q : Option Value → Hp → Prop} {aa : Array Value}
    (C : CX E M p s m args meth c) (hS : va_S (eA E) s.heap H locs) (hL : LH ls M.2.2.2.1 L) (h1 : cells + ac = R.cells) (h2 : slots + as = R.slots) (hac : ac = ac' + mc) (has : as = as' + ms)
    (hr : va_Run p (eL E) e R s m args below meth c H locs cells slots mc ms (F0 m pc ls stk) st (QQ E Q aa) (eA E))
    (kk : ∀ (v : Option Value) (h' : Hp), Q v h' → G E M R Post (pc + 3) L (v.toList ++ st) h' ac' as') : W p (eL E) e R s m args below meth c H locs cells slots (MQ below (QQ E Post) args s R.cells R.slots (eA E)) (F0 m pc ls stk) := by
  intro T hT X
  obtain ⟨v, st₀, t, T', L', h0, X', hL', e1, e2, ⟨v', h', hv, hQ, hKt, hHt, hz, hk⟩, stp⟩ := hr T hT X
  cases hv
  rw [h0] at hz hk
  have hal : t.vm.Alike s.vm := by rw [← e2]; exact X'.warmed.alike.symm
  obtain ⟨t2, a1, b1⟩ := kk v h' hQ p e s m args below meth c T'.heap (locs ++ L') (cells + mc) (slots + ms) ls C (by rw [e1]; exact hHt.moved hal)
    ⟨Nat.le_trans hS.1 (by rw [e1]; exact hz), fun q g1 g2 => by rw [e1, hk q (Nat.lt_of_lt_of_le g1 hS.1) g2]; exact hS.2.1 q g1 g2, fun q hq => by
      rcases List.mem_append.mp hq with g | g
      · exact hS.2.2 q g
      · exact hL' q g⟩ hL (by omega) (by omega) T' rfl X'
  exact ⟨t2, stp t2 a1, b1⟩
theorem cb_recv {s : State} {H : Heap} {b ci : Nat} (hKK : KK E s) (hH : HH E s h H) (ho : Ob E h ci b) (hc : ci < 9) : ∃ cell : Cell, H[b]? = some cell ∧ cell.vm.isStatics = false ∧ s.vm.findClass (cT ci).1 = some cell.cls := by
  obtain ⟨cell, q1, q2, q3, -⟩ := hH.obj ho hc
  exact ⟨cell, q1, by rw [q3]; rfl, by rw [q2]; exact (hKK.1.1 ci _ (cT_at ci hc)).2.1⟩
theorem G_callV (pc' : Nat) (hp : pc + 3 = pc') {M' : MD} {R' : Room} {Q : Option Value → Hp → Prop} {idx ci n b ac' as' : Nat} {stk : List Value} (As : List Value) (cn : Cn E M' R' h (.ref b :: As) Q) (hm : OkM M' n) (hv : OkV M') (hw : Cond.methodLink M.1 idx M'.2.1 ∈ lw_good) (ho : Ob E h ci b) (hci : ci < 9 ∧ (cT ci).1 = M'.1) (hn : As.length = n) (hR : R'.frames + 1 ≤ R.frames ∧ 8 + (M'.2.2.2.1 + 11) + R'.locals ≤ R.locals) (hac : ac = ac' + R'.cells) (has : as = as' + R'.slots) (hs8 : (st.map fun v => v.category).sum ≤ 8) (hstk : stk = As.reverse ++ .ref b :: st) (hd : decode M.2.2.1 pc = .ok (.invokevirtual idx, 3))
    (kk : ∀ (v : Option Value) (h' : Hp), Q v h' → G E M R Post pc' L (v.toList ++ st) h' ac' as') : G E M R Post pc L stk h ac as := by
  subst hp
  intro p e s m args below meth c H locs cells slots ls C hH hS hL h1 h2
  have hts := C.2.2.2.2.1
  have hKK := C.2.2.2.2.2.2.2.2.1
  obtain ⟨m1, m2, m3, m4, m5⟩ := hm
  have hT : GoodIn (WS M) (wsV M.1 idx M'.1 M'.2.1 (WS M')) := by
    intro w hw'
    unfold wsV at hw'
    rcases List.mem_append.mp hw' with q | q
    · simp only [List.mem_cons, List.not_mem_nil, or_false] at q
      rcases q with rfl | rfl | rfl | rfl
      · exact ⟨List.mem_cons_of_mem _ hw, good_in hw⟩
      · exact ⟨List.mem_cons_of_mem _ hv.1, good_in hv.1⟩
      · exact ⟨List.mem_cons_of_mem _ hv.2, good_in hv.2⟩
      · exact ⟨List.mem_cons_of_mem _ m5, good_in m5⟩
    · exact WS_in m4 w q
  refine G_after C hS hL h1 h2 hac has (va_runV (As := As) (rest := st) (b := b) ⟨C.1, C.2.1, C.2.2.1, C.2.2.2.1, hts⟩ cn (cwV n hts hT rfl rfl rfl ⟨m1, by rw [m1]; exact m2.1, by rw [m1]; exact m2.2, m3⟩ hR) ⟨Pc_blind, by rw [← hci.2]; exact cb_recv hKK hH ho hci.1, fun U hU hW => Pc_now hKK C.2.2.2.2.2.2.2.2.2 hS hH hU hW⟩ rfl hn hL.1 hstk (lv_room hs8) hd ⟨by omega, by omega⟩) kk
theorem G_callS (pc' : Nat) (hp : pc + 3 = pc') {M' : MD} {R' : Room} {Q : Option Value → Hp → Prop} {idx n ac' as' : Nat} {stk : List Value} (As : List Value) (cn : Cn E M' R' h As Q) (hm : OkM M' n) (hv : Cond.static M'.2.1 ∈ lw_good) (hw : Cond.methodLink M.1 idx M'.2.1 ∈ lw_good) (hn : As.length = n) (hR : R'.frames + 1 ≤ R.frames ∧ 8 + (M'.2.2.2.1 + 11) + R'.locals ≤ R.locals) (hac : ac = ac' + R'.cells) (has : as = as' + R'.slots) (hs8 : (st.map fun v => v.category).sum ≤ 8) (hstk : stk = As.reverse ++ st) (hd : decode M.2.2.1 pc = .ok (.invokestatic idx, 3))
    (kk : ∀ (v : Option Value) (h' : Hp), Q v h' → G E M R Post pc' L (v.toList ++ st) h' ac' as') : G E M R Post pc L stk h ac as := by
  subst hp
  intro p e s m args below meth c H locs cells slots ls C hH hS hL h1 h2
  have hts := C.2.2.2.2.1
  have hKK := C.2.2.2.2.2.2.2.2.1
  obtain ⟨m1, m2, m3, m4, m5⟩ := hm
  have hT : GoodIn (WS M) (va_wsS M.1 idx M'.2.1 (WS M')) := by
    intro w hw'
    unfold va_wsS at hw'
    rcases List.mem_append.mp hw' with q | q
    · simp only [List.mem_cons, List.not_mem_nil, or_false] at q
      rcases q with rfl | rfl | rfl
      · exact ⟨List.mem_cons_of_mem _ hw, good_in hw⟩
      · exact ⟨List.mem_cons_of_mem _ hv, good_in hv⟩
      · rw [m1]; exact ⟨List.mem_cons_of_mem _ m5, good_in m5⟩
    · exact WS_in m4 w q
  refine G_after C hS hL h1 h2 hac has (va_runS (As := As) (rest := st) ⟨C.1, C.2.1, C.2.2.1, C.2.2.2.1, hts⟩ cn (va_cwS n hts hT rfl rfl rfl ⟨by rw [m1]; exact m2.1, by rw [m1]; exact m2.2, m3⟩ hR) ⟨Pc_blind, fun U hU hW => Pc_now hKK C.2.2.2.2.2.2.2.2.2 hS hH hU hW⟩ rfl hn hL.1 hstk (lv_room hs8) hd ⟨by omega, by omega⟩) kk
theorem G_callI (pc' : Nat) (hp : pc + 3 = pc') {M' : MD} {R' : Room} {Q : Option Value → Hp → Prop} {idx n b ac' as' : Nat} {stk : List Value} (As : List Value) (cn : Cn E M' R' h (.ref b :: As) Q) (hm : OkM M' n) (hv : Cond.instanceMethod M'.2.1 ∈ lw_good) (hret : M'.2.2.2.2 = none) (hini : M'.2.1.name = "<init>") (hw : Cond.methodLink M.1 idx M'.2.1 ∈ lw_good) (hn : As.length = n) (hR : R'.frames + 1 ≤ R.frames ∧ 8 + (M'.2.2.2.1 + 11) + R'.locals ≤ R.locals) (hac : ac = ac' + R'.cells) (has : as = as' + R'.slots) (hs8 : (st.map fun v => v.category).sum ≤ 8) (hstk : stk = As.reverse ++ .ref b :: st) (hd : decode M.2.2.1 pc = .ok (.invokespecial idx, 3))
    (kk : ∀ (v : Option Value) (h' : Hp), Q v h' → G E M R Post pc' L (v.toList ++ st) h' ac' as') : G E M R Post pc L stk h ac as := by
  subst hp
  intro p e s m args below meth c H locs cells slots ls C hH hS hL h1 h2
  have hts := C.2.2.2.2.1
  have hKK := C.2.2.2.2.2.2.2.2.1
  obtain ⟨m1, m2, m3, m4, m5⟩ := hm
  refine G_after C hS hL h1 h2 hac has (va_runI (As := As) (rest := st) (b := b) ⟨C.1, C.2.1, C.2.2.1, C.2.2.2.1, hts⟩ cn (cwI n hts (WS_in m4) (by unfold WS; rw [hret]) rfl rfl (by rw [m1]; exact hts _ (List.mem_cons_of_mem _ m5)) (hts _ (List.mem_cons_of_mem _ hw)) (hts _ (List.mem_cons_of_mem _ hv)) hini ⟨by rw [m1]; exact m2.1, by rw [m1]; exact m2.2, m3⟩ hR) ⟨Pc_blind, fun U hU hW => Pc_now hKK C.2.2.2.2.2.2.2.2.2 hS hH hU hW⟩ rfl hn hL.1 hstk (lv_room hs8) hd ⟨by omega, by omega⟩) kk
theorem G_callN (pc' : Nat) (hp : pc + 3 = pc') {M' : MD} {R' : Room} {Q : Option Value → Hp → Prop} {idx n b ac' as' : Nat} {host : String} {stk : List Value} (As : List Value) (cn : Cn E M' R' h (.ref b :: As) Q) (hm : OkM M' n) (hv : Cond.instanceMethod M'.2.1 ∈ lw_good) (hret : M'.2.2.2.2 = none) (hini : M'.2.1.name = "<init>") (hw : Cond.methodLinkNest M.1 idx M'.2.1 host ∈ lw_tbl) (hn : As.length = n) (hR : R'.frames + 1 ≤ R.frames ∧ 8 + (M'.2.2.2.1 + 11) + R'.locals ≤ R.locals) (hac : ac = ac' + R'.cells) (has : as = as' + R'.slots) (hs8 : (st.map fun v => v.category).sum ≤ 8) (hstk : stk = As.reverse ++ .ref b :: st) (hd : decode M.2.2.1 pc = .ok (.invokespecial idx, 3))
    (kk : ∀ (v : Option Value) (h' : Hp), Q v h' → G E M R Post pc' L (v.toList ++ st) h' ac' as') : G E M R Post pc L stk h ac as := by
  subst hp
  intro p e s m args below meth c H locs cells slots ls C hH hS hL h1 h2
  have hts := C.2.2.2.2.1
  have hKK := C.2.2.2.2.2.2.2.2.1
  obtain ⟨m1, m2, m3, m4, m5⟩ := hm
  refine G_after C hS hL h1 h2 hac has (va_runIN (As := As) (rest := st) (b := b) ⟨C.1, C.2.1, C.2.2.1, C.2.2.2.1, hts⟩ cn ⟨va_cnB n hts (WS_in m4) (by unfold WS; rw [hret]) rfl rfl (hKK.2.2 _ hw ⟨_, _, _, _, rfl⟩) (by rw [m1]; exact hts _ (List.mem_cons_of_mem _ m5)) ⟨by rw [m1]; exact m2.1, by rw [m1]; exact m2.2, m3⟩ hR, hini, hts _ (List.mem_cons_of_mem _ hv)⟩ ⟨Pc_blind, fun U hU hW => Pc_now hKK C.2.2.2.2.2.2.2.2.2 hS hH hU hW⟩ rfl hn hL.1 hstk (lv_room hs8) hd ⟨by omega, by omega⟩) kk
end CALLS

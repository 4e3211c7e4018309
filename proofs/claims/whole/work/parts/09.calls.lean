section ARRAYS
variable {E : Ev} {M : MD} {R : Room} {Post : Option Value → Hp → Prop} {pc : Nat} {L : List (Option Value)} {st : List Value} {h : Hp} {ac as : Nat}
/-! ===== arrays: kinds 9 int, 10 boolean, 11 Entry, 12 EntryList, 13 Guard, 14 Proc ===== -/
theorem HH.ai {s : State} {H : Heap} {a ci : Nat} (hH : HH E s h H) (ho : Ob E h ci a) (h9 : ¬ ci < 9) (h11 : ci < 11) : H[a]? = some (arrV (eC E ci) (eN E a) (fun j => .int (h.2.2.1 a j))) := by
  have h1 := hH.at ho.2.1 ho.2.2
  rw [ent_int ho.1 h9 h11] at h1
  exact h1
theorem HH.aq {s : State} {H : Heap} {a ci : Nat} (hH : HH E s h H) (ho : Ob E h ci a) (h11 : ¬ ci < 11) : H[a]? = some (arrV (eC E ci) (eN E a) (fun j => va_rf (h.2.2.2.1 a j))) := by
  have h1 := hH.at ho.2.1 ho.2.2
  rw [ent_ref ho.1 h11] at h1
  exact h1
def aTy (ci : Nat) : FieldType := match ci with
  | 9 => .int | 10 => .boolean | 11 => .object RX0 | 12 => .object RX1 | 13 => .object RX2 | _ => .object RX5
theorem KK.arr {s : State} (hK : KK E s) {ci : Nat} (h9 : ¬ ci < 9) (h15 : ci < 15) : ArrOfT s (eC E ci) (aTy ci) ∧ va_RA s (eC E ci) (aTy ci) := by
  rcases ci with _ | _ | _ | _ | _ | _ | _ | _ | _ | _ | _ | _ | _ | _ | _ | n
  any_goals omega
  · exact hK.1.2 0 _ rfl
  · exact hK.1.2 1 _ rfl
  · exact hK.1.2 2 _ rfl
  · exact hK.1.2 3 _ rfl
  · exact hK.1.2 4 _ rfl
  · exact hK.1.2 5 _ rfl
theorem G_alen (pc' : Nat) (hp : pc + 1 = pc') {a ci : Nat} (ho : Ob E h ci a) (h9 : ¬ ci < 9) (h15 : ci < 15) (hd : decode M.2.2.1 pc = .ok (.arraylength, 1)) (kk : G E M R Post pc' L (.int (nI (eN E a)) :: st) h ac as) : G E M R Post pc L (.ref a :: st) h ac as := by
  subst hp
  intro p e s m args below meth c H locs cells slots ls C hH hS hL h1 h2
  have hA := (C.2.2.2.2.2.2.2.2.1.arr h9 h15).1
  by_cases h11 : ci < 11
  · exact W.alen (n := nI (eN E a)) C.1 C.2.1 (hH.ai ho h9 h11) (hA _ _) (by rw [arrV_size] <;> rfl) rfl rfl hd (kk p e s m args below meth c H locs cells slots ls C hH hS hL h1 h2)
  · exact W.alen (n := nI (eN E a)) C.1 C.2.1 (hH.aq ho h11) (hA _ _) (by rw [arrV_size] <;> rfl) rfl rfl hd (kk p e s m args below meth c H locs cells slots ls C hH hS hL h1 h2)
theorem G_iaload (pc' : Nat) (hp : pc + 1 = pc') {a : Nat} {i : Int32} (j : Nat) (hj : i = nI j) (ho : Ob E h 9 a) (hlt : j < eN E a) (hb : j < 2 ^ 31) (hd : decode M.2.2.1 pc = .ok (.iaload, 1)) (kk : G E M R Post pc' L (.int (h.2.2.1 a j) :: st) h ac as) : G E M R Post pc L (.int i :: .ref a :: st) h ac as := by
  subst hp
  subst hj
  intro p e s m args below meth c H locs cells slots ls C hH hS hL h1 h2
  have hc : (nI j).toNatClampNeg = j := nI_clamp hb
  exact W.iald (v := .int (h.2.2.1 a j)) C.1 C.2.1 (hH.ai ho (by omega) (by omega)) ((C.2.2.2.2.2.2.2.2.1.arr (ci := 9) (by omega) (by omega)).1 _ _) (fun q => by cases q) (by rw [arrV_size, hc]; exact fun q => q.elim (nI_pos hb) (by omega)) (by rw [hc, arrV_read _ _ hlt]) rfl rfl hd (kk p e s m args below meth c H locs cells slots ls C hH hS hL h1 h2)
theorem G_baload (pc' : Nat) (hp : pc + 1 = pc') {a : Nat} {i : Int32} (j : Nat) (hj : i = nI j) (ho : Ob E h 10 a) (hlt : j < eN E a) (hb : j < 2 ^ 31) (hd : decode M.2.2.1 pc = .ok (.baload, 1)) (kk : G E M R Post pc' L (.int (h.2.2.1 a j) :: st) h ac as) : G E M R Post pc L (.int i :: .ref a :: st) h ac as := by
  subst hp
  subst hj
  intro p e s m args below meth c H locs cells slots ls C hH hS hL h1 h2
  have hc : (nI j).toNatClampNeg = j := nI_clamp hb
  exact W.zald (v := .int (h.2.2.1 a j)) C.1 C.2.1 (hH.ai ho (by omega) (by omega)) ((C.2.2.2.2.2.2.2.2.1.arr (ci := 10) (by omega) (by omega)).1 _ _) (fun q => by cases q) (by rw [arrV_size, hc]; exact fun q => q.elim (nI_pos hb) (by omega)) (by rw [hc, arrV_read _ _ hlt]) rfl rfl hd (kk p e s m args below meth c H locs cells slots ls C hH hS hL h1 h2)
theorem aTy_ref {ci : Nat} (h11 : ¬ ci < 11) : (aTy ci).isReference = true := by
  rcases ci with _ | _ | _ | _ | _ | _ | _ | _ | _ | _ | _ | _ | _ | _ | _ | n
  any_goals omega
  all_goals rfl
theorem G_aaload (pc' : Nat) (hp : pc + 1 = pc') {a ci : Nat} {i : Int32} (j : Nat) (hj : i = nI j) (ho : Ob E h ci a) (h11 : ¬ ci < 11) (h15 : ci < 15) (hlt : j < eN E a) (hb : j < 2 ^ 31) (hd : decode M.2.2.1 pc = .ok (.aaload, 1)) (kk : G E M R Post pc' L (va_rf (h.2.2.2.1 a j) :: st) h ac as) : G E M R Post pc L (.int i :: .ref a :: st) h ac as := by
  subst hp
  subst hj
  intro p e s m args below meth c H locs cells slots ls C hH hS hL h1 h2
  have hc : (nI j).toNatClampNeg = j := nI_clamp hb
  exact W.aald (v := va_rf (h.2.2.2.1 a j)) (ty := aTy ci) C.1 C.2.1 (hH.aq ho h11) ((C.2.2.2.2.2.2.2.2.1.arr (ci := ci) (by omega) h15).1 _ _) (aTy_ref h11) (fun q => by cases q) (by rw [arrV_size, hc]; exact fun q => q.elim (nI_pos hb) (by omega)) (by rw [hc, arrV_read _ _ hlt]) rfl rfl hd (kk p e s m args below meth c H locs cells slots ls C hH hS hL h1 h2)
theorem G_aaloadR (pc' : Nat) (hp : pc + 1 = pc') {a ci b : Nat} {i : Int32} (j : Nat) (hj : i = nI j) (ho : Ob E h ci a) (h11 : ¬ ci < 11) (h15 : ci < 15) (hlt : j < eN E a) (hb : j < 2 ^ 31) (hv : h.2.2.2.1 a j = some b) (hd : decode M.2.2.1 pc = .ok (.aaload, 1)) (kk : G E M R Post pc' L (.ref b :: st) h ac as) : G E M R Post pc L (.int i :: .ref a :: st) h ac as := by
  refine G_aaload pc' hp j hj ho h11 h15 hlt hb hd ?_
  rw [hv]
  exact kk
theorem sA_int {a i ci : Nat} {v : Int32} (hk : eK E a = ci) (h9 : ¬ ci < 9) (h11 : ci < 11) : ent E (sA h a i v) a = .inl (eC E ci, eN E a, .inl (upd (h.2.2.1 a) i v)) := by
  rw [ent_int hk h9 h11]
  congr 4
  funext j
  simp [sA, upd]
theorem sQ_ref {a i ci : Nat} {v : Option Nat} (hk : eK E a = ci) (h11 : ¬ ci < 11) : ent E (sQ h a i v) a = .inl (eC E ci, eN E a, .inr (.inr (.inr (.inr (va_up (h.2.2.2.1 a) i v))))) := by
  rw [ent_ref hk h11]
  congr 7
  funext j
  simp [sQ, va_up]
theorem G_iastore (pc' : Nat) (hp : pc + 1 = pc') {a : Nat} {i v : Int32} (j : Nat) (hj : i = nI j) (ho : Ob E h 9 a) (hlt : j < eN E a) (hb : j < 2 ^ 31) (hd : decode M.2.2.1 pc = .ok (.iastore, 1)) (kk : G E M R Post pc' L st (sA h a j v) ac as) : G E M R Post pc L (.int v :: .int i :: .ref a :: st) h ac as := by
  subst hp
  subst hj
  intro p e s m args below meth c H locs cells slots ls C hH hS hL h1 h2
  have hc : (nI j).toNatClampNeg = j := nI_clamp hb
  refine W.iast C.1 C.2.1 (hH.ai ho (by omega) (by omega)) ((C.2.2.2.2.2.2.2.2.1.arr (ci := 9) (by omega) (by omega)).1 _ _) (fun q => by cases q) (by rw [arrV_size, hc]; exact fun q => q.elim (nI_pos hb) (by omega)) rfl rfl hd fun H1 e1 e2 e3 => ?_
  refine kk p e s m args below meth c H1 _ cells slots ls C (hH.upd ho.2.1 ?_ e2 e3 (fun _ q => sA_oth q) rfl) (hS.put e2 e3 ho.2.1) hL h1 h2
  rw [sA_int ho.1 (by omega) (by omega)]
  show H1[a]? = some (vp_cell _ _)
  rw [e1, vp_cell_i, arrV_store, hc]
  congr 2
  funext q
  by_cases hq : q = j <;> simp [updV, upd, hq]
theorem G_bastore (pc' : Nat) (hp : pc + 1 = pc') {a : Nat} {i v : Int32} (j : Nat) (hj : i = nI j) (ho : Ob E h 10 a) (hlt : j < eN E a) (hb : j < 2 ^ 31) (hv : v = 0 ∨ v = 1) (hd : decode M.2.2.1 pc = .ok (.bastore, 1)) (kk : G E M R Post pc' L st (sA h a j v) ac as) : G E M R Post pc L (.int v :: .int i :: .ref a :: st) h ac as := by
  subst hp
  subst hj
  intro p e s m args below meth c H locs cells slots ls C hH hS hL h1 h2
  have hc : (nI j).toNatClampNeg = j := nI_clamp hb
  refine W.zast C.1 C.2.1 (hH.ai ho (by omega) (by omega)) ((C.2.2.2.2.2.2.2.2.1.arr (ci := 10) (by omega) (by omega)).1 _ _) (fun q => by cases q) (by rw [arrV_size, hc]; exact fun q => q.elim (nI_pos hb) (by omega)) rfl rfl hd fun H1 e1 e2 e3 => ?_
  refine kk p e s m args below meth c H1 _ cells slots ls C (hH.upd ho.2.1 ?_ e2 e3 (fun _ q => sA_oth q) rfl) (hS.put e2 e3 ho.2.1) hL h1 h2
  rw [sA_int ho.1 (by omega) (by omega)]
  show H1[a]? = some (vp_cell _ _)
  rw [e1, (nar01 hv).1, vp_cell_i, arrV_store, hc]
  congr 2
  funext q
  by_cases hq : q = j <;> simp [updV, upd, hq]
theorem G_aastoreN (pc' : Nat) (hp : pc + 1 = pc') {a ci : Nat} {C0 : String} {i : Int32} (j : Nat) (hj : i = nI j) (ho : Ob E h ci a) (h11 : ¬ ci < 11) (h15 : ci < 15) (hC0 : aTy ci = .object C0) (hlt : j < eN E a) (hb : j < 2 ^ 31) (hd : decode M.2.2.1 pc = .ok (.aastore, 1)) (kk : G E M R Post pc' L st (sQ h a j none) ac as) : G E M R Post pc L (.null :: .int i :: .ref a :: st) h ac as := by
  subst hp
  subst hj
  intro p e s m args below meth c H locs cells slots ls C hH hS hL h1 h2
  have hc : (nI j).toNatClampNeg = j := nI_clamp hb
  have hA := (C.2.2.2.2.2.2.2.2.1.arr (ci := ci) (by omega) h15).1
  rw [hC0] at hA
  refine va_WaastN (C := C0) C.1 C.2.1 (hH.aq ho h11) (hA _ _) (fun q => by cases q) (by rw [arrV_size, hc]; exact fun q => q.elim (nI_pos hb) (by omega)) rfl rfl hd fun H1 e1 e2 e3 => ?_
  refine kk p e s m args below meth c H1 _ cells slots ls C (hH.upd ho.2.1 ?_ e2 e3 (fun _ q => sQ_oth q) rfl) (hS.put e2 e3 ho.2.1) hL h1 h2
  rw [sQ_ref ho.1 h11]
  show H1[a]? = some (vp_cell _ _)
  rw [e1, vp_cell_q, arrV_store, hc]
  congr 2
  funext q
  by_cases hq : q = j <;> simp [updV, va_up, va_rf, hq]
theorem G_aastore (pc' : Nat) (hp : pc + 1 = pc') {a ci cv b : Nat} {i : Int32} (j : Nat) (hj : i = nI j) (ho : Ob E h ci a) (h11 : ¬ ci < 11) (h15 : ci < 15) (hcv : cv < 9) (hC0 : aTy ci = .object (cT cv).1) (hob : Ob E h cv b) (hlt : j < eN E a) (hb : j < 2 ^ 31) (hd : decode M.2.2.1 pc = .ok (.aastore, 1)) (kk : G E M R Post pc' L st (sQ h a j (some b)) ac as) : G E M R Post pc L (.ref b :: .int i :: .ref a :: st) h ac as := by
  subst hp
  subst hj
  intro p e s m args below meth c H locs cells slots ls C hH hS hL h1 h2
  have hc : (nI j).toNatClampNeg = j := nI_clamp hb
  have hKK := C.2.2.2.2.2.2.2.2.1
  have hRA := (hKK.arr (ci := ci) (by omega) h15).2
  rw [hC0] at hRA
  obtain ⟨kA, comp, k1, k2, k3, -⟩ := hRA
  have hcls := (hKK.1.1 cv _ (cT_at cv hcv)).2
  have hcomp : comp = (eD E).1 cv := Option.some.inj (k3.symm.trans hcls.1)
  subst hcomp
  obtain ⟨kC, hkC, -⟩ := hcls.2
  obtain ⟨cellV, g1, g2, g3, -⟩ := hH.obj hob hcv
  refine W.aast C.1 C.2.1 (hH.aq ho h11) (fun q h => by cases h) (fun h => by cases h) k1 k2 rfl hkC ⟨by exact nI_pos hb, by rw [arrV_size, hc]; exact hlt⟩ g1 (fun q h => by rw [g3] at h; cases h) (by rw [g2]; exact hkC) (by rw [g2]; exact va_assign hcls) rfl rfl hd fun H1 e1 e2 e3 => ?_
  refine kk p e s m args below meth c H1 _ cells slots ls C (hH.upd ho.2.1 ?_ e2 e3 (fun _ q => sQ_oth q) rfl) (hS.put e2 e3 ho.2.1) hL h1 h2
  rw [sQ_ref ho.1 h11]
  show H1[a]? = some (vp_cell _ _)
  rw [e1, vp_cell_q, arrV_store, hc]
  congr 2
  funext q
  by_cases hq : q = j <;> simp [updV, va_up, va_rf, hq]
/-! the script -/
theorem G_sload (pc' : Nat) (hp : pc + 1 = pc') {i : Int32} (j : Nat) (hj : i = nI j) (hlt : j < eZ E) (hb : j < 2 ^ 31) (hd : decode M.2.2.1 pc = .ok (.iaload, 1)) (kk : G E M R Post pc' L (.int (eX E j) :: st) h ac as) : G E M R Post pc L (.int i :: .ref (eS E) :: st) h ac as := by
  subst hp
  subst hj
  intro p e s m args below meth c H locs cells slots ls C hH hS hL h1 h2
  have hc : (nI j).toNatClampNeg = j := nI_clamp hb
  obtain ⟨scr, x1, x2, x3, x4, x5⟩ := hH.2.2.2.2
  exact W.iald (v := .int (eX E j)) C.1 C.2.1 x1 x2 x3 (by rw [x4, hc]; exact fun q => q.elim (nI_pos hb) (by omega)) (by rw [hc]; exact x5 _ hlt) rfl rfl hd (kk p e s m args below meth c H locs cells slots ls C hH hS hL h1 h2)
theorem G_slen (pc' : Nat) (hp : pc + 1 = pc') (hd : decode M.2.2.1 pc = .ok (.arraylength, 1)) (kk : G E M R Post pc' L (.int (nI (eZ E)) :: st) h ac as) : G E M R Post pc L (.ref (eS E) :: st) h ac as := by
  subst hp
  intro p e s m args below meth c H locs cells slots ls C hH hS hL h1 h2
  obtain ⟨scr, x1, x2, x3, x4, x5⟩ := hH.2.2.2.2
  exact W.alen (n := nI (eZ E)) C.1 C.2.1 x1 x2 (by rw [x4] <;> rfl) rfl rfl hd (kk p e s m args below meth c H locs cells slots ls C hH hS hL h1 h2)
/-! ===== making ===== -/
theorem dflt_key : ∀ ci, ci < 9 → ∀ k, k < nfl ci → defaultValue (tyF ci k) = if isRf ci k = true then Value.null else .int 0 := nine (by decide +kernel) (by decide +kernel) (by decide +kernel) (by decide +kernel) (by decide +kernel) (by decide +kernel) (by decide +kernel) (by decide +kernel) (by decide +kernel)
theorem dflt_rf {ci : Nat} (hc : ci < 9) : ∀ k, k < nfl ci → defaultValue (tyF ci k) = vp_V (flds (sN h) ci (hn h)) k := by
  intro k hk
  have e : vp_V (flds (sN h) ci (hn h)) k = fv (sN h) ci (hn h) k := by simp [vp_V, flds_at hk]
  rw [e]
  rw [dflt_key ci hc k hk]
  simp [fv, sN, va_rf]
theorem G_new (pc' : Nat) (hp : pc + 3 = pc') {idx ci ac' as' : Nat} (hc : ci < 9) (hw : Cond.classLink M.1 idx (cT ci).1 ∈ lw_good) (hw2 : Cond.instantiable (cT ci).1 (nfl ci) ∈ lw_good) (hw3 : Cond.initialized (cT ci).1 ∈ lw_good) (hk : eK E (hn h) = ci) (hac : ac = ac' + 1) (has : as = as' + nfl ci) (hd : decode M.2.2.1 pc = .ok (.new idx, 3)) (kk : G E M R Post pc' L (.ref (hn h) :: st) (sN h) ac' as') : G E M R Post pc L st h ac as := by
  subst hp
  intro p e s m args below meth c H locs cells slots ls C hH hS hL h1 h2
  have hts := C.2.2.2.2.1
  have hK := C.2.2.2.2.2.2.2.2.1.1
  have hKn := hK.1 ci _ (cT_at ci hc)
  refine W.newcK C.1 C.2.1 C.2.2.2.1 (hts _ (List.mem_cons_of_mem _ hw)) (hts _ (List.mem_cons_of_mem _ hw2)) (hts _ (List.mem_cons_of_mem _ hw3)) rfl hd (by omega) (by omega) hKn.2.1 hH.2.2.1 fun H1 kC hkC e1 z1 o1 => ?_
  rw [← hH.2.2.1] at o1 z1
  refine kk p e s m args below meth c H1 locs (cells + 1) (slots + nfl ci) ls C (hH.new ?_ z1 o1) (hS.app1 z1 o1) hL (by omega) (by omega)
  rw [ent_obj hk hc]
  refine ⟨cT ci, cT_at ci hc, ?_⟩
  have hin : ∀ w ∈ u_ws (cT ci).1 (cT ci).2.1 (cT ci).2.2, w ∈ WS M := fun w hw' => List.mem_cons_of_mem _ (cT_w ci hc w hw')
  refine (u_born (tyF ci) hts hin hKn hkC e1 (cT_ty ci hc)).to ?_
  rw [cT_n ci hc]
  exact dflt_rf hc
theorem G_newI (pc' : Nat) (hp : pc + 2 = pc') {n : Int32} {N ac' as' ci : Nat} {at' : ArrayType} (hci : (ci = 9 ∧ newarray.typeOf at' = .int) ∨ (ci = 10 ∧ newarray.typeOf at' = .boolean)) (hw : Cond.arrayClass (newarray.typeOf at') ∈ lw_good) (hn1 : n = nI N) (hN : N < 65536) (hk : eK E (hn h) = ci) (hl : eN E (hn h) = N) (hac : ac = ac' + 1) (has : as = as' + N) (hd : decode M.2.2.1 pc = .ok (.newarray at', 2)) (kk : G E M R Post pc' L (.ref (hn h) :: st) (sN h) ac' as') : G E M R Post pc L (.int n :: st) h ac as := by
  subst hp
  subst hn1
  intro p e s m args below meth c H locs cells slots ls C hH hS hL h1 h2
  have hts := C.2.2.2.2.1
  have hKK := C.2.2.2.2.2.2.2.2.1
  have hc : (nI N).toNatClampNeg = N := nI_clamp (by omega)
  have hby : N * componentBytes (newarray.typeOf at') ≤ 536870912 := by
    rcases hci with ⟨-, q⟩ | ⟨-, q⟩ <;> rw [q] <;> simp [componentBytes] <;> omega
  refine va_newaK C.1 C.2.1 (hts _ (List.mem_cons_of_mem _ hw)) rfl hd rfl (nI_pos (by omega)) hc hby (by omega) (by omega) hH.2.2.1 fun H1 cA e1 z1 o1 hAr hNm => ?_
  rw [← hH.2.2.1] at o1 z1
  refine kk p e s m args below meth c H1 locs (cells + 1) (slots + N) ls C (hH.new ?_ z1 o1) (hS.app1 z1 o1) hL (by omega) (by omega)
  have hz : (fun j : Nat => Value.int ((sN h).2.2.1 (hn h) j)) = fun _ => .int 0 := by funext j; simp [sN]
  rcases hci with ⟨rfl, q⟩ | ⟨rfl, q⟩
  · rw [q] at e1 hNm
    have : cA = eC E 9 := Option.some.inj (hNm.symm.trans (hKK.arr (ci := 9) (by omega) (by omega)).2)
    subst this
    rw [ent_int hk (by omega) (by omega)]
    show H1[hn h]? = some (vp_cell _ _)
    rw [vp_cell_i, hl, hz]
    exact e1
  · rw [q] at e1 hNm
    have : cA = eC E 10 := Option.some.inj (hNm.symm.trans (hKK.arr (ci := 10) (by omega) (by omega)).2)
    subst this
    rw [ent_int hk (by omega) (by omega)]
    show H1[hn h]? = some (vp_cell _ _)
    rw [vp_cell_i, hl, hz]
    exact e1
theorem KK.over {s : State} (hK : KK E s) {ci : Nat} {C0 : String} (h11 : ¬ ci < 11) (h15 : ci < 15) (hC : aTy ci = .object C0) : va_AO C0 s := by
  obtain ⟨a1, a2, a3, a4⟩ := hK.2.1
  rcases ci with _ | _ | _ | _ | _ | _ | _ | _ | _ | _ | _ | _ | _ | _ | _ | n
  any_goals omega
  · cases hC; exact a1
  · cases hC; exact a2
  · cases hC; exact a3
  · cases hC; exact a4
theorem G_anew (pc' : Nat) (hp : pc + 3 = pc') {n : Int32} {N ac' as' ci idx : Nat} {C0 : String} (h11 : ¬ ci < 11) (h15 : ci < 15) (hC : aTy ci = .object C0) (hw : Cond.classLink M.1 idx C0 ∈ lw_good) (hn1 : n = nI N) (hN : N < 65536) (hk : eK E (hn h) = ci) (hl : eN E (hn h) = N) (hac : ac = ac' + 1) (has : as = as' + N) (hd : decode M.2.2.1 pc = .ok (.anewarray idx, 3)) (kk : G E M R Post pc' L (.ref (hn h) :: st) (sN h) ac' as') : G E M R Post pc L (.int n :: st) h ac as := by
  subst hp
  subst hn1
  intro p e s m args below meth c H locs cells slots ls C hH hS hL h1 h2
  have hts := C.2.2.2.2.1
  have hKK := C.2.2.2.2.2.2.2.2.1
  have hc : (nI N).toNatClampNeg = N := nI_clamp (by omega)
  refine W.anew C.1 C.2.1 C.2.2.2.1 (hts _ (List.mem_cons_of_mem _ hw)) (va_AO.use (hKK.over h11 h15 hC)) rfl hd rfl (nI_pos (by omega)) (by rw [hc]; omega) (by omega) (by rw [hc]; omega) fun cA kA comp f1 f2 f3 f4 => ?_
  rw [hc, hH.2.2.1]
  have hRA := (hKK.arr (ci := ci) (by omega) h15).2
  rw [hC] at hRA
  obtain ⟨kA', comp', -, -, -, k4⟩ := hRA
  have : cA = eC E ci := Option.some.inj (f1.symm.trans k4)
  subst this
  generalize hH1 : H.push ({ cls := eC E ci, slots := Array.replicate N .null, vm := .none } : Cell) = H1
  have z1 : H1.size = H.size + 1 := by rw [← hH1, Array.size_push]
  have e1 : H1[H.size]? = some (arrV (eC E ci) N (fun _ => .null)) := by rw [← hH1, Array.getElem?_push_size, ← arrV_new]
  have o1 : ∀ q : Nat, q < H.size → H1[q]? = H[q]? := fun q hq => by rw [← hH1, Array.getElem?_push, if_neg (Nat.ne_of_lt hq)]
  refine kk p e s m args below meth c H1 locs (cells + 1) (slots + N) ls C (hH.new ?_ z1 o1) (hS.app1 z1 o1) hL (by omega) (by omega)
  have hz : (fun j : Nat => va_rf ((sN h).2.2.2.1 (hn h) j)) = fun _ => .null := by funext j; simp [sN, va_rf]
  rw [ent_ref hk h11]
  show H1[hn h]? = some (vp_cell _ _)
  rw [vp_cell_q, hl, hz, ← hH.2.2.1]
  exact e1
theorem G_objInit (pc' : Nat) (hp : pc + 3 = pc') {a idx : Nat} (hw : Cond.methodLink M.1 idx objectInit ∈ lw_good) (hw2 : Cond.instanceMethod objectInit ∈ lw_good) (hw3 : Cond.code objectInit ⟨#[0xb1]⟩ 1 none ∈ lw_good) (hst : (st.map fun v => v.category).sum ≤ 8) (hR : 1 ≤ R.frames ∧ 20 ≤ R.locals) (hd : decode M.2.2.1 pc = .ok (.invokespecial idx, 3)) (kk : G E M R Post pc' L st h ac as) : G E M R Post pc L (.ref a :: st) h ac as := by
  subst hp
  intro p e s m args below meth c H locs cells slots ls C hH hS hL h1 h2
  have hts := C.2.2.2.2.1
  refine W.objInit C.1 C.2.1 C.2.2.2.1 (hts _ (List.mem_cons_of_mem _ hw)) (hts _ (List.mem_cons_of_mem _ hw2)) (hts _ (List.mem_cons_of_mem _ hw3)) rfl (hL.1.trans C.2.2.1.symm) rfl hd hR.1 ?_ (kk p e s m args below meth c H locs cells slots ls C hH hS hL h1 h2)
  show 2 * 0 + _ + 12 ≤ R.locals
  omega
end ARRAYS

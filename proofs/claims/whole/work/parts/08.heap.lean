/-! ===== class tables ===== -/
def cT (ci : Nat) : vw_C := match ci with
  | 0 => (RX0, TX0, 6) | 1 => (RX1, TX1, 2) | 2 => (RX2, TX2, 4) | 3 => (RX3, TX3, 5) | 4 => (RX4, TX4, 2) | 5 => (RX5, TX5, 20) | 6 => (RX6, TX6, 3) | 7 => (RX7, TX7, 9) | _ => (RX8, TX8, 41)
theorem nine {P : Nat → Prop} (h0 : P 0) (h1 : P 1) (h2 : P 2) (h3 : P 3) (h4 : P 4) (h5 : P 5) (h6 : P 6) (h7 : P 7) (h8 : P 8) : ∀ ci, ci < 9 → P ci
  | 0, _ => h0 | 1, _ => h1 | 2, _ => h2 | 3, _ => h3 | 4, _ => h4 | 5, _ => h5 | 6, _ => h6 | 7, _ => h7 | 8, _ => h8
  | n + 9, h => absurd h (by omega)
theorem cT_at : ∀ ci, ci < 9 → vwCl[ci]? = some (cT ci) := nine rfl rfl rfl rfl rfl rfl rfl rfl rfl
theorem cT_n : ∀ ci, ci < 9 → (cT ci).2.2 = nfl ci := nine rfl rfl rfl rfl rfl rfl rfl rfl rfl
theorem cT_w : ∀ ci, ci < 9 → ∀ w ∈ u_ws (cT ci).1 (cT ci).2.1 (cT ci).2.2, w ∈ lw_good := nine (by decide +kernel) (by decide +kernel) (by decide +kernel) (by decide +kernel) (by decide +kernel) (by decide +kernel) (by decide +kernel) (by decide +kernel) (by decide +kernel)
theorem cT_ty : ∀ ci, ci < 9 → ∀ k, k < (cT ci).2.2 → parseFieldDescriptor ((cT ci).2.1 k).2.2.1 = some (tyF ci k) := nine tyX0_ok tyX1_ok tyX2_ok tyX3_ok tyX4_ok tyX5_ok tyX6_ok tyX7_ok tyX8_ok
theorem cT_nm : ∀ ci, ci < 9 → ∀ a, a < (cT ci).2.2 → ∀ b, b < (cT ci).2.2 → a ≠ b → ((cT ci).2.1 a).2.1 ≠ ((cT ci).2.1 b).2.1 := nine nmX0 nmX1 nmX2 nmX3 nmX4 nmX5 nmX6 nmX7 nmX8
def FL (own : String) (idx ci k : Nat) : Prop := ci < 9 ∧ k < nfl ci ∧ Cond.fieldLink own idx ((cT ci).2.1 k).1 ((cT ci).2.1 k).2.1 ((cT ci).2.1 k).2.2.1 ∈ lw_good
/-! ===== cells and maps ===== -/
theorem flds_at {h : Hp} {ci a k : Nat} (hk : k < nfl ci) : (flds h ci a)[k]? = some (fv h ci a k) := by
  unfold flds
  rw [List.getElem?_map, List.getElem?_range hk]
  rfl
theorem flds_len {h : Hp} {ci a : Nat} : (flds h ci a).length = nfl ci := by unfold flds; rw [List.length_map, List.length_range]
theorem flds_set {h h' : Hp} {ci a k : Nat} {v : Value} (hk : k < nfl ci) (h1 : fv h' ci a k = v) (h2 : ∀ j, j ≠ k → fv h' ci a j = fv h ci a j) : flds h' ci a = (flds h ci a).set k v := by
  apply List.ext_getElem?
  intro j
  by_cases hj : j = k
  · subst hj
    rw [List.getElem?_set_self (by rw [flds_len]; exact hk), flds_at hk, h1]
  · rw [List.getElem?_set_ne (Ne.symm hj)]
    by_cases hl : j < nfl ci
    · rw [flds_at hl, flds_at hl, h2 j hj]
    · rw [List.getElem?_eq_none (by rw [flds_len]; omega), List.getElem?_eq_none (by rw [flds_len]; omega)]
theorem flds_congr {h h' : Hp} {ci a : Nat} (h2 : ∀ j, fv h' ci a j = fv h ci a j) : flds h' ci a = flds h ci a := by unfold flds; exact List.map_congr_left (fun j _ => h2 j)
theorem sI_oth {E : Ev} {h : Hp} {f a b : Nat} {v : Int32} (hb : b ≠ a) : ent E (sI h f a v) b = ent E h b := by
  have : ∀ ci, flds (sI h f a v) ci b = flds h ci b := fun ci => flds_congr (fun j => by simp [fv, sI, hb])
  unfold ent
  rw [this]
  rfl
theorem sR_oth {E : Ev} {h : Hp} {f a b : Nat} {v : Option Nat} (hb : b ≠ a) : ent E (sR h f a v) b = ent E h b := by
  have : ∀ ci, flds (sR h f a v) ci b = flds h ci b := fun ci => flds_congr (fun j => by simp [fv, sR, hb])
  unfold ent
  rw [this]
  rfl
theorem sA_oth {E : Ev} {h : Hp} {i a b : Nat} {v : Int32} (hb : b ≠ a) : ent E (sA h a i v) b = ent E h b := by
  have : ∀ ci, flds (sA h a i v) ci b = flds h ci b := fun ci => flds_congr (fun j => rfl)
  unfold ent
  rw [this]
  simp [sA, hb]
theorem sQ_oth {E : Ev} {h : Hp} {i a b : Nat} {v : Option Nat} (hb : b ≠ a) : ent E (sQ h a i v) b = ent E h b := by
  have : ∀ ci, flds (sQ h a i v) ci b = flds h ci b := fun ci => flds_congr (fun j => rfl)
  unfold ent
  rw [this]
  simp [sQ, hb]
theorem sN_oth {E : Ev} {h : Hp} {b : Nat} (hb : b ≠ hn h) : ent E (sN h) b = ent E h b := by
  have : ∀ ci, flds (sN h) ci b = flds h ci b := fun ci => flds_congr (fun j => by simp [fv, sN, hb])
  unfold ent
  rw [this]
  simp [sN, hb]
theorem ent_obj {E : Ev} {h : Hp} {a ci : Nat} (hk : eK E a = ci) (hc : ci < 9) : ent E h a = .inr (ci, flds h ci a) := by unfold ent; rw [hk, if_pos hc]
theorem ent_int {E : Ev} {h : Hp} {a ci : Nat} (hk : eK E a = ci) (h9 : ¬ ci < 9) (h11 : ci < 11) : ent E h a = .inl (eC E ci, eN E a, .inl (h.2.2.1 a)) := by unfold ent; rw [hk, if_neg h9, if_pos h11]
theorem ent_ref {E : Ev} {h : Hp} {a ci : Nat} (hk : eK E a = ci) (h11 : ¬ ci < 11) : ent E h a = .inl (eC E ci, eN E a, .inr (.inr (.inr (.inr (h.2.2.2.1 a))))) := by unfold ent; rw [hk, if_neg (by omega), if_neg h11]
theorem pl_at {E : Ev} {h : Hp} {a : Nat} (h1 : eB E ≤ a) (h2 : a < hn h) : ∃ k : Nat, (pl E h)[k]? = some (a, ent E h a) := va_pl_get (X := []) (by rw [List.mem_range'_1]; omega)
theorem pl_mem {E : Ev} {h : Hp} {k : Nat} {q : Nat × va_E} (hk : (pl E h)[k]? = some q) : q = (q.1, ent E h q.1) ∧ eB E ≤ q.1 ∧ (eB E ≤ hn h → q.1 < hn h) := by
  have hm := List.mem_of_getElem? hk
  unfold pl va_pl at hm
  obtain ⟨a, ha, rfl⟩ := List.mem_map.mp hm
  rw [List.mem_range'_1] at ha
  exact ⟨rfl, ha.1, fun z => by omega⟩
theorem HH.at {E : Ev} {s : State} {h : Hp} {H : Heap} {a : Nat} (hH : HH E s h H) (h1 : eB E ≤ a) (h2 : a < hn h) : va_at (eD E) vwCl (a, ent E h a) H := by
  obtain ⟨k, hk⟩ := pl_at (E := E) h1 h2
  exact hH.1 k _ hk
theorem HH.obj {E : Ev} {s : State} {h : Hp} {H : Heap} {a ci : Nat} (hH : HH E s h H) (ho : Ob E h ci a) (hc : ci < 9) : t_OB a ((eD E).1 ci) (nfl ci) ((eD E).2 ci) H (vp_V (flds h ci a)) := by
  have h1 := hH.at ho.2.1 ho.2.2
  rw [ent_obj ho.1 hc] at h1
  obtain ⟨r, h3, h4⟩ := h1
  have : r = cT ci := Option.some.inj (h3.symm.trans (cT_at ci hc))
  subst this
  rw [cT_n ci hc] at h4
  exact h4
theorem HH.upd {E : Ev} {s : State} {h h' : Hp} {H H1 : Heap} {a : Nat} (hH : HH E s h H) (ha : eB E ≤ a) (hat : va_at (eD E) vwCl (a, ent E h' a) H1) (hz : H1.size = H.size) (oq : ∀ q, q ≠ a → H1[q]? = H[q]?) (hoth : ∀ b, b ≠ a → ent E h' b = ent E h b) (hn' : hn h' = hn h) : HH E s h' H1 := by
  obtain ⟨hP, hB, hsz, hs, hX⟩ := hH
  refine ⟨fun k q hk => ?_, by rw [hn']; exact hB, by rw [hz, hn']; exact hsz, hs, hX.kept (oq _ (by omega))⟩
  obtain ⟨e1, e2, e3⟩ := pl_mem hk
  have e3 := e3 (by rw [hn']; exact hB)
  rw [hn'] at e3
  by_cases hq : q.1 = a
  · rw [e1, hq]
    exact hat
  · rw [e1, hoth _ hq]
    obtain ⟨j, hj⟩ := pl_at (E := E) (h := h) e2 e3
    exact (hP j _ hj).kept (oq _ hq)
theorem HH.new {E : Ev} {s : State} {h : Hp} {H H1 : Heap} (hH : HH E s h H) (hat : va_at (eD E) vwCl (hn h, ent E (sN h) (hn h)) H1) (hz : H1.size = H.size + 1) (oq : ∀ q, q < H.size → H1[q]? = H[q]?) : HH E s (sN h) H1 := by
  obtain ⟨hP, hB, hsz, hs, hX⟩ := hH
  have hns : hn (sN h) = hn h + 1 := rfl
  refine ⟨fun k q hk => ?_, by rw [hns]; omega, by rw [hz, hns, hsz], hs, hX.kept (oq _ (by omega))⟩
  obtain ⟨e1, e2, e3⟩ := pl_mem hk
  have e3 := e3 (by rw [hns]; omega)
  rw [hns] at e3
  by_cases hq : q.1 = hn h
  · rw [e1, hq]
    exact hat
  · rw [e1, sN_oth hq]
    have h3 : q.1 < hn h := by omega
    obtain ⟨j, hj⟩ := pl_at (E := E) (h := h) e2 h3
    exact (hP j _ hj).kept (oq _ (by rw [hsz]; exact h3))
theorem va_S.app1 {A : Nat → Prop} {H0 H H1 : Heap} {locs : List Loc} (h : va_S A H0 H locs) (z : H1.size = H.size + 1) (oq : ∀ q : Nat, q < H.size → H1[q]? = H[q]?) : va_S A H0 H1 locs :=
  ⟨by rw [z]; have := h.1; omega, fun q h1 h2 => (oq q (by have := h.1; omega)).trans (h.2.1 q h1 h2), h.2.2⟩
section HEAP
variable {E : Ev} {M : MD} {R : Room} {Post : Option Value → Hp → Prop} {pc : Nat} {L : List (Option Value)} {st : List Value} {h : Hp} {ac as : Nat}
/-! ===== fields ===== -/
theorem G_getX (pc' : Nat) (hp : pc + 3 = pc') {a idx ci k : Nat} (hf : FL M.1 idx ci k) (ho : Ob E h ci a) (hd : decode M.2.2.1 pc = .ok (.getfield idx, 3)) (kk : G E M R Post pc' L (fv h ci a k :: st) h ac as) : G E M R Post pc L (.ref a :: st) h ac as := by
  subst hp
  intro p e s m args below meth c H locs cells slots ls C hH hS hL h1 h2
  obtain ⟨hc, hk, hw⟩ := hf
  obtain ⟨cell, q1, q2, q3, q4⟩ := hH.obj ho hc
  obtain ⟨hSl, hfc, kC, hkC, hkind⟩ := C.2.2.2.2.2.2.2.2.1.1.1 ci _ (cT_at ci hc)
  have hkN : k < (cT ci).2.2 := by rw [cT_n ci hc]; exact hk
  obtain ⟨cf, kf, fi, f, hi, hsl⟩ := hSl k hkN
  have hts := C.2.2.2.2.1
  have hin : ∀ w ∈ u_ws (cT ci).1 (cT ci).2.1 (cT ci).2.2, w ∈ WS M := fun w hw' => List.mem_cons_of_mem _ (cT_w ci hc w hw')
  refine W.getf C.1 C.2.1 C.2.2.2.1 (hts _ (List.mem_cons_of_mem _ hw)) hi (u_facts hfc hkC (u_lays hts hin hkN) hi).1 q1 (by rw [q3]; exact fun h => by cases h) (v := fv h ci a k) ?_ rfl rfl hd (kk p e s m args below meth c H locs cells slots ls C hH hS hL h1 h2)
  rw [hsl, q4 k hk]
  simp [vp_V, flds_at hk]
theorem G_getI (pc' : Nat) (hp : pc + 3 = pc') {a idx ci k : Nat} (hf : FL M.1 idx ci k) (hi : isRf ci k = false) (ho : Ob E h ci a) (hd : decode M.2.2.1 pc = .ok (.getfield idx, 3)) (kk : G E M R Post pc' L (.int (h.1 (64 * ci + k) a) :: st) h ac as) : G E M R Post pc L (.ref a :: st) h ac as := by
  refine G_getX pc' hp hf ho hd ?_
  unfold fv
  rw [if_neg (by rw [hi]; decide)]
  exact kk
theorem G_getR (pc' : Nat) (hp : pc + 3 = pc') {a idx ci k b : Nat} (hf : FL M.1 idx ci k) (hi : isRf ci k = true) (ho : Ob E h ci a) (hv : h.2.1 (64 * ci + k) a = some b) (hd : decode M.2.2.1 pc = .ok (.getfield idx, 3)) (kk : G E M R Post pc' L (.ref b :: st) h ac as) : G E M R Post pc L (.ref a :: st) h ac as := by
  refine G_getX pc' hp hf ho hd ?_
  unfold fv
  rw [if_pos hi, hv]
  exact kk
theorem G_getQ (pc' : Nat) (hp : pc + 3 = pc') {a idx ci k : Nat} (hf : FL M.1 idx ci k) (hi : isRf ci k = true) (ho : Ob E h ci a) (hd : decode M.2.2.1 pc = .ok (.getfield idx, 3)) (kk : G E M R Post pc' L (va_rf (h.2.1 (64 * ci + k) a) :: st) h ac as) : G E M R Post pc L (.ref a :: st) h ac as := by
  refine G_getX pc' hp hf ho hd ?_
  unfold fv
  rw [if_pos hi]
  exact kk
theorem G_putX (pc' : Nat) (hp : pc + 3 = pc') {h' : Hp} {a idx ci k : Nat} {v : Value} (hf : FL M.1 idx ci k) (hfin : ((cT ci).2.1 k).2.2.2 = false ∨ (((cT ci).2.1 k).2.2.2 = true ∧ M.2.1.name = "<init>" ∧ ((cT ci).2.1 k).1 = M.1)) (ho : Ob E h ci a) (hnr : narrow (tyF ci k) v = v) (hfit : fits (tyF ci k) v = true)
    (hset : flds h' ci a = (flds h ci a).set k v) (hoth : ∀ b, b ≠ a → ent E h' b = ent E h b) (hn' : hn h' = hn h) (hd : decode M.2.2.1 pc = .ok (.putfield idx, 3)) (kk : G E M R Post pc' L st h' ac as) : G E M R Post pc L (v :: .ref a :: st) h ac as := by
  subst hp
  intro p e s m args below meth c H locs cells slots ls C hH hS hL h1 h2
  obtain ⟨hc, hk, hw⟩ := hf
  obtain ⟨cell, q1, q2, q3, q4⟩ := hH.obj ho hc
  have hK := C.2.2.2.2.2.2.2.2.1.1
  obtain ⟨hSl, hfc, kC, hkC, hkind⟩ := hK.1 ci _ (cT_at ci hc)
  have hkN : k < (cT ci).2.2 := by rw [cT_n ci hc]; exact hk
  obtain ⟨cf, kf, fi, f, hi, hsl⟩ := hSl k hkN
  have hts := C.2.2.2.2.1
  have hin : ∀ w ∈ u_ws (cT ci).1 (cT ci).2.1 (cT ci).2.2, w ∈ WS M := fun w hw' => List.mem_cons_of_mem _ (cT_w ci hc w hw')
  have hap := va_apart (own := M.1) hts hin (tyF ci) (cT_ty ci hc) (cT_nm ci hc) hK (cT_at ci hc)
  rw [cT_n ci hc] at hap
  have hlay := hts _ (hin _ (u_in_lay hkN))
  unfold u_lay at hlay
  have hst := (u_facts hfc hkC (u_lays hts hin hkN) hi).1
  have fin : ∀ H1 : Heap, H1[a]? = some (cell.setSlot f.slot v) → H1.size = H.size → (∀ q, q ≠ a → H1[q]? = H[q]?) → W p (eL E) e R s m args below meth c H1 (locs ++ [⟨a, f.slot⟩]) cells slots (MQ below (QQ E Post) args s R.cells R.slots (eA E)) (F0 m (pc + 3) ls st) := by
    intro H1 e1 e2 e3
    refine kk p e s m args below meth c H1 _ cells slots ls C (hH.upd ho.2.1 ?_ e2 e3 hoth hn') (hS.put e2 e3 ho.2.1) hL h1 h2
    rw [ent_obj ho.1 hc, hset]
    refine ⟨cT ci, cT_at ci hc, ?_⟩
    rw [cT_n ci hc]
    rw [hsl] at e1
    exact t_OB.to (V := updV (vp_V (flds h ci a)) k v) ⟨_, e1, q2, q3, t_set q4 hap hk v⟩ (fun j _ => vp_updV_set (by rw [flds_len]; exact hk) v j)
  rcases hfin with hfin | ⟨hfin, hinit, hdecl⟩
  · rw [if_neg (by rw [hfin]; decide)] at hlay
    have h6 := u_store hfc hkC hkind hlay hi (cT_ty ci hc k hkN) hnr hfit
    exact W.putK C.1 C.2.1 (f := f) ⟨C.2.2.2.1, hts _ (List.mem_cons_of_mem _ hw), ⟨_, _, _, hi⟩, hst⟩ (by rw [q2]; exact h6) q1 q3 (by rw [hsl]; exact k2_hasslot (q4 k hk)) rfl rfl hd fin
  · rw [if_pos hfin] at hlay
    have hcf : m.cls = cf := by
      obtain ⟨_, _, c', _, _, _, -, -, hf', -, -, -, hown2, -⟩ := Cond.laysFinal_spec hlay
      have e1 : c' = cf := by have := hi.symm.trans hf'; simp at this; exact this.1.symm
      rw [hdecl] at hown2
      rw [← e1]; exact Option.some.inj (C.2.2.2.1.symm.trans hown2)
    have h6 := u_fits hfc hkC hkind (Or.inr hlay) hi (cT_ty ci hc k hkN) hnr hfit
    exact W.putFinK C.1 C.2.1 C.2.2.2.1 (hts _ (List.mem_cons_of_mem _ hw)) hi hst hcf (C.2.2.2.2.2.2.2.1.trans hinit) (by rw [q2]; exact h6) q1 q3 (by rw [hsl]; exact k2_hasslot (q4 k hk)) rfl rfl hd fin
theorem fI_set {h : Hp} {ci a k : Nat} {v : Int32} (hk : k < nfl ci) (hi : isRf ci k = false) : flds (sI h (64 * ci + k) a v) ci a = (flds h ci a).set k (.int v) := by
  refine flds_set hk ?_ (fun j hj => ?_)
  · simp [fv, sI, hi]
  · simp [fv, sI, hj]
theorem fR_set {h : Hp} {ci a k : Nat} {v : Option Nat} (hk : k < nfl ci) (hi : isRf ci k = true) : flds (sR h (64 * ci + k) a v) ci a = (flds h ci a).set k (va_rf v) := by
  refine flds_set hk ?_ (fun j hj => ?_)
  · simp [fv, sR, hi]
  · simp [fv, sR, hj]
theorem G_putI (pc' : Nat) (hp : pc + 3 = pc') {a idx ci k : Nat} {v : Int32} (hf : FL M.1 idx ci k) (hi : isRf ci k = false ∧ tyF ci k = .int ∧ ((cT ci).2.1 k).2.2.2 = false) (ho : Ob E h ci a) (hd : decode M.2.2.1 pc = .ok (.putfield idx, 3)) (kk : G E M R Post pc' L st (sI h (64 * ci + k) a v) ac as) : G E M R Post pc L (.int v :: .ref a :: st) h ac as :=
  G_putX pc' hp hf (Or.inl hi.2.2) ho (by rw [hi.2.1]; rfl) (by rw [hi.2.1]; rfl) (fI_set hf.2.1 hi.1) (fun _ hb => sI_oth hb) rfl hd kk
theorem nar01 {v : Int32} (hv : v = 0 ∨ v = 1) : narrow .boolean (.int v) = .int v ∧ fits .boolean (.int v) = true := by
  rcases hv with rfl | rfl <;> exact ⟨by decide, by decide⟩
theorem G_putZ (pc' : Nat) (hp : pc + 3 = pc') {a idx ci k : Nat} {v : Int32} (hf : FL M.1 idx ci k) (hi : isRf ci k = false ∧ tyF ci k = .boolean ∧ ((cT ci).2.1 k).2.2.2 = false) (hv : v = 0 ∨ v = 1) (ho : Ob E h ci a) (hd : decode M.2.2.1 pc = .ok (.putfield idx, 3)) (kk : G E M R Post pc' L st (sI h (64 * ci + k) a v) ac as) : G E M R Post pc L (.int v :: .ref a :: st) h ac as :=
  G_putX pc' hp hf (Or.inl hi.2.2) ho (by rw [hi.2.1]; exact (nar01 hv).1) (by rw [hi.2.1]; exact (nar01 hv).2) (fI_set hf.2.1 hi.1) (fun _ hb => sI_oth hb) rfl hd kk
theorem G_putFI (pc' : Nat) (hp : pc + 3 = pc') {a idx ci k : Nat} {v : Int32} (hf : FL M.1 idx ci k) (hi : isRf ci k = false ∧ tyF ci k = .int ∧ ((cT ci).2.1 k).2.2.2 = true) (hin : M.2.1.name = "<init>" ∧ ((cT ci).2.1 k).1 = M.1) (ho : Ob E h ci a) (hd : decode M.2.2.1 pc = .ok (.putfield idx, 3)) (kk : G E M R Post pc' L st (sI h (64 * ci + k) a v) ac as) : G E M R Post pc L (.int v :: .ref a :: st) h ac as :=
  G_putX pc' hp hf (Or.inr ⟨hi.2.2, hin⟩) ho (by rw [hi.2.1]; rfl) (by rw [hi.2.1]; rfl) (fI_set hf.2.1 hi.1) (fun _ hb => sI_oth hb) rfl hd kk
theorem nar_rf {ty : FieldType} (ht : ty.isReference = true) (r : Option Nat) : narrow ty (va_rf r) = va_rf r ∧ fits ty (va_rf r) = true := by
  cases r <;> cases ty <;> first | exact ⟨rfl, rfl⟩ | (simp [FieldType.isReference] at ht)
theorem G_putR (pc' : Nat) (hp : pc + 3 = pc') {a idx ci k b : Nat} (hf : FL M.1 idx ci k) (hi : isRf ci k = true ∧ (tyF ci k).isReference = true ∧ ((cT ci).2.1 k).2.2.2 = false) (ho : Ob E h ci a) (hd : decode M.2.2.1 pc = .ok (.putfield idx, 3)) (kk : G E M R Post pc' L st (sR h (64 * ci + k) a (some b)) ac as) : G E M R Post pc L (.ref b :: .ref a :: st) h ac as :=
  G_putX pc' hp hf (Or.inl hi.2.2) ho (nar_rf hi.2.1 (some b)).1 (nar_rf hi.2.1 (some b)).2 (fR_set (v := some b) hf.2.1 hi.1) (fun _ hb => sR_oth hb) rfl hd kk
theorem G_putN (pc' : Nat) (hp : pc + 3 = pc') {a idx ci k : Nat} (hf : FL M.1 idx ci k) (hi : isRf ci k = true ∧ (tyF ci k).isReference = true ∧ ((cT ci).2.1 k).2.2.2 = false) (ho : Ob E h ci a) (hd : decode M.2.2.1 pc = .ok (.putfield idx, 3)) (kk : G E M R Post pc' L st (sR h (64 * ci + k) a none) ac as) : G E M R Post pc L (.null :: .ref a :: st) h ac as :=
  G_putX pc' hp hf (Or.inl hi.2.2) ho (nar_rf hi.2.1 none).1 (nar_rf hi.2.1 none).2 (fR_set (v := none) hf.2.1 hi.1) (fun _ hb => sR_oth hb) rfl hd kk
theorem G_putFR (pc' : Nat) (hp : pc + 3 = pc') {a idx ci k b : Nat} (hf : FL M.1 idx ci k) (hi : isRf ci k = true ∧ (tyF ci k).isReference = true ∧ ((cT ci).2.1 k).2.2.2 = true) (hin : M.2.1.name = "<init>" ∧ ((cT ci).2.1 k).1 = M.1) (ho : Ob E h ci a) (hd : decode M.2.2.1 pc = .ok (.putfield idx, 3)) (kk : G E M R Post pc' L st (sR h (64 * ci + k) a (some b)) ac as) : G E M R Post pc L (.ref b :: .ref a :: st) h ac as :=
  G_putX pc' hp hf (Or.inr ⟨hi.2.2, hin⟩) ho (nar_rf hi.2.1 (some b)).1 (nar_rf hi.2.1 (some b)).2 (fR_set (v := some b) hf.2.1 hi.1) (fun _ hb => sR_oth hb) rfl hd kk
end HEAP

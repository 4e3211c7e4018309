theorem uL_uL (σ : Sg) (c : Nat) (l l' : List Nat) : uL (uL σ c l) c l' = uL σ c l' := by
  unfold uL
  have : (fun q => if q = c then l' else if q = c then l else σ.2.2.1 q) = fun q => if q = c then l' else σ.2.2.1 q := by
    funext q; by_cases h : q = c <;> simp [h]
  simp only [this]
theorem uL_at (σ : Sg) (c : Nat) (l : List Nat) : sLs (uL σ c l) c = l := by simp [uL, sLs]
theorem uL_id (σ : Sg) (c : Nat) : uL σ c (sLs σ c) = σ := by
  have : (fun q => if q = c then sLs σ c else σ.2.2.1 q) = σ.2.2.1 := by
    funext q; by_cases h : q = c
    · subst h; simp
    · simp [h]
  unfold uL
  rw [this]
theorem G_setL {E : Ev} {M : MD} {R : Room} {Post : Option Value → Hp → Prop} {pc : Nat} {L : List (Option Value)} {st : List Value} {h : Hp} {ac as m : Nat} {σ : Sg} {τ : Tu} (pc' : Nat) (hp : pc + 1 = pc') (hR : RR E m σ τ h) {i : Int32} {c j n : Nat} (hi : i = nI j) (hc : c < 8) (hj : j < (sLs σ c).length) (hn : 1 ≤ n ∧ n ≤ sNp σ) (hd : decode M.2.2.1 pc = .ok (.aastore, 1)) (kk : ∀ h', RR E m (uL σ c ((sLs σ c).set j n)) τ h' → G E M R Post pc' L st h' ac as) : G E M R Post pc L (.ref (aE E m n) :: .int i :: .ref (aLA E m c) :: st) h ac as := by
  have hl := (hR.2.2.1.2.2.2.2.2.2.1 c hc).1
  exact G_aastore pc' hp (ci := 11) (cv := 0) (b := aE E m n) j hi (hR.obLA hc) (by decide) (by decide) (by decide) rfl (hR.ob (ci := 0) (i := n) (by decide) hn) (by rw [(hR.1.2.2.2.2.2.1 c hc).2]; omega) (by omega) hd (kk _ (hR.setL hc hj))
theorem RR.nulL {E : Ev} {m : Nat} {σ : Sg} {τ : Tu} {h : Hp} {c a : Nat} {v : Int32} (hR : RR E m σ τ (sI h 65 (aLs E m c) v)) (hc : c < 8) (ha : (sLs σ c).length ≤ a) : RR E m σ τ (sI (sQ h (aLA E m c) a none) 65 (aLs E m c) v) := by
  have c7 := hR.2.2.1.2.2.2.2.2.2.1 c hc
  have h1 := hR.relist (l := sLs σ c) (A1 := fun b j => if b = aLA E m c ∧ j = a then none else h.2.2.2.1 b j) hc c7.1 (fun b hb => by funext j; rw [if_neg (fun q => hb q.1)]; rfl) (fun j hj => by
    rw [if_neg (fun q => by omega)]
    exact c7.2.2 j hj)
  rw [uL_id] at h1
  rw [sI_id (h := ((sI h 65 (aLs E m c) v).1, (sI h 65 (aLs E m c) v).2.1, (sI h 65 (aLs E m c) v).2.2.1, fun b j => if b = aLA E m c ∧ j = a then none else h.2.2.2.1 b j, (sI h 65 (aLs E m c) v).2.2.2.2)) c7.2.1] at h1
  exact h1
/-- what drop leaves of a list -/
def fDr (l : List Nat) (k : Int32) : List Nat := l.filter (fun x => !decide (nI x = k))
theorem fDr_take {l : List Nat} {a n : Nat} (k : Int32) (h : l[a]? = some n) : fDr (l.take (a + 1)) k = if nI n = k then fDr (l.take a) k else fDr (l.take a) k ++ [n] := by
  have e : l.take (a + 1) = l.take a ++ [n] := by rw [List.take_add_one, h]; rfl
  unfold fDr
  rw [e, List.filter_append]
  by_cases q : nI n = k <;> simp [q]
theorem fDr_len {l : List Nat} (k : Int32) : (fDr l k).length ≤ l.length := List.length_filter_le _ _
set_option maxHeartbeats 4000000 in
set_option maxRecDepth 100000 in
theorem lp2_X1_drop {E : Ev} {m : Nat} {σ : Sg} {τ : Tu} {c : Nat} (hc : c < 8) (k : Int32) {b : Nat} (hb : (fDr (sLs σ c) k).length = b) (hl : (sLs σ c).length ≤ 128) : ∀ (r a : Nat), a + r = (sLs σ c).length → b ≤ a → ∀ (h : Hp), h.1 65 (aLs E m c) = nI (sLs σ c).length → RR E m (uL σ c (fDr (sLs σ c) k)) τ (sI h 65 (aLs E m c) (nI b)) → G E mX1_drop (rk 1 0 0) (fun v h' => v = none ∧ RR E m (uL σ c (fDr (sLs σ c) k)) τ h') 52 [some (.ref (aLs E m c)), some (.int k), some (.int (nI b)), some (.int (nI a)), none] [] h 0 0 := by
  intro r
  induction r with
  | zero =>
    intro a ha hba h hsz hR
    refine G_iload_n 53 rfl rfl dX1_drop_52 ?_
    refine G_aload_n 54 rfl rfl dX1_drop_53 ?_
    refine G_getI 57 rfl (ci := 1) (k := 1) fl_X1_17 rfl (hR.ob (ci := 1) (i := c) (by decide) hc) dX1_drop_54 ?_
    rw [show h.1 (64 * 1 + 1) (aLs E m c) = nI (sLs σ c).length from hsz]
    refine G_icmpT_ge 73 (nI_le (by omega) (by omega)) (by decide) dX1_drop_57 ?_
    refine G_aload_n 74 rfl rfl dX1_drop_73 ?_
    refine G_iload_n 75 rfl rfl dX1_drop_74 ?_
    refine G_putI 78 rfl (ci := 1) (k := 1) fl_X1_17 ⟨rfl, rfl, rfl⟩ (hR.ob (ci := 1) (i := c) (by decide) hc) dX1_drop_75 ?_
    refine G_ret rfl ?_ dX1_drop_78
    exact ⟨rfl, hR⟩
  | succ r ih =>
    intro a ha hba h hsz hR
    refine G_iload_n 53 rfl rfl dX1_drop_52 ?_
    refine G_aload_n 54 rfl rfl dX1_drop_53 ?_
    refine G_getI 57 rfl (ci := 1) (k := 1) fl_X1_17 rfl (hR.ob (ci := 1) (i := c) (by decide) hc) dX1_drop_54 ?_
    rw [show h.1 (64 * 1 + 1) (aLs E m c) = nI (sLs σ c).length from hsz]
    refine G_icmpF_ge 60 rfl (nI_ge (by omega) (by omega)) ⟨73, by decide⟩ dX1_drop_57 ?_
    refine G_aload_n 61 rfl rfl dX1_drop_60 ?_
    refine G_getR 64 rfl (ci := 1) (k := 0) fl_X1_11 rfl (hR.ob (ci := 1) (i := c) (by decide) hc) (hR.2.1.2.2.2.2.1 c hc).2 dX1_drop_61 ?_
    refine G_iload_n 65 rfl rfl dX1_drop_64 ?_
    refine G_null 66 rfl dX1_drop_65 ?_
    refine G_aastoreN 67 rfl (ci := 11) a rfl (hR.obLA hc) (by decide) (by decide) rfl (by rw [(hR.1.2.2.2.2.2.1 c hc).2]; omega) (by omega) dX1_drop_66 ?_
    refine G_iinc 70 rfl (nI (a + 1)) rfl (inc1 a) (by decide) dX1_drop_67 ?_
    refine G_goto 52 (by decide) dX1_drop_70 ?_
    exact ih (a + 1) (by omega) (by omega) _ hsz (hR.nulL hc (by rw [uL_at]; omega))
set_option maxHeartbeats 4000000 in
set_option maxRecDepth 100000 in
theorem lp_X1_drop {E : Ev} {m : Nat} {σ : Sg} {τ : Tu} {c : Nat} (hc : c < 8) (k : Int32) (hv : ∀ n ∈ sLs σ c, 1 ≤ n ∧ n ≤ sNp σ) (hl : (sLs σ c).length ≤ 128) : ∀ (r a : Nat), a + r = (sLs σ c).length → ∀ (cur : List Nat) (b : Nat) (h : Hp), RR E m (uL σ c cur) τ h → cur.length = (sLs σ c).length → cur.drop a = (sLs σ c).drop a → cur.take b = fDr ((sLs σ c).take a) k → b = (fDr ((sLs σ c).take a) k).length → G E mX1_drop (rk 1 0 0) (fun v h' => v = none ∧ RR E m (uL σ c (fDr (sLs σ c) k)) τ h') 4 [some (.ref (aLs E m c)), some (.int k), some (.int (nI b)), some (.int (nI a)), none] [] h 0 0 := by
  intro r
  induction r with
  | zero =>
    intro a ha cur b h hR i1 i2 i3 i4
    have e0 : (sLs σ c).take a = sLs σ c := List.take_of_length_le (by omega)
    rw [e0] at i3 i4
    have hb := fDr_len (l := sLs σ c) k
    refine G_iload_n 5 rfl rfl dX1_drop_4 ?_
    refine G_aload_n 6 rfl rfl dX1_drop_5 ?_
    refine G_l1 9 rfl hR fl_X1_17 hc dX1_drop_6 ?_
    refine G_icmpT_ge 50 (by rw [uL_at, i1]; exact nI_le (by omega) (by omega)) (by decide) dX1_drop_9 ?_
    refine G_iload_n 51 rfl rfl dX1_drop_50 ?_
    refine G_istore_n 52 rfl (by decide) dX1_drop_51 ?_
    have hsz : h.1 65 (aLs E m c) = nI (sLs σ c).length := by
      have := (hR.2.2.1.2.2.2.2.2.2.1 c hc).2.1
      rw [uL_at, i1] at this
      exact this
    refine lp2_X1_drop (σ := σ) hc k i4.symm hl ((sLs σ c).length - b) b (by omega) (Nat.le_refl _) h hsz ?_
    have c7 := hR.2.2.1.2.2.2.2.2.2.1 c hc
    rw [uL_at] at c7
    have h1 := hR.relist (l := fDr (sLs σ c) k) (A1 := h.2.2.2.1) hc (by omega) (fun _ _ => rfl) (fun j hj => by
      rw [c7.2.2 j (by omega), ← i3, List.getElem?_take_of_lt (by omega)])
    rw [uL_uL, ← i4] at h1
    exact h1
  | succ r ih =>
    intro a ha cur b h hR i1 i2 i3 i4
    have hb := fDr_len (l := (sLs σ c).take a) k
    rw [List.length_take] at hb
    refine G_iload_n 5 rfl rfl dX1_drop_4 ?_
    refine G_aload_n 6 rfl rfl dX1_drop_5 ?_
    refine G_l1 9 rfl hR fl_X1_17 hc dX1_drop_6 ?_
    refine G_icmpF_ge 12 rfl (by rw [uL_at, i1]; exact nI_ge (by omega) (by omega)) ⟨50, by decide⟩ dX1_drop_9 ?_
    refine G_aload_n 13 rfl rfl dX1_drop_12 ?_
    refine G_iload_n 14 rfl rfl dX1_drop_13 ?_
    refine G_callV 17 rfl [.int (nI a)] (c_X1_at hR hc (nI a)) ok_X1_at ov_X1_at ml_X1_21 (hR.ob (ci := 1) (i := c) (by decide) hc) ⟨by decide, rfl⟩ rfl ⟨by decide, by decide⟩ rfl rfl (Nat.le_of_ble_eq_true rfl) rfl dX1_drop_14 ?_
    rintro v h' ⟨⟨j, n, e, hj, rfl⟩ | ⟨e, rfl⟩, rfl⟩
    rotate_left
    · exact absurd e (fun z => z.elim (nI_pos (by omega)) (by rw [uL_at, i1]; exact nI_ge (by omega) (by omega)))
    rw [uL_at] at hj
    obtain rfl : a = j := (nI_eq (by omega) (by have := (List.getElem?_eq_some_iff.mp hj).1; omega)).mp e
    have hja : (sLs σ c)[a]? = some n := by
      have q1 : (cur.drop a)[0]? = some n := by rw [List.getElem?_drop]; exact hj
      rw [i2, List.getElem?_drop] at q1
      exact q1
    have hvn : 1 ≤ n ∧ n ≤ sNp σ := hv n (List.mem_of_getElem? hja)
    have ed : cur.drop (a + 1) = (sLs σ c).drop (a + 1) := by
      rw [← List.drop_drop, ← List.drop_drop, i2]
    refine G_astore 19 rfl (by decide) dX1_drop_17 ?_
    refine G_aload 21 rfl rfl dX1_drop_19 ?_
    refine G_ifnull 24 rfl dX1_drop_21 ?_
    refine G_aload 26 rfl rfl dX1_drop_24 ?_
    refine G_e5 29 rfl hR fl_X1_25 hvn dX1_drop_26 ?_
    refine G_iload_n 30 rfl rfl dX1_drop_29 ?_
    refine G_icmp_eq 44 33 rfl (by decide) dX1_drop_30 (fun c30 => ?_) (fun c30 => ?_)
    · skip
      refine G_iinc 47 rfl (nI (a + 1)) rfl (inc1 a) (by decide) dX1_drop_44 ?_
      refine G_goto 4 (by decide) dX1_drop_47 ?_
      refine G_lw [some (.ref (aLs E m c)), some (.int k), some (.int (nI b)), some (.int (nI (a + 1))), none] (by intro x y hx; rcases x with _ | _ | _ | _ | _ | x <;> first | exact hx | cases hx) ?_
      exact ih (a + 1) (by omega) cur b _ hR i1 ed (by rw [fDr_take k hja, if_pos c30]; exact i3) (by rw [fDr_take k hja, if_pos c30]; exact i4)
    · skip
      refine G_aload_n 34 rfl rfl dX1_drop_33 ?_
      refine G_l0 37 rfl hR fl_X1_11 hc dX1_drop_34 ?_
      refine G_iload_n 38 rfl rfl dX1_drop_37 ?_
      refine G_aload 40 rfl rfl dX1_drop_38 ?_
      refine G_setL 41 rfl hR (j := b) rfl hc (by rw [uL_at]; omega) hvn dX1_drop_40 (fun h hR => ?_)
      rw [uL_at, uL_uL] at hR
      refine G_iinc 44 rfl (nI (b + 1)) rfl (inc1 b) (by decide) dX1_drop_41 ?_
      refine G_iinc 47 rfl (nI (a + 1)) rfl (inc1 a) (by decide) dX1_drop_44 ?_
      refine G_goto 4 (by decide) dX1_drop_47 ?_
      refine G_lw [some (.ref (aLs E m c)), some (.int k), some (.int (nI (b + 1))), some (.int (nI (a + 1))), none] (by intro x y hx; rcases x with _ | _ | _ | _ | _ | x <;> first | exact hx | cases hx) ?_
      refine ih (a + 1) (by omega) (cur.set b n) (b + 1) h hR (by rw [List.length_set]; exact i1) (by rw [List.drop_set_of_lt (by omega)]; exact ed) ?_ ?_
      · rw [fDr_take k hja, if_neg c30, ← i3, List.take_add_one, List.getElem?_set_self (by omega), List.take_set_of_le (Nat.le_refl b)]
        rfl
      · rw [fDr_take k hja, if_neg c30, List.length_append, ← i4]
        rfl
set_option maxHeartbeats 4000000 in
set_option maxRecDepth 100000 in
theorem c_X1_drop {E : Ev} {m : Nat} {σ : Sg} {τ : Tu} {h : Hp} (hR : RR E m σ τ h) {c : Nat} (hc : c < 8) (k : Int32) (hv : ∀ n ∈ sLs σ c, 1 ≤ n ∧ n ≤ sNp σ) : Cn E mX1_drop (rk 1 0 0) h [.ref (aLs E m c), .int k] (fun v h' => v = none ∧ RR E m (uL σ c (fDr (sLs σ c) k)) τ h') := by
  refine Cn_of (by decide) rfl (by simp [Value.category]) (Nat.le_of_ble_eq_true rfl) ?_
  refine G_iconst 1 rfl (0) (by decide) dX1_drop_0 ?_
  refine G_istore_n 2 rfl (by decide) dX1_drop_1 ?_
  refine G_iconst 3 rfl (0) (by decide) dX1_drop_2 ?_
  refine G_istore_n 4 rfl (by decide) dX1_drop_3 ?_
  exact lp_X1_drop hc k hv (hR.2.2.1.2.2.2.2.2.2.1 c hc).1 (sLs σ c).length 0 (by omega) (sLs σ c) 0 h (by rw [uL_id]; exact hR) rfl rfl rfl rfl

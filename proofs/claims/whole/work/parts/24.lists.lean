theorem drop_cons {l : List Nat} {a n : Nat} (h : l[a]? = some n) : l.drop a = n :: l.drop (a + 1) := by
  obtain ⟨h1, h2⟩ := List.getElem?_eq_some_iff.mp h
  rw [List.drop_eq_getElem_cons h1, h2]
set_option maxHeartbeats 4000000 in
set_option maxRecDepth 100000 in
theorem c_X1_at {E : Ev} {m : Nat} {σ : Sg} {τ : Tu} {h : Hp} (hR : RR E m σ τ h) {c : Nat} (hc : c < 8) (i : Int32) : Cn E mX1_at (rk 0 0 0) h [.ref (aLs E m c), .int i] (fun v h' => ((∃ j n, i = nI j ∧ (sLs σ c)[j]? = some n ∧ v = some (.ref (aE E m n))) ∨ ((i < 0 ∨ nI (sLs σ c).length ≤ i) ∧ v = some .null)) ∧ h' = h) := by
  refine Cn_of (by decide) rfl (by simp [Value.category]) (Nat.le_of_ble_eq_true rfl) ?_
  have hl := (hR.2.2.1.2.2.2.2.2.2.1 c hc).1
  refine G_iload_n 1 rfl rfl dX1_at_0 ?_
  refine G_if_lt 30 4 rfl (by decide) dX1_at_1 (fun c1 => ?_) (fun c1 => ?_)
  · skip
    refine G_null 31 rfl dX1_at_30 ?_
    refine G_aret rfl (Or.inl rfl) ?_ dX1_at_31
    exact ⟨Or.inr ⟨by first | exact Or.inl c1 | exact Or.inr c9, rfl⟩, rfl⟩
  · skip
    refine G_iload_n 5 rfl rfl dX1_at_4 ?_
    refine G_aload_n 6 rfl rfl dX1_at_5 ?_
    refine G_l1 9 rfl hR fl_X1_17 hc dX1_at_6 ?_
    refine G_icmp_ge 30 12 rfl (by decide) dX1_at_9 (fun c9 => ?_) (fun c9 => ?_)
    · skip
      refine G_null 31 rfl dX1_at_30 ?_
      refine G_aret rfl (Or.inl rfl) ?_ dX1_at_31
      exact ⟨Or.inr ⟨by first | exact Or.inl c1 | exact Or.inr c9, rfl⟩, rfl⟩
    · skip
      refine G_iload_n 13 rfl rfl dX1_at_12 ?_
      refine G_aload_n 14 rfl rfl dX1_at_13 ?_
      refine G_l0 17 rfl hR fl_X1_11 hc dX1_at_14 ?_
      refine G_lenLA 18 rfl hR hc dX1_at_17 ?_
      obtain ⟨j, hj, e⟩ := ix_of (by omega) c1 c9
      obtain ⟨n, hn⟩ : ∃ n, (sLs σ c)[j]? = some n := ⟨_, List.getElem?_eq_getElem hj⟩
      refine G_icmpF_ge 21 rfl (by rw [e]; exact nI_ge (b := 128) (by omega) (by omega)) ⟨30, by decide⟩ dX1_at_18 ?_
      refine G_aload_n 22 rfl rfl dX1_at_21 ?_
      refine G_l0 25 rfl hR fl_X1_11 hc dX1_at_22 ?_
      refine G_iload_n 26 rfl rfl dX1_at_25 ?_
      refine G_lAtS 27 rfl hR (j := j) e hc hn dX1_at_26 ?_
      refine G_goto 31 (by decide) dX1_at_27 ?_
      refine G_aret rfl (Or.inr ⟨_, rfl⟩) ?_ dX1_at_31
      exact ⟨Or.inl ⟨j, n, e, hn, rfl⟩, rfl⟩

set_option maxHeartbeats 4000000 in
set_option maxRecDepth 100000 in
theorem c_X1_append {E : Ev} {m : Nat} {σ : Sg} {τ : Tu} {h : Hp} (hR : RR E m σ τ h) {c : Nat} (hc : c < 8) {n : Nat} (hn : 1 ≤ n ∧ n ≤ sNp σ) (hl : (sLs σ c).length < 128) : Cn E mX1_append (rk 0 0 0) h [.ref (aLs E m c), .ref (aE E m n)] (fun v h' => v = none ∧ RR E m (uL σ c (sLs σ c ++ [n])) τ h') := by
  refine Cn_of (by decide) rfl (by simp [Value.category]) (Nat.le_of_ble_eq_true rfl) ?_
  refine G_aload_n 1 rfl rfl dX1_append_0 ?_
  refine G_l1 4 rfl hR fl_X1_17 hc dX1_append_1 ?_
  refine G_aload_n 5 rfl rfl dX1_append_4 ?_
  refine G_l0 8 rfl hR fl_X1_11 hc dX1_append_5 ?_
  refine G_lenLA 9 rfl hR hc dX1_append_8 ?_
  refine G_icmpF_ge 12 rfl (nI_ge (b := 128) hl (by omega)) ⟨32, by decide⟩ dX1_append_9 ?_
  refine G_aload_n 13 rfl rfl dX1_append_12 ?_
  refine G_l0 16 rfl hR fl_X1_11 hc dX1_append_13 ?_
  refine G_aload_n 17 rfl rfl dX1_append_16 ?_
  refine G_l1 20 rfl hR fl_X1_17 hc dX1_append_17 ?_
  refine G_aload_n 21 rfl rfl dX1_append_20 ?_
  refine G_aastore 22 rfl (ci := 11) (cv := 0) (b := aE E m n) (sLs σ c).length rfl (hR.obLA hc) (by decide) (by decide) (by decide) rfl (hR.ob (ci := 0) (i := n) (by decide) hn) (by rw [(hR.1.2.2.2.2.2.1 c hc).2]; exact hl) (by omega) dX1_append_21 ?_
  refine G_aload_n 23 rfl rfl dX1_append_22 ?_
  refine G_dup 24 rfl rfl dX1_append_23 ?_
  refine G_getI 27 rfl (ci := 1) (k := 1) fl_X1_17 rfl (hR.ob (ci := 1) (i := c) (by decide) hc) dX1_append_24 ?_
  rw [show (sQ h (aLA E m c) (sLs σ c).length (some (aE E m n))).1 (64 * 1 + 1) (aLs E m c) = nI (sLs σ c).length from (hR.2.2.1.2.2.2.2.2.2.1 c hc).2.1]
  refine G_iconst 28 rfl 1 (by decide) dX1_append_27 ?_
  refine G_iadd 29 rfl dX1_append_28 ?_
  refine G_putI 32 rfl (ci := 1) (k := 1) fl_X1_17 ⟨rfl, rfl, rfl⟩ (hR.ob (ci := 1) (i := c) (by decide) hc) dX1_append_29 ?_
  refine G_ret rfl ?_ dX1_append_32
  rw [nI_1]
  exact ⟨rfl, hR.appL hc hl⟩

set_option maxHeartbeats 4000000 in
set_option maxRecDepth 100000 in
theorem c_X5_keepEntry {E : Ev} {m : Nat} {σ : Sg} {τ : Tu} {h : Hp} (hR : RR E m σ τ h) {p : Nat} (hp : p < m) {n : Nat} (hn : 1 ≤ n ∧ n ≤ sNp σ) (hl : (sPb σ p).length < 8) : Cn E mX5_keepEntry (rk 0 0 0) h [.ref (aP E p), .ref (aE E m n)] (fun v h' => v = none ∧ RR E m (uP σ p (sPb σ p ++ [n])) τ h') := by
  refine Cn_of (by decide) rfl (by simp [Value.category]) (Nat.le_of_ble_eq_true rfl) ?_
  refine G_aload_n 1 rfl rfl dX5_keepEntry_0 ?_
  refine G_p15 4 rfl hR fl_X5_87 hp dX5_keepEntry_1 ?_
  refine G_aload_n 5 rfl rfl dX5_keepEntry_4 ?_
  refine G_p4 8 rfl hR fl_X5_33 hp dX5_keepEntry_5 ?_
  refine G_lenOA 9 rfl hR hp dX5_keepEntry_8 ?_
  refine G_icmpF_ge 12 rfl (nI_ge (b := 8) hl (by omega)) ⟨32, by decide⟩ dX5_keepEntry_9 ?_
  refine G_aload_n 13 rfl rfl dX5_keepEntry_12 ?_
  refine G_p4 16 rfl hR fl_X5_33 hp dX5_keepEntry_13 ?_
  refine G_aload_n 17 rfl rfl dX5_keepEntry_16 ?_
  refine G_p15 20 rfl hR fl_X5_87 hp dX5_keepEntry_17 ?_
  refine G_aload_n 21 rfl rfl dX5_keepEntry_20 ?_
  refine G_aastore 22 rfl (ci := 11) (cv := 0) (b := aE E m n) (sPb σ p).length rfl (hR.obOA hp) (by decide) (by decide) (by decide) rfl (hR.ob (ci := 0) (i := n) (by decide) hn) (by rw [(hR.1.2.2.2.1 p hp).2.2]; exact hl) (by omega) dX5_keepEntry_21 ?_
  refine G_aload_n 23 rfl rfl dX5_keepEntry_22 ?_
  refine G_dup 24 rfl rfl dX5_keepEntry_23 ?_
  refine G_getI 27 rfl (ci := 5) (k := 15) fl_X5_87 rfl (hR.ob (ci := 5) (i := p) (by decide) hp) dX5_keepEntry_24 ?_
  rw [show (sQ h (aOA E p) (sPb σ p).length (some (aE E m n))).1 (64 * 5 + 15) (aP E p) = nI (sPb σ p).length from (hR.2.2.1.2.2.2.2.2.2.2 p hp).2.1]
  refine G_iconst 28 rfl 1 (by decide) dX5_keepEntry_27 ?_
  refine G_iadd 29 rfl dX5_keepEntry_28 ?_
  refine G_putI 32 rfl (ci := 5) (k := 15) fl_X5_87 ⟨rfl, rfl, rfl⟩ (hR.ob (ci := 5) (i := p) (by decide) hp) dX5_keepEntry_29 ?_
  refine G_ret rfl ?_ dX5_keepEntry_32
  rw [nI_1]
  exact ⟨rfl, hR.keep hp hl⟩

set_option maxHeartbeats 4000000 in
set_option maxRecDepth 100000 in
theorem lp_X1_firstAbove {E : Ev} {m : Nat} {σ : Sg} {τ : Tu} {h : Hp} (hR : RR E m σ τ h) {c : Nat} (hc : c < 8) (k : Int32) (hv : ∀ n ∈ sLs σ c, 1 ≤ n ∧ n ≤ sNp σ) : ∀ (n a : Nat), a + n = (sLs σ c).length → ((sLs σ c).drop a).find? (fun n => decide (k < nI n)) = (sLs σ c).find? (fun n => decide (k < nI n)) → G E mX1_firstAbove (rk 1 0 0) (fun v h' => v = some (va_rf (((sLs σ c).find? (fun n => decide (k < nI n))).map (aE E m))) ∧ h' = h) 2 [some (.ref (aLs E m c)), some (.int k), some (.int (nI a)), none] [] h 0 0 := by
  intro n
  induction n with
  | zero =>
    intro a ha hb
    have hl := (hR.2.2.1.2.2.2.2.2.2.1 c hc).1
    refine G_iload_n 3 rfl rfl dX1_firstAbove_2 ?_
    refine G_aload_n 4 rfl rfl dX1_firstAbove_3 ?_
    refine G_l1 7 rfl hR fl_X1_17 hc dX1_firstAbove_4 ?_
    refine G_icmpT_ge 36 (nI_le (by omega) (by omega)) (by decide) dX1_firstAbove_7 ?_
    refine G_null 37 rfl dX1_firstAbove_36 ?_
    refine G_aret rfl (Or.inl rfl) ?_ dX1_firstAbove_37
    exact ⟨by rw [← hb, List.drop_eq_nil_of_le (by omega)]; rfl, rfl⟩
  | succ n ih =>
    intro a ha hb
    have hl := (hR.2.2.1.2.2.2.2.2.2.1 c hc).1
    refine G_iload_n 3 rfl rfl dX1_firstAbove_2 ?_
    refine G_aload_n 4 rfl rfl dX1_firstAbove_3 ?_
    refine G_l1 7 rfl hR fl_X1_17 hc dX1_firstAbove_4 ?_
    refine G_icmpF_ge 10 rfl (nI_ge (by omega) (by omega)) ⟨36, by decide⟩ dX1_firstAbove_7 ?_
    refine G_aload_n 11 rfl rfl dX1_firstAbove_10 ?_
    refine G_iload_n 12 rfl rfl dX1_firstAbove_11 ?_
    refine G_callV 15 rfl [.int (nI a)] (c_X1_at hR hc (nI a)) ok_X1_at ov_X1_at ml_X1_21 (hR.ob (ci := 1) (i := c) (by decide) hc) ⟨by decide, rfl⟩ rfl ⟨by decide, by decide⟩ rfl rfl (Nat.le_of_ble_eq_true rfl) rfl dX1_firstAbove_12 ?_
    rintro v h' ⟨⟨j, n, e, hj, rfl⟩ | ⟨e, rfl⟩, rfl⟩
    rotate_left
    · exact absurd e (fun z => z.elim (nI_pos (by omega)) (nI_ge (by omega) (by omega)))
    obtain rfl : a = j := (nI_eq (by omega) (by have := (List.getElem?_eq_some_iff.mp hj).1; omega)).mp e
    refine G_astore_n 16 rfl (by decide) dX1_firstAbove_15 ?_
    refine G_aload_n 17 rfl rfl dX1_firstAbove_16 ?_
    refine G_ifnull 20 rfl dX1_firstAbove_17 ?_
    refine G_aload_n 21 rfl rfl dX1_firstAbove_20 ?_
    refine G_e5 24 rfl hR fl_X1_25 (hv n (List.mem_of_getElem? hj)) dX1_firstAbove_21 ?_
    refine G_iload_n 25 rfl rfl dX1_firstAbove_24 ?_
    refine G_icmp_le 30 28 rfl (by decide) dX1_firstAbove_25 (fun c25 => ?_) (fun c25 => ?_)
    · skip
      refine G_iinc 33 rfl (nI (a + 1)) rfl (inc1 a) (by decide) dX1_firstAbove_30 ?_
      refine G_goto 2 (by decide) dX1_firstAbove_33 ?_
      refine G_lw [some (.ref (aLs E m c)), some (.int k), some (.int (nI (a + 1))), none] (by intro x y hx; rcases x with _ | _ | _ | _ | x <;> first | exact hx | cases hx) ?_
      exact ih (a + 1) (by omega) (by rw [← hb, drop_cons hj, List.find?_cons_of_neg (by simpa using c25)])
    · skip
      refine G_aload_n 29 rfl rfl dX1_firstAbove_28 ?_
      refine G_aret rfl (Or.inr ⟨_, rfl⟩) ?_ dX1_firstAbove_29
      exact ⟨by rw [← hb, drop_cons hj, List.find?_cons_of_pos (by simpa using c25)]; rfl, rfl⟩

set_option maxHeartbeats 4000000 in
set_option maxRecDepth 100000 in
theorem c_X1_firstAbove {E : Ev} {m : Nat} {σ : Sg} {τ : Tu} {h : Hp} (hR : RR E m σ τ h) {c : Nat} (hc : c < 8) (k : Int32) (hv : ∀ n ∈ sLs σ c, 1 ≤ n ∧ n ≤ sNp σ) : Cn E mX1_firstAbove (rk 1 0 0) h [.ref (aLs E m c), .int k] (fun v h' => v = some (va_rf (((sLs σ c).find? (fun n => decide (k < nI n))).map (aE E m))) ∧ h' = h) := by
  refine Cn_of (by decide) rfl (by simp [Value.category]) (Nat.le_of_ble_eq_true rfl) ?_
  refine G_iconst 1 rfl (0) (by decide) dX1_firstAbove_0 ?_
  refine G_istore_n 2 rfl (by decide) dX1_firstAbove_1 ?_
  exact lp_X1_firstAbove hR hc k hv (sLs σ c).length 0 (by omega) rfl

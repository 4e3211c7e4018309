section SMALL
variable {m : Nat} {σ : Sg} {τ : Tu} {σ' : Sg} {τ' : Tu} {p : Nat}
theorem phx {x : Int32} {a b : Nat} (h : x = nI a) (ha : a ≤ 12) (hb : b ≤ 12) (h2 : x = nI b) : a = b := nI_inj (by omega) (by omega) (h.symm.trans h2)
/-- p changes its phase and its own small things; no word is changed -/
theorem J.stepA (hJ : J m σ τ) (hp : p < m) {x : Nat} (hx : 2 ≤ x ∧ x ≤ 12 ∧ ¬ (5 ≤ x ∧ x ≤ 8)) (h2 : ¬ (σ.1 325 p = 0 ∨ σ.1 325 p = 1)) (hs : x = 11 ∨ x = 12 → σ.1 384 p = 3 ∨ σ.1 384 p = 4) (ex : σ'.1 325 p = nI x) (hL : σ'.2.2 = σ.2.2) (hM : ∀ r, r ≠ p → sMet σ' r = sMet σ r)
    (hS : ∀ f i, ¬ (i = p ∧ (f = 325 ∨ f = 329 ∨ f = 330 ∨ f = 332 ∨ f = 333)) → ¬ f = 454 → ¬ f = 455 → σ'.1 f i = σ.1 f i) (hS2 : ∀ k i, ¬ (i = p ∧ (k = 7 ∨ (18 ≤ k ∧ k ≤ 24))) → ¬ k = 5 → ¬ k = 6 → τ' k i = τ k i) (h5 : τ' 5 0 = σ'.1 454 0) (h6 : τ' 6 0 = σ'.1 455 0) (ha : JLa m σ' τ' p) : J m σ' τ' := by
  have eN : sNp σ' = sNp σ := by show σ'.2.2.2.2 = _; rw [hL]
  have w1 : ∀ r, (σ'.1 384 r = σ.1 384 r ∧ σ'.1 386 r = σ.1 386 r ∧ σ'.1 337 r = σ.1 337 r ∧ σ'.1 338 r = σ.1 338 r) ∧ τ' 15 r = τ 15 r ∧ τ' 17 r = τ 17 r ∧ τ' 39 (bc σ r) = τ 39 (bc σ r) ∧ τ' 40 (bc σ r) = τ 40 (bc σ r) := fun r => ⟨⟨hS _ _ (by omega) (by omega) (by omega), hS _ _ (by omega) (by omega) (by omega), hS _ _ (by omega) (by omega) (by omega), hS _ _ (by omega) (by omega) (by omega)⟩, hS2 _ _ (by omega) (by omega) (by omega), hS2 _ _ (by omega) (by omega) (by omega), hS2 _ _ (by omega) (by omega) (by omega), hS2 _ _ (by omega) (by omega) (by omega)⟩
  have nx : ∀ c : Nat, c ≤ 12 → σ'.1 325 p = nI c → x = c := fun c hc h => phx ex hx.2.1 hc h
  have hJ0 := hJ
  obtain ⟨hm, jG, jB, jU, jT, jN, jE, jL⟩ := hJ
  obtain ⟨l1, l2, l3⟩ := jL p hp
  refine hJ0.step hp (fun _ => False) ?_ ?_ (fun r hr => ?_) (fun f i hf => hS f i (by omega) (by omega) (by omega)) (fun k i hk => hS2 k i (by omega) (by omega) (by omega)) hL (fun r => ⟨hS _ _ (by omega) (by omega) (by omega), hS2 _ _ (by omega) (by omega) (by omega), hS _ _ (by omega) (by omega) (by omega)⟩) (fun r f hr _ _ => hS f r (by omega) (by omega) (by omega)) hM (fun r k hr hk => hS2 k r (by omega) (by omega) (by omega)) (fun r _ _ => w1 r) (fun t ht => ht.elim) (fun t _ ht => ht.elim) ha ?_ ?_
  · obtain ⟨g0, g1, g2, g3, g4, g5, g6, g7, g8⟩ := jG
    refine ⟨?_, ?_, ?_, ?_, ?_, h5, h6, ?_, ?_⟩
    · rw [hS2 0 0 (by omega) (by omega) (by omega)]; exact g0
    · rw [hS2 1 0 (by omega) (by omega) (by omega), hS 451 0 (by omega) (by omega) (by omega)]; exact g1
    · rw [hS2 2 0 (by omega) (by omega) (by omega), hS 452 0 (by omega) (by omega) (by omega)]; exact g2
    · rw [hS2 3 0 (by omega) (by omega) (by omega), hS 257 0 (by omega) (by omega) (by omega)]; exact g3
    · rw [hS2 4 0 (by omega) (by omega) (by omega), hS 453 0 (by omega) (by omega) (by omega)]; exact g4
    · rw [hS 456 0 (by omega) (by omega) (by omega)]; exact g7
    · rw [hS 453 0 (by omega) (by omega) (by omega), eN]; exact g8
  · obtain ⟨b1, b2, b3, b4⟩ := jB
    refine ⟨fun i hi => ?_, fun k hk => ?_, ?_, fun r hr y h1 h2 => ?_⟩
    · rw [hS2 38 i (by omega) (by omega) (by omega), hS 900 i (by omega) (by omega) (by omega)]; exact b1 i hi
    · unfold dB
      rw [hS2 39 k (by omega) (by omega) (by omega), hS2 40 k (by omega) (by omega) (by omega)]; exact b2 k hk
    · have : uV σ' = uV σ := by funext r; unfold uV; rw [hS 385 r (by omega) (by omega) (by omega), (w1 r).1.2.2.1]
      rw [hS 257 0 (by omega) (by omega) (by omega), this]; exact b3
    · rw [hS 385 r (by omega) (by omega) (by omega)] at h1
      rw [hS2 39 _ (by omega) (by omega) (by omega), hS2 40 _ (by omega) (by omega) (by omega)]
      exact b4 r hr y h1 h2
  · rw [hS2 26 r (by omega) (by omega) (by omega), hS2 27 r (by omega) (by omega) (by omega), hS2 28 r (by omega) (by omega) (by omega), hS2 29 r (by omega) (by omega) (by omega), hS2 30 r (by omega) (by omega) (by omega), hS 192 r (by omega) (by omega) (by omega), hS 193 r (by omega) (by omega) (by omega), hS 194 r (by omega) (by omega) (by omega), hS 195 r (by omega) (by omega) (by omega), hS 196 r (by omega) (by omega) (by omega)]
    exact jT r hr
  · obtain ⟨q1, q2, q3, q4, q5, q6, q7, q8, q9⟩ := l2
    obtain ⟨⟨c1, c2, c3, c4⟩, c5, c6, c7, c8⟩ := w1 p
    have e : bc σ' p = bc σ p := by unfold bc; rw [hS 385 p (by omega) (by omega) (by omega)]
    refine ⟨?_, ?_, ?_, ?_, ?_, ?_, ?_, ?_, ?_⟩
    · rw [c5, c1]; exact q1
    · rw [c1, c6, c2]; exact q2
    · rw [c1, c2]; exact q3
    · rw [c6]; exact q4
    · rintro (h | h)
      · have := nx 0 (by omega) h; omega
      · have := nx 1 (by omega) h; omega
    · rw [c1]
      rintro (h | h)
      · exact hs (Or.inl (nx 11 (by omega) h))
      · exact hs (Or.inr (nx 12 (by omega) h))
    · intro _
      rw [c1, hS 334 p (by omega) (by omega) (by omega), hS2 25 p (by omega) (by omega) (by omega)]
      exact q7 h2
    · intro h
      have := nx 6 (by omega) h
      omega
    · rw [c1]
      intro h
      unfold Z0
      rw [c3, c4, e, c7, c8]
      exact q9 h
  · refine ⟨?_, ?_, ?_⟩
    · rintro (h | h)
      · have := nx 5 (by omega) h; omega
      · have := nx 6 (by omega) h; omega
    · intro h
      have := nx 7 (by omega) h
      omega
    · intro h
      have := nx 8 (by omega) h
      omega
theorem JLa.go (hL : JLa m σ τ p) (h2 : ¬ (σ.1 325 p = 0 ∨ σ.1 325 p = 1)) {x : Nat} (hx : 2 ≤ x ∧ x ≤ 12) (ex : σ'.1 325 p = nI x ∧ τ' 7 p = nI x)
    (k1 : σ'.1 326 p = σ.1 326 p ∧ σ'.1 327 p = σ.1 327 p ∧ σ'.1 328 p = σ.1 328 p ∧ σ'.1 336 p = σ.1 336 p ∧ σ'.1 385 p = σ.1 385 p) (k2 : τ' 8 p = τ 8 p ∧ τ' 13 p = τ 13 p ∧ τ' 14 p = τ 14 p ∧ τ' 16 p = τ 16 p) (kP : sPb σ' p = sPb σ p)
    (c18 : x ≤ 8 ∨ atO (τ' 18 p)) (cat : x ≤ 8 → ∀ g, σ.1 326 p = nI g → g ≤ 8 → ∃ j, j < g ∧ σ'.1 329 p = nI j ∧ τ' 18 p = nI j ∧ ¬ σ'.1 131 (8 * p + j) = 0 ∧ (x = 2 → (sPb σ p).length ≤ j)) (c19 : 3 ≤ x ∧ x ≤ 8 → τ' 19 p = σ'.1 330 p) (c20 : x ≤ 10 → τ' 20 p = σ'.1 332 p) (c10 : x = 10 → σ'.1 332 p = 0)
    (cm : 4 ≤ x ∧ x ≤ 8 → meF m σ' τ' p) (c6 : x = 6 → τ' 24 p = σ'.1 333 p) (cw : x = 11 ∨ x = 12 → ∀ w, σ.1 336 p = nI w → w ≤ (sPb σ p).length → (sPb σ p).length ≤ 8 → (x = 12 → w = (sPb σ p).length) ∧ (x = 11 → w < (sPb σ p).length)) : JLa m σ' τ' p := by
  obtain ⟨ph, g, w, v, a1, a2, a3, a4, a5, a6, a7, a8, a9, a10, a11, a12, a13, a14, a15⟩ := hL
  have hph : 2 ≤ ph := by
    rcases Nat.lt_or_ge ph 2 with q | q
    · exfalso
      apply h2
      rw [a1.1]
      have : ph = 0 ∨ ph = 1 := by omega
      rcases this with rfl | rfl
      · exact Or.inl rfl
      · exact Or.inr rfl
    · exact q
  obtain ⟨k11, k12, k13, k14, k15⟩ := k1
  obtain ⟨k21, k22, k23, k24⟩ := k2
  refine ⟨x, g, w, v, ⟨ex.1, ex.2, hx.2⟩, ?_, ?_, ?_, ?_, ?_, ?_, ?_, c19, fun h => c20 h.2, c10, cm, c6, ?_, ?_⟩
  · rw [k11, k21]; exact a2
  · rw [k12, k22]; exact a3
  · rw [k14, kP]; exact a4
  · rw [k15, k24]; exact a5
  · rcases Nat.lt_or_ge 8 x with q | q
    · rcases c18 with c | c
      · omega
      · exact c
    · obtain ⟨j, b1, -, b3, -⟩ := cat q g a2.1 a2.2.2
      exact Or.inr ⟨j, by omega, b3⟩
  · intro _; rw [k23, k13]; exact a7 hph
  · intro hh
    obtain ⟨j, b1, b2, b3, b4, b5⟩ := cat hh.2 g a2.1 a2.2.2
    exact ⟨j, b1, b2, b3, b4, by rw [kP]; exact b5⟩
  · rintro (h | h)
    · omega
    · rw [kP]; exact (cw (Or.inr h) w a4.1 a4.2.1 a4.2.2).1 h
  · intro h
    rw [kP]; exact (cw (Or.inl h) w a4.1 a4.2.1 a4.2.2).2 h
/-! ===== the lists and the model's rows ===== -/
theorem fOn_congr {f g : Nat → Int32} : ∀ {n a : Nat}, (∀ j, a ≤ j → j < a + n → f j = g j) → fOn f n a = fOn g n a := by
  intro n
  induction n with
  | zero => intro a _; rfl
  | succ n ih =>
    intro a h
    rw [fOn_succ, fOn_succ, h a (by omega) (by omega), ih (fun j h1 h2 => h j (by omega) (by omega))]
theorem fBy_find {Q : Nat → Bool} : ∀ (EL : List Nat) (P : Nat → Bool) (a : Nat), (∀ k n, EL[k]? = some n → P (a + k) = Q n) → (EL.find? Q = none → fBy P EL.length a = none) ∧ (∀ n, EL.find? Q = some n → ∃ k, EL[k]? = some n ∧ fBy P EL.length a = some (a + k)) := by
  intro EL
  induction EL with
  | nil =>
    intro P a _
    exact ⟨fun _ => rfl, fun n h => by simp at h⟩
  | cons x l ih =>
    intro P a h
    have h0 : P a = Q x := h 0 x rfl
    have ih := ih P (a + 1) (fun k n hk => by rw [← h (k + 1) n hk]; congr 1; omega)
    rw [List.find?_cons, List.length_cons, fBy_succ]
    cases hq : Q x with
    | true =>
      rw [hq] at h0
      refine ⟨fun hh => by simp at hh, fun n hh => ?_⟩
      simp at hh
      exact ⟨0, by rw [← hh]; rfl, by rw [if_pos h0]; rfl⟩
    | false =>
      rw [hq] at h0
      rw [if_neg (by rw [h0]; decide)]
      refine ⟨fun hh => ih.1 hh, fun n hh => ?_⟩
      obtain ⟨k, k1, k2⟩ := ih.2 n hh
      exact ⟨k + 1, k1, by rw [k2]; congr 1; omega⟩
theorem flt_len {f : Nat → Nat} {m : Nat} : ∀ (EL : List Nat), (∀ n ∈ EL, f n < m) → EL.length ≤ sm (fun p => (EL.filter (fun n => decide (f n = p))).length) m := by
  intro EL
  induction EL with
  | nil => intro _; exact Nat.zero_le _
  | cons x l ih =>
    intro h
    have h1 := ih (fun n hn => h n (List.mem_cons_of_mem _ hn))
    have h2 := h x List.mem_cons_self
    rw [List.length_cons]
    refine Nat.le_trans (Nat.succ_le_succ h1) (sm_lt h2 (fun i _ => ?_) ?_)
    · rw [List.filter_cons]; split
      · rw [List.length_cons]; omega
      · exact Nat.le_refl _
    · rw [List.filter_cons, if_pos (by simp), List.length_cons]
      exact Nat.le_refl _
theorem J.la (hJ : J m σ τ) (hp : p < m) : JLa m σ τ p := (hJ.2.2.2.2.2.2.2 p hp).1
theorem J.lw (hJ : J m σ τ) (hp : p < m) : JLw m σ τ p := (hJ.2.2.2.2.2.2.2 p hp).2.1
theorem J.lx (hJ : J m σ τ) (hp : p < m) : JX m σ τ p := (hJ.2.2.2.2.2.2.2 p hp).2.2
theorem J.np (hJ : J m σ τ) : sNp σ ≤ 130000 := by
  have h := hJ.2.2.2.2.2.1.2
  have hm := hJ.1
  refine Nat.le_trans h (Nat.le_trans (sm_bd (c := 8008) (fun i hi => ?_)) (by omega))
  obtain ⟨ph, g, w, v, a1, a2, a3, a4, a5, -⟩ := hJ.la hi
  unfold uN
  rw [a5.1, cN_nI (by omega)]
  omega
theorem J.nx (hJ : J m σ τ) (hp : p < m) (a : Nat) : mNx τ p a = nxt σ p a := by
  obtain ⟨ph, g, w, v, a1, a2, -⟩ := hJ.la hp
  have hm := hJ.1
  unfold mNx nxt
  rw [a2.1, a2.2.1, cN_nI (by omega)]
  refine fOn_congr (fun j h1 h2 => ?_)
  exact (hJ.2.2.2.1 (8 * p + j) (by omega)).2.2.2.1
theorem J.el (hJ : J m σ τ) {EL : List Nat} (hE : JEl m σ τ EL) : EL.length ≤ sm (fun p => (sPb σ p).length) m := by
  obtain ⟨e1, e2, e3, e4, e5, e6⟩ := hE
  have hm := hJ.1
  have h := flt_len (f := fun n => cN (σ.1 0 n)) (m := m) EL (fun n hn => by
    obtain ⟨⟨q, q1, q2⟩, -⟩ := hJ.2.2.2.2.2.1.1 n (e2 n hn).1 (e2 n hn).2
    show cN (σ.1 0 n) < m
    rw [q2, cN_nI (by omega)]; exact q1)
  refine Nat.le_trans h (sm_le (fun p hp => ?_))
  have : EL.filter (fun n => decide (cN (σ.1 0 n) = p)) = EL.filter (fun n => decide (σ.1 0 n = nI p)) := by
    refine List.filter_congr (fun n hn => ?_)
    obtain ⟨⟨q, q1, q2⟩, -⟩ := hJ.2.2.2.2.2.1.1 n (e2 n hn).1 (e2 n hn).2
    rw [q2, cN_nI (by omega)]
    by_cases hqp : q = p
    · subst hqp; simp
    · have : ¬ nI q = nI p := fun z => hqp (nI_inj (by omega) (by omega) z)
      simp [hqp, this]
  rw [this, ← e6 p hp, List.length_drop]
  omega
theorem J.en (hJ : J m σ τ) {EL : List Nat} (hE : JEl m σ τ EL) : EL.length ≤ 128 := by
  have h := hJ.el hE
  have hm := hJ.1
  refine Nat.le_trans h (Nat.le_trans (sm_bd (c := 8) (fun i hi => ?_)) (by omega))
  obtain ⟨ph, g, w, v, a1, a2, a3, a4, -⟩ := hJ.la hi
  exact a4.2.2
theorem J.elen (hJ : J m σ τ) {EL : List Nat} (hE : JEl m σ τ EL) : mEn τ = EL.length := by
  unfold mEn
  have := hJ.en hE
  rw [hE.2.2.1, cN_nI (by omega)]
/-- the first entry that p has not withdrawn is the model's first of p's -/
theorem J.own (hJ : J m σ τ) (hp : p < m) {EL : List Nat} (hE : JEl m σ τ EL) : (fE σ p = none → mOwn τ p = none) ∧ (∀ n, fE σ p = some n → ∃ k, EL[k]? = some n ∧ mOwn τ p = some k) := by
  have hme := hJ.elen hE
  obtain ⟨e1, e2, e3, e4, e5, e6⟩ := hE
  have h := fBy_find (Q := fun n => decide (σ.1 0 n = nI p)) EL (fun k => decide (τ 32 k = nI p)) 0 (fun k n hk => by
    rw [Nat.zero_add, (e4 k n hk).1])
  have e : fE σ p = EL.find? (fun n => decide (σ.1 0 n = nI p)) := by
    unfold fE
    have := e6 p hp
    rw [← List.head?_filter, ← this, List.head?_drop]
  unfold mOwn
  rw [hme, e]
  refine ⟨h.1, fun n hn => ?_⟩
  obtain ⟨k, k1, k2⟩ := h.2 n hn
  exact ⟨k, k1, by rw [k2, Nat.zero_add]⟩
end SMALL

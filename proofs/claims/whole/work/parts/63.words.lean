section WORDS
variable {m : Nat} {σ : Sg} {τ : Tu} {σ' : Sg} {τ' : Tu} {p t : Nat}
theorem JLw.set (hL : JLw m σ τ t) (hW : σ.1 384 t = 1 ∨ σ.1 384 t = 2) {w' : Int32} (hw' : w' = 1 ∨ w' = 2 ∨ w' = 3) (e1 : σ'.1 384 t = w') (e1' : τ' 15 t = w') {c : Nat} (e2 : w' = 2 → σ'.1 386 t = nI c ∧ τ' 17 t = nI c ∧ c < m) (e3 : ¬ w' = 2 → σ'.1 386 t = -1 ∧ τ' 17 t = τ 17 t)
    (h0 : ¬ (σ'.1 325 t = 0 ∨ σ'.1 325 t = 1)) (h11 : σ'.1 325 t = 11 ∨ σ'.1 325 t = 12 → w' = 3) (h6 : σ'.1 325 t = 6 → ¬ σ'.1 333 t = 0 → w' = 3) (h25 : τ' 25 t = τ 25 t) (hZ : w' = 1 → Z0 σ' τ' t) : JLw m σ' τ' t := by
  obtain ⟨q1, q2, q3, q4, q5, q6, q7, q8, q9⟩ := hL
  have hold : ¬ (σ.1 325 t = 0 ∨ σ.1 325 t = 1) := fun h => by
    have := q5 h
    rcases hW with q | q <;> rw [q] at this <;> exact absurd this (by decide)
  have n4 : ¬ σ.1 384 t = 4 := fun h => by rcases hW with q | q <;> rw [q] at h <;> exact absurd h (by decide)
  have n4' : ¬ w' = 4 := fun h => by rcases hw' with q | q | q <;> rw [q] at h <;> exact absurd h (by decide)
  refine ⟨by rw [e1, e1'], fun h => ?_, fun h => ?_, ?_, fun h => absurd h h0, fun h => ?_, fun _ => ⟨fun h => ?_, fun _ => ?_⟩, fun h1 h2 => ?_, fun h => ?_⟩
  · rw [e1] at h; rw [(e2 h).1, (e2 h).2.1]
  · rw [e1] at h; exact (e3 h).1
  · by_cases h : w' = 2
    · exact ⟨c, (e2 h).2.2, (e2 h).2.1⟩
    · obtain ⟨c', k1, k2⟩ := q4
      exact ⟨c', k1, by rw [(e3 h).2]; exact k2⟩
  · left; rw [e1]; exact h11 h
  · rw [e1] at h; exact absurd h n4'
  · rw [h25]; exact (q7 hold).2 n4
  · left; rw [e1]; exact h6 h1 h2
  · rw [e1] at h; exact hZ h
theorem JLw.set2 (hL : JLw m σ τ t) (hW : σ.1 384 t = 1 ∨ σ.1 384 t = 2) {w' : Int32} (hw' : w' = 1 ∨ w' = 2 ∨ w' = 3) (e1 : σ'.1 384 t = w') (e1' : τ' 15 t = w') {c : Nat} (e2 : w' = 2 → σ'.1 386 t = nI c ∧ τ' 17 t = nI c ∧ c < m) (e3 : ¬ w' = 2 → σ'.1 386 t = -1 ∧ τ' 17 t = τ 17 t)
    (s1 : σ'.1 325 t = σ.1 325 t) (s2 : σ'.1 333 t = σ.1 333 t) (h25 : τ' 25 t = τ 25 t) (hZ : w' = 1 → Z0 σ' τ' t) : JLw m σ' τ' t := by
  have hs : ¬ (σ.1 384 t = 3 ∨ σ.1 384 t = 4) := by rcases hW with q | q <;> rw [q] <;> decide
  refine hL.set hW hw' e1 e1' e2 e3 (fun h => ?_) (fun h => ?_) (fun h1 h2 => ?_) h25 hZ
  · rw [s1] at h
    have := hL.2.2.2.2.1 h
    rcases hW with q | q <;> rw [q] at this <;> exact absurd this (by decide)
  · rw [s1] at h
    exact absurd (hL.2.2.2.2.2.1 h) hs
  · rw [s1] at h1
    rw [s2] at h2
    exact absurd (hL.2.2.2.2.2.2.2.1 h1 h2) hs
theorem JLw.ph (hL : JLw m σ τ p) (h2 : ¬ (σ.1 325 p = 0 ∨ σ.1 325 p = 1)) (h0 : ¬ (σ'.1 325 p = 0 ∨ σ'.1 325 p = 1)) (h11 : σ'.1 325 p = 11 ∨ σ'.1 325 p = 12 → σ.1 384 p = 3 ∨ σ.1 384 p = 4) (h6 : σ'.1 325 p = 6 → ¬ σ'.1 333 p = 0 → σ.1 384 p = 3 ∨ σ.1 384 p = 4) (e334 : σ'.1 334 p = σ.1 334 p) (e385 : σ'.1 385 p = σ.1 385 p)
    (hw : (σ'.1 384 p = σ.1 384 p ∧ σ'.1 386 p = σ.1 386 p ∧ σ'.1 337 p = σ.1 337 p ∧ σ'.1 338 p = σ.1 338 p) ∧ τ' 15 p = τ 15 p ∧ τ' 17 p = τ 17 p ∧ τ' 39 (bc σ p) = τ 39 (bc σ p) ∧ τ' 40 (bc σ p) = τ 40 (bc σ p)) (e25 : τ' 25 p = τ 25 p) : JLw m σ' τ' p := by
  obtain ⟨q1, q2, q3, q4, q5, q6, q7, q8, q9⟩ := hL
  obtain ⟨⟨c1, c2, c3, c4⟩, c5, c6, c7, c8⟩ := hw
  have e : bc σ' p = bc σ p := by unfold bc; rw [e385]
  refine ⟨?_, ?_, ?_, ?_, fun h => absurd h h0, ?_, ?_, ?_, ?_⟩
  · rw [c5, c1]; exact q1
  · rw [c1, c6, c2]; exact q2
  · rw [c1, c2]; exact q3
  · rw [c6]; exact q4
  · rw [c1]; exact h11
  · intro _
    rw [c1, e334, e25]
    exact q7 h2
  · rw [c1]; exact h6
  · rw [c1]
    intro h
    unfold Z0
    rw [c3, c4, e, c7, c8]
    exact q9 h
theorem J.bcv (hJ : J m σ τ) : ∀ r, r < m → ∃ x, x ≤ 1000 ∧ bc σ r = 1001 * r + x ∧ cN (σ.1 385 r) = x ∧ cN (τ 16 r) = x := fun r hr => by
  obtain ⟨ph, g, w, v, a1, a2, a3, a4, a5, -⟩ := hJ.la hr
  refine ⟨v, a5.2.2, ?_, ?_, ?_⟩
  · unfold bc; rw [a5.1, cN_nI (by omega)]
  · rw [a5.1, cN_nI (by omega)]
  · rw [a5.2.1, cN_nI (by omega)]
theorem J.zb (hJ : J m σ τ) : ∃ z, σ.1 257 0 = nI z ∧ τ 3 0 = nI z ∧ z ≤ sm (uV σ) m ∧ z ≤ 16016 := by
  obtain ⟨z, h1, h2⟩ := hJ.2.2.1.2.2.1
  have hm := hJ.1
  refine ⟨z, h1, by rw [hJ.2.1.2.2.2.1, h1], h2, Nat.le_trans h2 (Nat.le_trans (sm_bd (c := 1001) (fun i hi => ?_)) (by omega))⟩
  obtain ⟨x, hx, -, e, -⟩ := hJ.bcv i hi
  unfold uV
  rw [e]
  split <;> omega
theorem putO_eq (hz : σ.1 337 p = 0) (w : Int32) : putO σ p w = up (up (up (up σ 384 p 4) 386 p (-1)) 334 p w) 338 p 1 := by
  unfold putO ndb
  rw [if_neg]
  rintro ⟨h | ⟨h, -⟩, -⟩
  · simp [up, hz] at h
  · simp [up, hz] at h
theorem s0_ne (p : Nat) : ∃ s, s < 16 ∧ p ≠ s := by
  by_cases h : p = 0
  · exact ⟨1, by omega, by omega⟩
  · exact ⟨0, by omega, h⟩
set_option maxHeartbeats 1000000 in
/-- p's word goes OUT -/
theorem J.outG (hJ : J m σ τ) (hp : p < m) (hW : σ.1 384 p = 1) (l why : Int32) (hl : why = if l = 0 then 5 else 3) : J m (putO σ p why) (ut (mGo τ p) 25 p l) := by
  have hm := hJ.1
  have hlw := hJ.lw hp
  have hla := hJ.la hp
  obtain ⟨q1, q2, q3, q4, q5, q6, q7, q8, q9⟩ := hlw
  obtain ⟨z1, z2, z3, z4⟩ := q9 hW
  have h01 : ¬ (σ.1 325 p = 0 ∨ σ.1 325 p = 1) := fun h => by
    have := q5 h
    rw [hW] at this
    exact absurd this (by decide)
  have hst : ¬ (σ.1 384 p = 3 ∨ σ.1 384 p = 4) := by rw [hW]; decide
  rw [putO_eq z1]
  obtain ⟨v, hv1, hv2, hv3, hv4⟩ := hJ.bcv p hp
  unfold mGo
  rw [hv4]
  rw [hv2] at z3 z4
  have ne : ∀ r, r < m → r ≠ p → bc σ r ≠ 1001 * p + v := fun r hr hrp => by
    obtain ⟨x, x1, x2, -⟩ := hJ.bcv r hr
    omega
  obtain ⟨-, jG, jB, jU, jT, jN, jE, jL⟩ := hJ
  have hJ0 : J m σ τ := ⟨hm, jG, jB, jU, jT, jN, jE, jL⟩
  refine hJ0.step hp (fun t => t = p) jG ?_ jT (fun f i hf => ?_) (fun k i hk => ?_) rfl (fun r => ⟨rfl, rfl, rfl⟩) (fun r f hr _ _ => ?_) (fun r _ => rfl) (fun r k hr hk => ?_) (fun r hr hrp => ?_) (fun t ht h2 => ?_) (fun t _ ht h => absurd ht h) ?_ ?_ ?_
  · obtain ⟨b1, b2, b3, b4⟩ := jB
    refine ⟨b1, fun k hk => ?_, b3, fun r hr y h1 h2 => ?_⟩
    · by_cases hkk : k = 1001 * p + v
      · subst hkk
        have z3' : (ut (ut (ut τ 15 p 4) 40 (1001 * p + v) 1) 25 p l) 39 (1001 * p + v) = 0 := z3
        unfold dB
        rw [z3']
        simp
      · have e : (ut (ut (ut τ 15 p 4) 40 (1001 * p + v) 1) 25 p l) 40 k = τ 40 k := by simp [ut, hkk]
        have e2 : (ut (ut (ut τ 15 p 4) 40 (1001 * p + v) 1) 25 p l) 39 k = τ 39 k := rfl
        have := b2 k hk
        unfold dB at this ⊢
        rw [e, e2]
        exact this
    · have h1 : cN (σ.1 385 r) < y := h1
      have := b4 r hr y h1 h2
      refine ⟨this.1, ?_⟩
      obtain ⟨x, x1, x2, x3, -⟩ := hJ0.bcv r hr
      simp only [ut]
      rw [if_neg (by omega), if_neg, if_neg (by omega)]
      · exact this.2
      · rintro ⟨-, e⟩
        by_cases hrp : r = p
        · subst hrp; omega
        · omega
  · simp only [up]
    repeat rw [if_neg (by omega)]
  · simp only [ut]
    repeat rw [if_neg (by omega)]
  · simp only [up]
    repeat rw [if_neg (by omega)]
  · simp only [ut]
    repeat rw [if_neg (by omega)]
  · have hne := ne r hr hrp
    refine ⟨⟨?_, ?_, rfl, ?_⟩, ?_, rfl, rfl, ?_⟩
    · simp only [up]; repeat rw [if_neg (by omega)]
    · simp only [up]; repeat rw [if_neg (by omega)]
    · simp only [up]; repeat rw [if_neg (by omega)]
    · simp only [ut]; repeat rw [if_neg (by omega)]
    · simp only [ut]; repeat rw [if_neg (by omega)]
  · subst ht
    rw [hW] at h2
    exact absurd h2 (by decide)
  · refine hla.keep (fun f h1 h2 h3 => ?_) rfl rfl rfl (fun j _ => rfl) (fun f n hf _ => ?_) (Nat.le_refl _) (fun k hk => ?_)
    · simp only [up]; repeat rw [if_neg (by omega)]
    · simp only [up]; repeat rw [if_neg (by omega)]
    · simp only [ut]; repeat rw [if_neg (by omega)]
  · refine ⟨by simp [up, ut], fun h => ?_, fun _ => by simp [up], q4, fun h => absurd h h01, fun _ => Or.inr (by simp [up]), fun _ => ⟨fun _ => ?_, fun h => ?_⟩, fun _ _ => Or.inr (by simp [up]), fun h => ?_⟩
    · exact absurd h (by simp [up])
    · rw [show (ut (ut (ut τ 15 p 4) 40 (1001 * p + v) 1) 25 p l) 25 p = l by simp [ut], ← hl]
      simp [up]
    · exact absurd (by simp [up]) h
    · exact absurd h (by simp [up])
  · obtain ⟨s0, hs1, hs2⟩ := s0_ne p
    refine (jL p hp).2.2.keep (m := m) (P := fun t => t = p) (s0 := s0) hp hm.2 hs2 hs1 rfl rfl (fun _ n _ => ⟨rfl, rfl⟩) (fun r _ _ => rfl) (fun r hr hrp => ?_) (fun t ht h2 => ?_) (Or.inr rfl)
    · have hne := ne r hr hrp
      refine ⟨⟨?_, ?_, rfl, ?_⟩, rfl, ?_⟩
      · simp only [up]; repeat rw [if_neg (by omega)]
      · simp only [up]; repeat rw [if_neg (by omega)]
      · simp only [up]; repeat rw [if_neg (by omega)]
      · simp only [ut]; repeat rw [if_neg (by omega)]
    · subst ht
      rw [hW] at h2
      exact absurd h2 (by decide)
theorem ut_id (τ : Tu) (k i : Nat) (v : Int32) (h : τ k i = v) : ut τ k i v = τ := by
  funext g j
  simp only [ut]
  split
  · rename_i q
    rw [q.1, q.2, h]
  · rfl
theorem J.out5 (hJ : J m σ τ) (hp : p < m) (hW : σ.1 384 p = 1) : J m (putO σ p 5) (mGo τ p) := by
  have h := hJ.outG hp hW 0 5 rfl
  rwa [ut_id] at h
  have hlw := hJ.lw hp
  have h01 : ¬ (σ.1 325 p = 0 ∨ σ.1 325 p = 1) := fun h => by
    have := hlw.2.2.2.2.1 h
    rw [hW] at this
    exact absurd this (by decide)
  exact (hlw.2.2.2.2.2.2.1 h01).2 (by rw [hW]; decide)
theorem Cw_w {σ : Sg} {p t : Nat} (h : Cw σ p t) : σ.1 384 t = 1 ∨ σ.1 384 t = 2 := Or.inr h.1
set_option maxHeartbeats 1000000 in
/-- p claims the lower word -/
theorem J.clY (hJ : J m σ τ) (hp : p < m) (h4 : σ.1 325 p = 4) {n q : Nat} (hmet : sMet σ p = some n) (hq : σ.1 0 n = nI q) (hqm : q < m) (hok : tryOk σ p (loT p q) n) : J m (up (tryY σ p (loT p q)) 325 p 5) (ut (mTryY τ p (loT p q)) 7 p 5) := by
  have hm := hJ.1
  have ht := loT_lt hp hqm
  obtain ⟨t, et⟩ : ∃ t, t = loT p q := ⟨_, rfl⟩
  rw [← et] at ht hok ⊢
  have hlw := hJ.lw hp
  have hla := hJ.la hp
  have hlt := hJ.lw ht
  have hZ := hlt.2.2.2.2.2.2.2.2 hok.1
  have h2 := nb_of (c := 4) h4 (by omega)
  have x5 : ∀ a : Nat, a ≤ 12 → (up (tryY σ p t) 325 p 5).1 325 p = nI a → 5 = a := fun a ha h => nI_inj (by omega) (by omega) ((show (up (tryY σ p t) 325 p 5).1 325 p = nI 5 by simp [up]; rfl).symm.trans h)
  obtain ⟨-, jG, jB, jU, jT, jN, jE, jL⟩ := hJ
  have hJ0 : J m σ τ := ⟨hm, jG, jB, jU, jT, jN, jE, jL⟩
  refine hJ0.step hp (fun r => r = t) ?_ jB jT (fun f i hf => ?_) (fun k i hk => ?_) rfl (fun r => ⟨rfl, rfl, rfl⟩) (fun r f hr _ _ => ?_) (fun r _ => rfl) (fun r k hr hk => ?_) (fun r hr hrt => ?_) (fun r hr h => ?_) (fun r _ hr hrp => ?_) ?_ ?_ ?_
  · obtain ⟨g0, g1, g2, g3, g4, g5, g6, g7, g8⟩ := jG
    exact ⟨g0, g1, g2, g3, g4, by show τ 5 0 + 1 = σ.1 454 0 + 1; rw [g5], g6, g7, g8⟩
  · simp only [tryY, up]; repeat rw [if_neg (by omega)]
  · simp only [mTryY, ut]; repeat rw [if_neg (by omega)]
  · simp only [tryY, up]; repeat rw [if_neg (by omega)]
  · simp only [mTryY, ut]; repeat rw [if_neg (by omega)]
  · refine ⟨⟨?_, ?_, rfl, rfl⟩, ?_, ?_, rfl, rfl⟩
    · simp only [tryY, up]; repeat rw [if_neg (by omega)]
    · simp only [tryY, up]; repeat rw [if_neg (by omega)]
    · simp only [mTryY, ut]; repeat rw [if_neg (by omega)]
    · simp only [mTryY, ut]; repeat rw [if_neg (by omega)]
  · subst hr
    rw [hok.1] at h
    exact absurd h (by decide)
  · subst hr
    refine hlt.set2 (Or.inl hok.1) (w' := 2) (by decide) (by simp [tryY, up]) (by simp [mTryY, ut]) (c := p) (fun _ => ⟨by simp [tryY, up], by simp [mTryY, ut], hp⟩) (fun h => absurd rfl h) ?_ rfl rfl (fun h => absurd h (by decide))
    simp only [tryY, up]; repeat rw [if_neg (by omega)]
  · refine hla.go h2 (x := 5) (by omega) ⟨by simp [up]; rfl, by simp [ut]; rfl⟩ ⟨rfl, rfl, rfl, rfl, rfl⟩ ⟨rfl, rfl, rfl, rfl⟩ rfl (Or.inl (by omega)) (fun _ g hg hg8 => ?_) (fun _ => ?_) (fun _ => ?_) (by omega) (fun _ => ?_) (by omega) (by omega)
    all_goals obtain ⟨ph, g', w, v, a1, a2, a3, a4, a5, a6, a7, a8, a9, a10, a11, a12, a13, a14, a15⟩ := hla
    all_goals have hcp : 4 = ph := phx (a := 4) h4 (by omega) a1.2.2 a1.1
    · obtain ⟨j, b1, b2, b3, b4, b5⟩ := a8 (by omega)
      have hgg : g' = g := nI_inj (by omega) (by omega) (a2.1.symm.trans hg)
      exact ⟨j, by omega, b2, b3, b4, by omega⟩
    · exact a9 (by omega)
    · exact a10 (by omega)
    · exact a12 (by omega)
  · by_cases htp : t = p
    · subst htp
      refine hlt.set (Or.inl hok.1) (w' := 2) (by decide) (by simp [tryY, up]) (by simp [mTryY, ut]) (c := t) (fun _ => ⟨by simp [tryY, up], by simp [mTryY, ut], hp⟩) (fun h => absurd rfl h) ?_ ?_ ?_ rfl (fun h => absurd h (by decide))
      · rintro (h | h)
        · have := x5 0 (by omega) h; omega
        · have := x5 1 (by omega) h; omega
      · rintro (h | h)
        · have := x5 11 (by omega) h; omega
        · have := x5 12 (by omega) h; omega
      · intro h
        have := x5 6 (by omega) h
        omega
    · refine hlw.ph h2 ?_ ?_ ?_ rfl rfl ⟨⟨?_, ?_, rfl, rfl⟩, ?_, ?_, rfl, rfl⟩ rfl
      · rintro (h | h)
        · have := x5 0 (by omega) h; omega
        · have := x5 1 (by omega) h; omega
      · rintro (h | h)
        · have := x5 11 (by omega) h; omega
        · have := x5 12 (by omega) h; omega
      · intro h
        have := x5 6 (by omega) h
        omega
      · simp only [tryY, up]; repeat rw [if_neg (by omega)]
      · simp only [tryY, up]; repeat rw [if_neg (by omega)]
      · simp only [mTryY, ut]; repeat rw [if_neg (by omega)]
      · simp only [mTryY, ut]; repeat rw [if_neg (by omega)]
  · refine ⟨fun _ => ⟨n, q, hmet, hq, hqm, ?_, ?_, ?_⟩, fun h => ?_, fun h => ?_⟩
    · rw [← et]
      exact ⟨by simp [tryY, up], by simp [tryY, up]⟩
    · rw [← et]
      exact hok.2
    · rw [← et]
      exact hZ
    · have := x5 7 (by omega) h
      omega
    · have := x5 8 (by omega) h
      omega
theorem up_up (σ : Sg) (f i : Nat) (v w : Int32) : up (up σ f i v) f i w = up σ f i w := by
  unfold up
  refine Prod.ext ?_ rfl
  funext g j
  show (if g = f ∧ j = i then w else if g = f ∧ j = i then v else σ.1 g j) = if g = f ∧ j = i then w else σ.1 g j
  split <;> rfl
theorem ut_ut (τ : Tu) (f i : Nat) (v w : Int32) : ut (ut τ f i v) f i w = ut τ f i w := by
  funext g j
  show (if g = f ∧ j = i then w else if g = f ∧ j = i then v else τ g j) = if g = f ∧ j = i then w else τ g j
  split <;> rfl
set_option maxHeartbeats 1000000 in
/-- p gives the lower word back and is at LOOK -/
theorem J.gv3 (hJ : J m σ τ) (hp : p < m) (h6 : σ.1 325 p = 6) {n q : Nat} (hmet : sMet σ p = some n) (hq : σ.1 0 n = nI q) (hqm : q < m) : J m (up (gv0 σ (loT p q)) 325 p 3) (ut (ut τ 15 (loT p q) 1) 7 p 3) := by
  have hm := hJ.1
  have ht := loT_lt hp hqm
  obtain ⟨n', q', y1, y2, y3, y4, y5, y6⟩ := (hJ.lx hp).1 (Or.inr h6)
  obtain rfl : n = n' := by rw [hmet] at y1; cases y1; rfl
  obtain rfl : q = q' := nI_inj (by omega) (by omega) (hq.symm.trans y2)
  obtain ⟨t, et⟩ : ∃ t, t = loT p q := ⟨_, rfl⟩
  rw [← et] at ht y4 y5 y6 ⊢
  have hlw := hJ.lw hp
  have hla := hJ.la hp
  have hlt := hJ.lw ht
  have h2 := nb_of (c := 6) h6 (by omega)
  have x3 : ∀ a : Nat, a ≤ 12 → (up (gv0 σ t) 325 p 3).1 325 p = nI a → 3 = a := fun a ha h => nI_inj (by omega) (by omega) ((show (up (gv0 σ t) 325 p 3).1 325 p = nI 3 by simp [up]; rfl).symm.trans h)
  obtain ⟨-, jG, jB, jU, jT, jN, jE, jL⟩ := hJ
  have hJ0 : J m σ τ := ⟨hm, jG, jB, jU, jT, jN, jE, jL⟩
  refine hJ0.step hp (fun r => r = t) jG jB jT (fun f i hf => ?_) (fun k i hk => ?_) rfl (fun r => ⟨rfl, rfl, rfl⟩) (fun r f hr _ _ => ?_) (fun r _ => rfl) (fun r k hr hk => ?_) (fun r hr hrt => ?_) (fun r hr h => ?_) (fun r _ hr hrp => ?_) ?_ ?_ ?_
  · simp only [gv0, up]; repeat rw [if_neg (by omega)]
  · simp only [ut]; repeat rw [if_neg (by omega)]
  · simp only [gv0, up]; repeat rw [if_neg (by omega)]
  · simp only [ut]; repeat rw [if_neg (by omega)]
  · refine ⟨⟨?_, ?_, rfl, rfl⟩, ?_, rfl, rfl, rfl⟩
    · simp only [gv0, up]; repeat rw [if_neg (by omega)]
    · simp only [gv0, up]; repeat rw [if_neg (by omega)]
    · simp only [ut]; repeat rw [if_neg (by omega)]
  · subst hr
    exact y4.2
  · subst hr
    refine hlt.set2 (Cw_w y4) (w' := 1) (by decide) (by simp [gv0, up]) (by simp [ut]) (c := p) (fun h => absurd h (by decide)) (fun h => ⟨by simp [gv0, up], rfl⟩) ?_ rfl rfl (fun _ => y6)
    simp only [gv0, up]; repeat rw [if_neg (by omega)]
  · refine hla.go h2 (x := 3) (by omega) ⟨by simp [up]; rfl, by simp [ut]; rfl⟩ ⟨rfl, rfl, rfl, rfl, rfl⟩ ⟨rfl, rfl, rfl, rfl⟩ rfl (Or.inl (by omega)) (fun _ g hg hg8 => ?_) (fun _ => ?_) (fun _ => ?_) (by omega) (by omega) (by omega) (by omega)
    all_goals obtain ⟨ph, g', w, v, a1, a2, a3, a4, a5, a6, a7, a8, a9, a10, a11, a12, a13, a14, a15⟩ := hla
    all_goals have hcp : 6 = ph := phx (a := 6) h6 (by omega) a1.2.2 a1.1
    · obtain ⟨j, b1, b2, b3, b4, b5⟩ := a8 (by omega)
      have hgg : g' = g := nI_inj (by omega) (by omega) (a2.1.symm.trans hg)
      exact ⟨j, by omega, b2, b3, b4, by omega⟩
    · exact a9 (by omega)
    · exact a10 (by omega)
  · by_cases htp : t = p
    · subst htp
      refine hlt.set (Cw_w y4) (w' := 1) (by decide) (by simp [gv0, up]) (by simp [ut]) (c := t) (fun h => absurd h (by decide)) (fun h => ⟨by simp [gv0, up], rfl⟩) ?_ ?_ ?_ rfl (fun _ => y6)
      · rintro (h | h)
        · have := x3 0 (by omega) h; omega
        · have := x3 1 (by omega) h; omega
      · rintro (h | h)
        · have := x3 11 (by omega) h; omega
        · have := x3 12 (by omega) h; omega
      · intro h
        have := x3 6 (by omega) h
        omega
    · refine hlw.ph h2 ?_ ?_ ?_ rfl rfl ⟨⟨?_, ?_, rfl, rfl⟩, ?_, rfl, rfl, rfl⟩ rfl
      · rintro (h | h)
        · have := x3 0 (by omega) h; omega
        · have := x3 1 (by omega) h; omega
      · rintro (h | h)
        · have := x3 11 (by omega) h; omega
        · have := x3 12 (by omega) h; omega
      · intro h
        have := x3 6 (by omega) h
        omega
      · simp only [gv0, up]; repeat rw [if_neg (by omega)]
      · simp only [gv0, up]; repeat rw [if_neg (by omega)]
      · simp only [ut]; repeat rw [if_neg (by omega)]
  · refine ⟨fun h => ?_, fun h => ?_, fun h => ?_⟩
    · rcases h with h | h
      · have := x3 5 (by omega) h; omega
      · have := x3 6 (by omega) h; omega
    · have := x3 7 (by omega) h
      omega
    · have := x3 8 (by omega) h
      omega
/-- BACK -/
theorem J.gvX (hJ : J m σ τ) (hp : p < m) (h6 : σ.1 325 p = 6) {n q : Nat} (hmet : sMet σ p = some n) (hq : σ.1 0 n = nI q) (hqm : q < m) : J m (gvB σ p q) (mBck τ p q) := by
  have hm := hJ.1
  have h3 := hJ.gv3 hp h6 hmet hq hqm
  have e24 : τ 24 p = σ.1 333 p := by
    obtain ⟨ph, g', w, v, a1, a2, a3, a4, a5, a6, a7, a8, a9, a10, a11, a12, a13, -⟩ := hJ.la hp
    exact a13 (phx (a := 6) h6 (by omega) a1.2.2 a1.1).symm
  unfold gvB mBck
  rw [e24]
  by_cases hz : σ.1 333 p = 0
  · rw [if_pos hz, if_pos hz]
    exact h3
  · rw [if_neg hz, if_neg hz]
    have hs := (hJ.lw hp).2.2.2.2.2.2.2.1 h6 hz
    obtain ⟨n', q', y1, y2, y3, y4, -⟩ := (hJ.lx hp).1 (Or.inr h6)
    obtain rfl : n = n' := by rw [hmet] at y1; cases y1; rfl
    obtain rfl : q = q' := nI_inj (by omega) (by omega) (hq.symm.trans y2)
    have hne : p ≠ loT p q := fun h => by
      rw [← h] at y4
      rcases hs with s | s <;> rw [y4.1] at s <;> exact absurd s (by decide)
    have hs' : (up (gv0 σ (loT p q)) 325 p 3).1 384 p = 3 ∨ (up (gv0 σ (loT p q)) 325 p 3).1 384 p = 4 := by
      simp only [gv0, up]
      rw [if_neg (by omega), if_neg (by omega), if_neg (by omega)]
      exact hs
    have hw := h3.wd hp (nb_of (c := 3) (by simp [up]; rfl) (by omega)) hs'
    unfold bWd mWd at hw ⊢
    rw [up_up, ut_ut] at hw
    exact hw
end WORDS

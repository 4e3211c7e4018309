section WORDS2
variable {m : Nat} {σ : Sg} {τ : Tu} {σ' : Sg} {τ' : Tu} {p t : Nat}
set_option maxHeartbeats 1000000 in
/-- TELL -/
theorem J.telX (hJ : J m σ τ) (hp : p < m) (h7 : σ.1 325 p = 7) {n q j : Nat} (hmet : sMet σ p = some n) (hq : σ.1 0 n = nI q) (hqm : q < m) (hqp : q ≠ p) (hj : j < 8) : J m (tlO σ p q (8 * p + j)) (mTel τ p q j) := by
  have hm := hJ.1
  obtain ⟨n', q', y1, y2, y3, y4, y5⟩ := (hJ.lx hp).2.1 h7
  obtain rfl : n = n' := by rw [hmet] at y1; cases y1; rfl
  obtain rfl : q = q' := nI_inj (by omega) (by omega) (hq.symm.trans y2)
  have hlw := hJ.lw hp
  have hla := hJ.la hp
  have hlt := hJ.lw hqm
  have hlaq := hJ.la hqm
  have h2 := nb_of (c := 7) h7 (by omega)
  have hg := hJ.2.2.2.1 (8 * p + j) (by omega)
  unfold tlO
  have x8 : ∀ a : Nat, a ≤ 12 → (up (tell σ p q (nI p) (σ.1 129 (8 * p + j)) (if σ.1 128 (8 * p + j) = 0 then σ.1 130 (8 * p + j) else 0)) 325 p 8).1 325 p = nI a → 8 = a := fun a ha h => nI_inj (by omega) (by omega) ((show (up (tell σ p q (nI p) (σ.1 129 (8 * p + j)) (if σ.1 128 (8 * p + j) = 0 then σ.1 130 (8 * p + j) else 0)) 325 p 8).1 325 p = nI 8 by simp [up]; rfl).symm.trans h)
  obtain ⟨-, jG, jB, jU, jT, jN, jE, jL⟩ := hJ
  have hJ0 : J m σ τ := ⟨hm, jG, jB, jU, jT, jN, jE, jL⟩
  refine hJ0.step hp (fun r => r = q) jG jB (fun r hr => ?_) (fun f i hf => ?_) (fun k i hk => ?_) rfl (fun r => ⟨rfl, rfl, rfl⟩) (fun r f hr _ _ => ?_) (fun r _ => rfl) (fun r k hr hk => ?_) (fun r hr hrt => ?_) (fun r hr h => ?_) (fun r _ hr hrp => ?_) ?_ ?_ ?_
  · have jr := jT r hr
    by_cases hrq : r = q
    · subst hrq
      obtain ⟨ph, g', w, v, a1, a2, a3, a4, a5, -⟩ := hlaq
      refine ⟨by simp [mTel, mTl, tell, up, ut], by simp [mTel, mTl, tell, up, ut], ?_, ?_, ?_⟩
      · simp [mTel, mTl, tell, up, ut, hg.2.1]
      · simp [mTel, mTl, tell, up, ut, hg.1, hg.2.2.1]
      · simp [mTel, mTl, tell, up, ut, a5.1, a5.2.1]
    · simpa [mTel, mTl, tell, up, ut, hrq] using jr
  · simp only [tell, up]; repeat rw [if_neg (by omega)]
  · simp only [mTel, mTl, ut]; repeat rw [if_neg (by omega)]
  · simp only [tell, up]; repeat rw [if_neg (by omega)]
  · simp only [mTel, mTl, ut]; repeat rw [if_neg (by omega)]
  · refine ⟨⟨?_, ?_, rfl, rfl⟩, ?_, rfl, rfl, rfl⟩
    · simp only [tell, up]; repeat rw [if_neg (by omega)]
    · simp only [tell, up]; repeat rw [if_neg (by omega)]
    · simp only [mTel, mTl, ut]; repeat rw [if_neg (by omega)]
  · subst hr
    exact y5.2
  · subst hr
    refine hlt.set2 (Cw_w y5) (w' := 3) (by decide) (by simp [tell, up]) (by simp [mTel, mTl, ut]) (c := p) (fun h => absurd h (by decide)) (fun h => ⟨by simp [tell, up], rfl⟩) ?_ rfl rfl (fun h => absurd h (by decide))
    simp only [tell, up]; repeat rw [if_neg (by omega)]
  · refine hla.go h2 (x := 8) (by omega) ⟨by simp [up]; rfl, by simp [mTel, ut]; rfl⟩ ⟨rfl, rfl, rfl, rfl, rfl⟩ ⟨rfl, rfl, rfl, rfl⟩ rfl (Or.inl (by omega)) (fun _ g hg hg8 => ?_) (fun _ => ?_) (fun _ => ?_) (by omega) (fun _ => ?_) (by omega) (by omega)
    all_goals obtain ⟨ph, g', w, v, a1, a2, a3, a4, a5, a6, a7, a8, a9, a10, a11, a12, a13, a14, a15⟩ := hla
    all_goals have hcp : 7 = ph := phx (a := 7) h7 (by omega) a1.2.2 a1.1
    · obtain ⟨j, b1, b2, b3, b4, b5⟩ := a8 (by omega)
      have hgg : g' = g := nI_inj (by omega) (by omega) (a2.1.symm.trans hg)
      exact ⟨j, by omega, b2, b3, b4, by omega⟩
    · exact a9 (by omega)
    · exact a10 (by omega)
    · exact a12 (by omega)
  · refine hlw.ph h2 ?_ ?_ ?_ rfl rfl ⟨⟨?_, ?_, rfl, rfl⟩, ?_, rfl, rfl, rfl⟩ rfl
    · rintro (h | h)
      · have := x8 0 (by omega) h; omega
      · have := x8 1 (by omega) h; omega
    · rintro (h | h)
      · have := x8 11 (by omega) h; omega
      · have := x8 12 (by omega) h; omega
    · intro h
      have := x8 6 (by omega) h
      omega
    · simp only [tell, up]; repeat rw [if_neg (by omega)]
    · simp only [tell, up]; repeat rw [if_neg (by omega)]
    · simp only [mTel, mTl, ut]; repeat rw [if_neg (by omega)]
  · refine ⟨fun h => ?_, fun h => ?_, fun h => ?_⟩
    · rcases h with h | h
      · have := x8 5 (by omega) h; omega
      · have := x8 6 (by omega) h; omega
    · have := x8 7 (by omega) h
      omega
    · refine ⟨?_, ?_⟩
      · simp only [tell, up]; repeat rw [if_neg (by omega)]
        exact y4.1
      · simp only [tell, up]; repeat rw [if_neg (by omega)]
        exact y4.2
set_option maxHeartbeats 1000000 in
/-- p's own word is TAKEN, and it is at LOOK -/
theorem J.own3 (hJ : J m σ τ) (hp : p < m) (h8 : σ.1 325 p = 8) {n q j : Nat} (hq : σ.1 0 n = nI q) (h23 : τ 23 p = σ.1 4 n) (hj : j < 8) : J m (up (tell σ p p (σ.1 0 n) (σ.1 129 (8 * p + j)) (if σ.1 128 (8 * p + j) = 1 then σ.1 4 n else 0)) 325 p 3) (ut (ut (mTl τ p (nI q) (if τ 9 (8 * p + j) = 1 then τ 23 p else 0)) 28 p (τ 10 (8 * p + j))) 7 p 3) := by
  have hm := hJ.1
  have y4 := (hJ.lx hp).2.2 h8
  have hlw := hJ.lw hp
  have hla := hJ.la hp
  have h2 := nb_of (c := 8) h8 (by omega)
  have hg := hJ.2.2.2.1 (8 * p + j) (by omega)
  have x3 : ∀ a : Nat, a ≤ 12 → (up (tell σ p p (σ.1 0 n) (σ.1 129 (8 * p + j)) (if σ.1 128 (8 * p + j) = 1 then σ.1 4 n else 0)) 325 p 3).1 325 p = nI a → 3 = a := fun a ha h => nI_inj (by omega) (by omega) ((show (up (tell σ p p (σ.1 0 n) (σ.1 129 (8 * p + j)) (if σ.1 128 (8 * p + j) = 1 then σ.1 4 n else 0)) 325 p 3).1 325 p = nI 3 by simp [up]; rfl).symm.trans h)
  obtain ⟨-, jG, jB, jU, jT, jN, jE, jL⟩ := hJ
  have hJ0 : J m σ τ := ⟨hm, jG, jB, jU, jT, jN, jE, jL⟩
  refine hJ0.step hp (fun r => r = p) jG jB (fun r hr => ?_) (fun f i hf => ?_) (fun k i hk => ?_) rfl (fun r => ⟨rfl, rfl, rfl⟩) (fun r f hr _ _ => ?_) (fun r _ => rfl) (fun r k hr hk => ?_) (fun r hr hrt => ?_) (fun r hr h => ?_) (fun r _ hr hrp => absurd hr hrp) ?_ ?_ ?_
  · have jr := jT r hr
    by_cases hrq : r = p
    · subst hrq
      obtain ⟨ph, g', w, v, a1, a2, a3, a4, a5, -⟩ := hla
      refine ⟨by simp [mTl, tell, up, ut], by simp [mTl, tell, up, ut, hq], ?_, ?_, ?_⟩
      · simp [mTl, tell, up, ut, hg.2.1]
      · simp [mTl, tell, up, ut, hg.1, h23]
      · simp [mTl, tell, up, ut, a5.1, a5.2.1]
    · simpa [mTl, tell, up, ut, hrq] using jr
  · simp only [tell, up]; repeat rw [if_neg (by omega)]
  · simp only [mTl, ut]; repeat rw [if_neg (by omega)]
  · simp only [tell, up]; repeat rw [if_neg (by omega)]
  · simp only [mTl, ut]; repeat rw [if_neg (by omega)]
  · refine ⟨⟨?_, ?_, rfl, rfl⟩, ?_, rfl, rfl, rfl⟩
    · simp only [tell, up]; repeat rw [if_neg (by omega)]
    · simp only [tell, up]; repeat rw [if_neg (by omega)]
    · simp only [mTl, ut]; repeat rw [if_neg (by omega)]
  · subst hr
    exact y4.2
  · refine hla.go h2 (x := 3) (by omega) ⟨by simp [up]; rfl, by simp [ut]; rfl⟩ ⟨rfl, rfl, rfl, rfl, rfl⟩ ⟨rfl, rfl, rfl, rfl⟩ rfl (Or.inl (by omega)) (fun _ g hg hg8 => ?_) (fun _ => ?_) (fun _ => ?_) (by omega) (by omega) (by omega) (by omega)
    all_goals obtain ⟨ph, g', w, v, a1, a2, a3, a4, a5, a6, a7, a8, a9, a10, a11, a12, a13, a14, a15⟩ := hla
    all_goals have hcp : 8 = ph := phx (a := 8) h8 (by omega) a1.2.2 a1.1
    · obtain ⟨j, b1, b2, b3, b4, b5⟩ := a8 (by omega)
      have hgg : g' = g := nI_inj (by omega) (by omega) (a2.1.symm.trans hg)
      exact ⟨j, by omega, b2, b3, b4, by omega⟩
    · exact a9 (by omega)
    · exact a10 (by omega)
  · refine hlw.set (Cw_w y4) (w' := 3) (by decide) (by simp [tell, up]) (by simp [mTl, ut]) (c := p) (fun h => absurd h (by decide)) (fun h => ⟨by simp [tell, up], rfl⟩) ?_ ?_ ?_ rfl (fun h => absurd h (by decide))
    · rintro (h | h)
      · have := x3 0 (by omega) h; omega
      · have := x3 1 (by omega) h; omega
    · rintro (h | h)
      · have := x3 11 (by omega) h; omega
      · have := x3 12 (by omega) h; omega
    · intro h
      have := x3 6 (by omega) h
      omega
  · refine ⟨fun h => ?_, fun h => ?_, fun h => ?_⟩
    · rcases h with h | h
      · have := x3 5 (by omega) h; omega
      · have := x3 6 (by omega) h; omega
    · have := x3 7 (by omega) h
      omega
    · have := x3 8 (by omega) h
      omega
/-- OWN -/
theorem J.ownX (hJ : J m σ τ) (hp : p < m) (h8 : σ.1 325 p = 8) {n q j : Nat} (hq : σ.1 0 n = nI q) (h23 : τ 23 p = σ.1 4 n) (hj : j < 8) : J m (tkO σ p n (8 * p + j)) (mOwo τ p q j) := by
  have h3 := hJ.own3 hp h8 hq h23 hj
  have hw := h3.wd hp (nb_of (c := 3) (by simp [up]; rfl) (by omega)) (Or.inl (by simp [tell, up]))
  unfold tkO mOwo
  unfold bWd mWd at hw ⊢
  rw [up_up, ut_ut] at hw
  exact hw
set_option maxHeartbeats 1000000 in
/-- the second word isn't to be had -/
theorem J.sec6 (hJ : J m σ τ) (hp : p < m) (h5 : σ.1 325 p = 5) {b : Int32} (hs : ¬ b = 0 → σ.1 384 p = 3 ∨ σ.1 384 p = 4) {bz : Int32} (hbz : σ'.1 332 p = bz ∧ τ' 20 p = bz) (s1 : ∀ f i, ¬ (i = p ∧ (f = 325 ∨ f = 332 ∨ f = 333)) → σ'.1 f i = σ.1 f i) (s2 : ∀ k i, ¬ (i = p ∧ (k = 7 ∨ k = 20 ∨ k = 24)) → τ' k i = τ k i) (s3 : σ'.2 = σ.2) (e1 : σ'.1 325 p = nI 6 ∧ τ' 7 p = nI 6) (e2 : σ'.1 333 p = b ∧ τ' 24 p = b) : J m σ' τ' := by
  have hm := hJ.1
  have hlw := hJ.lw hp
  have hla := hJ.la hp
  have hlx := hJ.lx hp
  have h2 := nb_of (c := 5) h5 (by omega)
  have x6 : ∀ a : Nat, a ≤ 12 → σ'.1 325 p = nI a → 6 = a := fun a ha h => nI_inj (by omega) (by omega) (e1.1.symm.trans h)
  have w1 : ∀ r, (σ'.1 384 r = σ.1 384 r ∧ σ'.1 386 r = σ.1 386 r ∧ σ'.1 337 r = σ.1 337 r ∧ σ'.1 338 r = σ.1 338 r) ∧ τ' 15 r = τ 15 r ∧ τ' 17 r = τ 17 r ∧ τ' 39 (bc σ r) = τ 39 (bc σ r) ∧ τ' 40 (bc σ r) = τ 40 (bc σ r) := fun r => ⟨⟨s1 _ _ (by omega), s1 _ _ (by omega), s1 _ _ (by omega), s1 _ _ (by omega)⟩, s2 _ _ (by omega), s2 _ _ (by omega), s2 _ _ (by omega), s2 _ _ (by omega)⟩
  have eM : ∀ r, sMet σ' r = sMet σ r := fun r => by show σ'.2.1 r = _; rw [s3]
  have eP : ∀ r, sPb σ' r = sPb σ r := fun r => by show σ'.2.2.2.1 r = _; rw [s3]
  have eN : sNp σ' = sNp σ := by show σ'.2.2.2.2 = _; rw [s3]
  obtain ⟨-, jG, jB, jU, jT, jN, jE, jL⟩ := hJ
  have hJ0 : J m σ τ := ⟨hm, jG, jB, jU, jT, jN, jE, jL⟩
  refine hJ0.step hp (fun _ => False) ?_ ?_ (fun r hr => ?_) (fun f i hf => s1 f i (by omega)) (fun k i hk => s2 k i (by omega)) (by rw [s3]) (fun r => ⟨s1 _ _ (by omega), s2 _ _ (by omega), s1 _ _ (by omega)⟩) (fun r f hr _ _ => s1 f r (by omega)) (fun r _ => eM r) (fun r k hr hk => s2 k r (by omega)) (fun r _ _ => w1 r) (fun t ht => ht.elim) (fun t _ ht => ht.elim) ?_ ?_ ?_
  · obtain ⟨g0, g1, g2, g3, g4, g5, g6, g7, g8⟩ := jG
    refine ⟨?_, ?_, ?_, ?_, ?_, ?_, ?_, ?_, ?_⟩
    · rw [s2 0 0 (by omega)]; exact g0
    · rw [s2 1 0 (by omega), s1 451 0 (by omega)]; exact g1
    · rw [s2 2 0 (by omega), s1 452 0 (by omega)]; exact g2
    · rw [s2 3 0 (by omega), s1 257 0 (by omega)]; exact g3
    · rw [s2 4 0 (by omega), s1 453 0 (by omega)]; exact g4
    · rw [s2 5 0 (by omega), s1 454 0 (by omega)]; exact g5
    · rw [s2 6 0 (by omega), s1 455 0 (by omega)]; exact g6
    · rw [s1 456 0 (by omega)]; exact g7
    · rw [s1 453 0 (by omega), eN]; exact g8
  · obtain ⟨b1, b2, b3, b4⟩ := jB
    refine ⟨fun i hi => ?_, fun k hk => ?_, ?_, fun r hr y h1 h2 => ?_⟩
    · rw [s2 38 i (by omega), s1 900 i (by omega)]; exact b1 i hi
    · unfold dB
      rw [s2 39 k (by omega), s2 40 k (by omega)]; exact b2 k hk
    · have : uV σ' = uV σ := by funext r; unfold uV; rw [s1 385 r (by omega), (w1 r).1.2.2.1]
      rw [s1 257 0 (by omega), this]; exact b3
    · rw [s1 385 r (by omega)] at h1
      rw [s2 39 _ (by omega), s2 40 _ (by omega)]
      exact b4 r hr y h1 h2
  · rw [s2 26 r (by omega), s2 27 r (by omega), s2 28 r (by omega), s2 29 r (by omega), s2 30 r (by omega), s1 192 r (by omega), s1 193 r (by omega), s1 194 r (by omega), s1 195 r (by omega), s1 196 r (by omega)]
    exact jT r hr
  · refine hla.go h2 (x := 6) (by omega) e1 ⟨s1 _ _ (by omega), s1 _ _ (by omega), s1 _ _ (by omega), s1 _ _ (by omega), s1 _ _ (by omega)⟩ ⟨s2 _ _ (by omega), s2 _ _ (by omega), s2 _ _ (by omega), s2 _ _ (by omega)⟩ (eP p) (Or.inl (by omega)) (fun _ g hg hg8 => ?_) (fun _ => ?_) (fun _ => ?_) (by omega) (fun _ => ?_) (fun _ => by rw [e2.1, e2.2]) (by omega)
    all_goals obtain ⟨ph, g', w, v, a1, a2, a3, a4, a5, a6, a7, a8, a9, a10, a11, a12, a13, a14, a15⟩ := hla
    all_goals have hcp : 5 = ph := phx (a := 5) h5 (by omega) a1.2.2 a1.1
    · obtain ⟨j, b1, b2, b3, b4, b5⟩ := a8 (by omega)
      have hgg : g' = g := nI_inj (by omega) (by omega) (a2.1.symm.trans hg)
      exact ⟨j, by omega, by rw [s1 329 p (by omega)]; exact b2, by rw [s2 18 p (by omega)]; exact b3, by rw [s1 131 _ (by omega)]; exact b4, by omega⟩
    · rw [s2 19 p (by omega), s1 330 p (by omega)]; exact a9 (by omega)
    · rw [hbz.1, hbz.2]
    · obtain ⟨n, q, c1, c2, c3, c4, c5, c6, c7, c8, c9⟩ := a12 (by omega)
      exact ⟨n, q, by rw [eM]; exact c1, c2, by rw [eN]; exact c3, by rw [s1 0 n (by omega)]; exact c4, c5, c6, by rw [s2 21 p (by omega)]; exact c7, by rw [s2 22 p (by omega), s1 1 n (by omega)]; exact c8, by rw [s2 23 p (by omega), s1 4 n (by omega)]; exact c9⟩
  · refine hlw.ph h2 ?_ ?_ (fun _ h => ?_) (s1 _ _ (by omega)) (s1 _ _ (by omega)) (w1 p) (s2 _ _ (by omega))
    · rintro (h | h)
      · have := x6 0 (by omega) h; omega
      · have := x6 1 (by omega) h; omega
    · rintro (h | h)
      · have := x6 11 (by omega) h; omega
      · have := x6 12 (by omega) h; omega
    · exact hs (by rw [← e2.1]; exact h)
  · refine ⟨fun _ => ?_, fun h => ?_, fun h => ?_⟩
    · obtain ⟨n, q, y1, y2, y3, y4, y5, y6⟩ := hlx.1 (Or.inl h5)
      refine ⟨n, q, by rw [eM]; exact y1, by rw [s1 0 n (by omega)]; exact y2, y3, ⟨?_, ?_⟩, ?_, ?_⟩
      · rw [(w1 _).1.1]; exact y4.1
      · rw [(w1 _).1.2.1]; exact y4.2
      · unfold vs at y5 ⊢
        rw [s1 385 _ (by omega), s1 385 _ (by omega), s1 1 n (by omega)]
        exact y5
      · have e : bc σ' (loT p q) = bc σ (loT p q) := by unfold bc; rw [s1 385 _ (by omega)]
        unfold Z0 at y6 ⊢
        rw [(w1 _).1.2.2.1, (w1 _).1.2.2.2, e, (w1 _).2.2.2.1, (w1 _).2.2.2.2]
        exact y6
    · have := x6 7 (by omega) h
      omega
    · have := x6 8 (by omega) h
      omega
end WORDS2

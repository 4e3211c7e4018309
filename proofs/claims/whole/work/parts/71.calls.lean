section OUTER
variable {m : Nat} {σ : Sg} {τ : Tu} {σ' : Sg} {τ' : Tu} {p : Nat}
set_option maxHeartbeats 1000000 in
/-- p is, or comes to be, GONE or IDLE -/
theorem J.idle (hJ : J m σ τ) (hp : p < m) (hold : σ.1 325 p = 0 ∨ σ.1 325 p = 1 ∨ σ.1 325 p = 12) (s1 : ∀ f i, ¬ (i = p ∧ (f = 325 ∨ f = 326 ∨ f = 327 ∨ f = 384 ∨ f = 386)) → σ'.1 f i = σ.1 f i) (s2 : ∀ k i, ¬ (i = p ∧ (k = 7 ∨ k = 8 ∨ k = 13 ∨ k = 15)) → τ' k i = τ k i) (s3 : σ'.2 = σ.2) {x : Nat} (hx : x ≤ 1) (ex : σ'.1 325 p = nI x ∧ τ' 7 p = nI x) {g' : Nat} (hg' : g' ≤ 8) (eg : σ'.1 326 p = nI g' ∧ τ' 8 p = nI g') (e13 : τ' 13 p = σ'.1 327 p) (eW : σ'.1 384 p = 0 ∧ σ'.1 386 p = -1 ∧ τ' 15 p = 0) : J m σ' τ' := by
  have hm := hJ.1
  have hlw := hJ.lw hp
  have hla := hJ.la hp
  have hW2 : ¬ σ.1 384 p = 2 := fun h => by
    rcases hold with h0 | h0 | h0
    · have := hlw.2.2.2.2.1 (Or.inl h0)
      rw [h] at this; exact absurd this (by decide)
    · have := hlw.2.2.2.2.1 (Or.inr h0)
      rw [h] at this; exact absurd this (by decide)
    · have := hlw.2.2.2.2.2.1 (Or.inr h0)
      rw [h] at this; exact absurd this (by decide)
  have nx : ∀ a : Nat, a ≤ 12 → σ'.1 325 p = nI a → x = a := fun a ha h => phx ex.1 (by omega) ha h
  have eM : ∀ r, sMet σ' r = sMet σ r := fun r => by show σ'.2.1 r = _; rw [s3]
  have eP : ∀ r, sPb σ' r = sPb σ r := fun r => by show σ'.2.2.2.1 r = _; rw [s3]
  have eN : sNp σ' = sNp σ := by show σ'.2.2.2.2 = _; rw [s3]
  have w1 : ∀ r, r ≠ p → (σ'.1 384 r = σ.1 384 r ∧ σ'.1 386 r = σ.1 386 r ∧ σ'.1 337 r = σ.1 337 r ∧ σ'.1 338 r = σ.1 338 r) ∧ τ' 15 r = τ 15 r ∧ τ' 17 r = τ 17 r ∧ τ' 39 (bc σ r) = τ 39 (bc σ r) ∧ τ' 40 (bc σ r) = τ 40 (bc σ r) := fun r hr => ⟨⟨s1 _ _ (by omega), s1 _ _ (by omega), s1 _ _ (by omega), s1 _ _ (by omega)⟩, s2 _ _ (by omega), s2 _ _ (by omega), s2 _ _ (by omega), s2 _ _ (by omega)⟩
  obtain ⟨-, jG, jB, jU, jT, jN, jE, jL⟩ := hJ
  have hJ0 : J m σ τ := ⟨hm, jG, jB, jU, jT, jN, jE, jL⟩
  refine hJ0.step hp (fun r => r = p) ?_ ?_ (fun r hr => ?_) (fun f i hf => s1 f i (by omega)) (fun k i hk => s2 k i (by omega)) (by rw [s3]) (fun r => ⟨s1 _ _ (by omega), s2 _ _ (by omega), s1 _ _ (by omega)⟩) (fun r f hr _ _ => s1 f r (by omega)) (fun r _ => eM r) (fun r k hr hk => s2 k r (by omega)) (fun r _ hr => w1 r hr) (fun t ht h => ?_) (fun t _ ht h => absurd ht h) ?_ ?_ ?_
  · obtain ⟨g0, g1, g2, g3, g4, g5, g6, g7, g8⟩ := jG
    refine ⟨?_, ?_, ?_, ?_, ?_, ?_, ?_, ?_, ?_⟩
    · rw [s2 0 0 (by omega)]; exact g0
    · rw [s2 1 0 (by omega), s1 451 0 (by omega)]; exact g1
    · rw [s2 2 0 (by omega), s1 452 0 (by omega)]; exact g2
    · rw [s2 3 0 (by omega), s1 257 0 (by omega)]; exact g3
    · rw [s2 4 0 (by omega), s1 453 0 (by omega)]; exact g4
    · rw [s2 5 0 (by omega), s1 454 0 (by omega)]; exact g5
    · rw [s2 6 0 (by omega), s1 455 0 (by omega)]; exact g6
    · rw [s1 456 0 (by omega)]; exact g7
    · rw [s1 453 0 (by omega), eN]; exact g8
  · obtain ⟨b1, b2, b3, b4⟩ := jB
    refine ⟨fun i hi => ?_, fun k hk => ?_, ?_, fun r hr y h1 h2 => ?_⟩
    · rw [s2 38 i (by omega), s1 900 i (by omega)]; exact b1 i hi
    · unfold dB
      rw [s2 39 k (by omega), s2 40 k (by omega)]; exact b2 k hk
    · have : uV σ' = uV σ := by funext r; unfold uV; rw [s1 385 r (by omega), s1 337 r (by omega)]
      rw [s1 257 0 (by omega), this]; exact b3
    · rw [s1 385 r (by omega)] at h1
      rw [s2 39 _ (by omega), s2 40 _ (by omega)]
      exact b4 r hr y h1 h2
  · rw [s2 26 r (by omega), s2 27 r (by omega), s2 28 r (by omega), s2 29 r (by omega), s2 30 r (by omega), s1 192 r (by omega), s1 193 r (by omega), s1 194 r (by omega), s1 195 r (by omega), s1 196 r (by omega)]
    exact jT r hr
  · subst ht
    exact absurd h hW2
  · obtain ⟨ph, g, w, v, a1, a2, a3, a4, a5, a6, a7, a8, a9, a10, a11, a12, a13, a14, a15⟩ := hla
    have hph : ph ≤ 1 ∨ ph = 12 := by
      rcases hold with h | h | h
      · have := phx a1.1 a1.2.2 (b := 0) (by omega) h; omega
      · have := phx a1.1 a1.2.2 (b := 1) (by omega) h; omega
      · have := phx a1.1 a1.2.2 (b := 12) (by omega) h; omega
    refine ⟨x, g', w, v, ⟨ex.1, ex.2, by omega⟩, ⟨eg.1, eg.2, hg'⟩, e13, ?_, ?_, ?_, by omega, by omega, by omega, by omega, by omega, by omega, by omega, fun _ => ?_, by omega⟩
    · rw [s1 336 p (by omega), eP]; exact a4
    · rw [s1 385 p (by omega), s2 16 p (by omega)]; exact a5
    · rw [s2 18 p (by omega)]; exact a6
    · rw [eP]; exact a14 hph
  · refine ⟨by rw [eW.1, eW.2.2], fun h => ?_, fun _ => eW.2.1, ?_, fun _ => eW.1, fun h => ?_, fun h => ?_, fun h => ?_, fun h => ?_⟩
    · rw [eW.1] at h; exact absurd h (by decide)
    · rw [s2 17 p (by omega)]; exact hlw.2.2.2.1
    · rcases h with h | h
      · have := nx 11 (by omega) h; omega
      · have := nx 12 (by omega) h; omega
    · exfalso
      apply h
      rw [ex.1]
      rcases x with _ | _ | x
      · exact Or.inl rfl
      · exact Or.inr rfl
      · omega
    · have := nx 6 (by omega) h
      omega
    · rw [eW.1] at h; exact absurd h (by decide)
  · refine ⟨fun h => ?_, fun h => ?_, fun h => ?_⟩
    · rcases h with h | h
      · have := nx 5 (by omega) h; omega
      · have := nx 6 (by omega) h; omega
    · have := nx 7 (by omega) h
      omega
    · have := nx 8 (by omega) h
      omega
theorem J.w0 (hJ : J m σ τ) (hp : p < m) (h : σ.1 325 p = 0 ∨ σ.1 325 p = 1) : σ.1 384 p = 0 ∧ σ.1 386 p = -1 ∧ τ 15 p = 0 := by
  have hlw := hJ.lw hp
  have h0 := hlw.2.2.2.2.1 h
  exact ⟨h0, hlw.2.2.1 (by rw [h0]; decide), by rw [hlw.1, h0]⟩
theorem J.spawnX (hJ : J m σ τ) (hp : p < m) (h0 : σ.1 325 p = 0) : J m (up (up (up σ 325 p 1) 326 p 0) 327 p 0) (mEmp τ p) := by
  refine hJ.idle hp (Or.inl h0) (fun f i h => ?_) (fun k i h => ?_) rfl (x := 1) (by omega) ⟨by simp [up]; rfl, by simp [mEmp, ut]; rfl⟩ (g' := 0) (by omega) ⟨by simp [up]; rfl, by simp [mEmp, ut]; rfl⟩ (by simp [mEmp, up, ut]) (hJ.w0 hp (Or.inl h0))
  · simp only [up]; rw [if_neg (by omega), if_neg (by omega), if_neg (by omega)]
  · simp only [mEmp, ut]; rw [if_neg (by omega), if_neg (by omega), if_neg (by omega)]
theorem J.quitX (hJ : J m σ τ) (hp : p < m) (h0 : σ.1 325 p = 1) : J m (up σ 325 p 0) (ut τ 7 p 0) := by
  obtain ⟨ph, g, w, v, a1, a2, a3, -⟩ := hJ.la hp
  refine hJ.idle hp (Or.inr (Or.inl h0)) (fun f i h => ?_) (fun k i h => ?_) rfl (x := 0) (by omega) ⟨by simp [up]; rfl, by simp [ut]; rfl⟩ (g' := g) a2.2.2 ⟨a2.1, a2.2.1⟩ a3 (hJ.w0 hp (Or.inr h0))
  · simp only [up]; rw [if_neg (by omega)]
  · simp only [ut]; rw [if_neg (by omega)]
theorem J.timeX (hJ : J m σ τ) (hp : p < m) (h0 : σ.1 325 p = 1) (k0 : Int32) : J m (up σ 327 p k0) (ut τ 13 p k0) := by
  obtain ⟨ph, g, w, v, a1, a2, a3, -⟩ := hJ.la hp
  have hph : ph = 1 := phx a1.1 a1.2.2 (b := 1) (by omega) h0
  refine hJ.idle hp (Or.inr (Or.inl h0)) (fun f i h => ?_) (fun k i h => ?_) rfl (x := 1) (by omega) ⟨h0, by rw [← hph]; exact a1.2.1⟩ (g' := g) a2.2.2 ⟨a2.1, a2.2.1⟩ (by simp [up, ut]) (hJ.w0 hp (Or.inr h0))
  · simp only [up]; rw [if_neg (by omega)]
  · simp only [ut]; rw [if_neg (by omega)]
theorem J.finX (hJ : J m σ τ) (hp : p < m) (h0 : σ.1 325 p = 12) : J m (up (up (up (up (up σ 384 p 0) 386 p (-1)) 325 p 1) 326 p 0) 327 p 0) (ut (mEmp τ p) 15 p 0) := by
  refine hJ.idle hp (Or.inr (Or.inr h0)) (fun f i h => ?_) (fun k i h => ?_) rfl (x := 1) (by omega) ⟨by simp [up]; rfl, by simp [mEmp, ut]; rfl⟩ (g' := 0) (by omega) ⟨by simp [up]; rfl, by simp [mEmp, ut]; rfl⟩ (by simp [mEmp, up, ut]) ⟨by simp [up], by simp [up], by simp [ut]⟩
  · simp only [up]; rw [if_neg (by omega), if_neg (by omega), if_neg (by omega), if_neg (by omega), if_neg (by omega)]
  · simp only [mEmp, ut]; rw [if_neg (by omega), if_neg (by omega), if_neg (by omega), if_neg (by omega)]
theorem J.cncX (hJ : J m σ τ) (hp : p < m) (h2 : ¬ σ.1 325 p < 2) (h11 : ¬ 11 < σ.1 325 p) (hW : σ.1 384 p = 1) : J m (cncS σ p) (mCnc τ p) := by
  obtain ⟨ph, hp2, hp11, e325, e7⟩ := off_ph hJ hp h2 h11
  have ho := hJ.out5 hp hW
  have z1 := (hJ.lw hp).2.2.2.2.2.2.2.2 hW
  have e : (putO σ p 5).1 325 p = σ.1 325 p := putO_f σ p 325 p 5 (by omega) (by omega) (by omega) (by omega) (by omega) (by omega)
  have n11 : ph ≠ 11 := fun h => by
    subst h
    have := (hJ.lw hp).2.2.2.2.2.1 (Or.inl e325)
    rw [hW] at this
    exact absurd this (by decide)
  have hwd := ho.wd hp (by rw [e]; exact nb_of e325 (by omega)) (Or.inr (by rw [putO_eq z1.1]; simp [up]))
  unfold cncS mCnc
  rw [e325, e7]
  have hc : ph = 2 ∨ ph = 3 ∨ ph = 4 ∨ ph = 5 ∨ ph = 6 ∨ ph = 7 ∨ ph = 8 ∨ ph = 9 ∨ ph = 10 := by omega
  rcases hc with rfl | rfl | rfl | rfl | rfl | rfl | rfl | rfl | rfl
  · rw [if_neg (by decide), if_pos (by decide)]; exact hwd
  · rw [if_neg (by decide), if_pos (by decide)]; exact hwd
  · rw [if_neg (by decide), if_pos (by decide)]; exact hwd
  · rw [if_pos (by decide), if_neg (by decide)]; exact ho
  · rw [if_pos (by decide), if_neg (by decide)]; exact ho
  · rw [if_pos (by decide), if_neg (by decide)]; exact ho
  · rw [if_pos (by decide), if_neg (by decide)]; exact ho
  · rw [if_neg (by decide), if_pos (by decide)]; exact hwd
  · rw [if_neg (by decide), if_pos (by decide)]; exact hwd
set_option maxHeartbeats 1000000 in
theorem J.grdX (hJ : J m σ τ) (hp : p < m) (h1 : σ.1 325 p = 1) {g c0 : Nat} (hg : σ.1 326 p = nI g) (hg8 : g < 8) (a c d : Int32) (hc0 : c0 < 8) : J m (up (up (up (up (up σ 128 (8 * p + g) a) 129 (8 * p + g) (nI c0)) 130 (8 * p + g) c) 131 (8 * p + g) d) 326 p (σ.1 326 p + 1)) (ut (ut (ut (ut (ut τ 9 (8 * p + g) a) 10 (8 * p + g) (nI c0)) 11 (8 * p + g) c) 12 (8 * p + g) d) 8 p (τ 8 p + 1)) := by
  have hm := hJ.1
  have hlw := hJ.lw hp
  have hla := hJ.la hp
  have hw0 := hJ.w0 hp (Or.inr h1)
  obtain ⟨-, jG, jB, jU, jT, jN, jE, jL⟩ := hJ
  have hJ0 : J m σ τ := ⟨hm, jG, jB, jU, jT, jN, jE, jL⟩
  refine hJ0.step2 hp (fun _ => False) jG jB (fun i hi => ?_) jT jN ?_ (fun r hr i hi => ?_) (fun f n hf _ => ?_) (Nat.le_refl _) (fun r _ => rfl) (fun r _ => rfl) (fun r f hr _ _ => ?_) (fun r _ => rfl) (Or.inr rfl) (fun r k hr hk => ?_) (fun r _ _ => ⟨⟨rfl, rfl, rfl, rfl⟩, rfl, rfl, rfl, rfl⟩) (fun t ht => ht.elim) ?_ ?_ ?_
  · by_cases hi2 : i = 8 * p + g
    · subst hi2
      refine ⟨by simp [up, ut], by simp [up, ut], by simp [up, ut], by simp [up, ut], c0, hc0, by simp [up]⟩
    · have := jU i hi
      simpa [up, ut, hi2] using this
  · obtain ⟨EL, e1, e2, e3, e4, e5, e6⟩ := jE
    exact ⟨EL, e1, e2, e3, e4, e5, e6⟩
  · simp only [up]; repeat rw [if_neg (by omega)]
  · simp only [up]; repeat rw [if_neg (by omega)]
  · simp only [up]; repeat rw [if_neg (by omega)]
  · simp only [ut]; repeat rw [if_neg (by omega)]
  · obtain ⟨ph, g', w, v, a1, a2, a3, a4, a5, a6, a7, a8, a9, a10, a11, a12, a13, a14, a15⟩ := hla
    have hph : ph = 1 := phx a1.1 a1.2.2 (b := 1) (by omega) h1
    have hgg : g' = g := nI_inj (by omega) (by omega) (a2.1.symm.trans hg)
    refine ⟨ph, g + 1, w, v, a1, ⟨?_, ?_, by omega⟩, a3, a4, a5, a6, by omega, by omega, by omega, by omega, by omega, by omega, by omega, a14, a15⟩
    · rw [up_same, hg]; exact inc1 g
    · rw [ut_same, a2.2.1, hgg]; exact inc1 g
  · exact hlw
  · refine ⟨fun h => ?_, fun h => ?_, fun h => ?_⟩
    · have h : σ.1 325 p = 5 ∨ σ.1 325 p = 6 := h
      rw [h1] at h
      exact absurd h (by decide)
    · have h : σ.1 325 p = 7 := h
      rw [h1] at h
      exact absurd h (by decide)
    · have h : σ.1 325 p = 8 := h
      rw [h1] at h
      exact absurd h (by decide)
set_option maxHeartbeats 2000000 in
theorem J.offX (hJ : J m σ τ) (hp : p < m) (h1 : σ.1 325 p = 1) (hv : σ.1 385 p < 1000) : J m (bOf σ p (σ.1 451 0)) (mOff τ p) := by
  have hm := hJ.1
  have hlw := hJ.lw hp
  have hla := hJ.la hp
  have hw0 := hJ.w0 hp (Or.inr h1)
  have enx := hJ.nx hp 0
  obtain ⟨ph, g, w, v, a1, a2, a3, a4, a5, a6, a7, a8, a9, a10, a11, a12, a13, a14, a15⟩ := hla
  have hph : ph = 1 := phx a1.1 a1.2.2 (b := 1) (by omega) h1
  have hv1 : v < 1000 := by
    rcases Nat.lt_or_ge v 1000 with q | q
    · exact q
    · exact absurd (nI_le (a := 1000) q (by omega)) (Int32.not_le.mpr (by rw [← a5.1]; exact hv))
  have hwl := a14 (by omega)
  obtain ⟨x, at', hx, hσ, hτ, hat⟩ : ∃ (x : Nat) (at' : Int32), (x = 2 ∨ x = 9) ∧ bOf σ p (σ.1 451 0) = up (up (bOf0 σ p (σ.1 451 0)) 329 p at') 325 p (nI x) ∧ (if mNx τ p 0 = none then (9 : Int32) else 2) = nI x ∧ ((x = 9 ∧ atO (oI (mNx τ p 0))) ∨ (x = 2 ∧ ∃ j, j < g ∧ at' = nI j ∧ oI (mNx τ p 0) = nI j ∧ ¬ σ.1 131 (8 * p + j) = 0)) := by
    rw [enx]
    unfold bOf
    rcases hn : nxt σ p 0 with _ | j
    · exact ⟨9, 0, Or.inr rfl, rfl, by rw [if_pos rfl]; rfl, Or.inl ⟨rfl, Or.inl rfl⟩⟩
    · have hb := fOn_some hn
      rw [a2.1, cN_nI (by omega)] at hb
      exact ⟨2, nI j, Or.inl rfl, rfl, by rw [if_neg (fun h => by cases h)]; rfl, Or.inr ⟨rfl, j, by omega, rfl, rfl, hb.2.2⟩⟩
  unfold mOff
  rw [hσ, hτ]
  have s1 : ∀ f i, i ≠ p ∨ ¬ (f = 385 ∨ f = 384 ∨ f = 386 ∨ f = 325 ∨ f = 328 ∨ f = 329 ∨ f = 332 ∨ f = 333 ∨ f = 334 ∨ f = 336 ∨ f = 337 ∨ f = 338 ∨ f = 339) → (up (up (bOf0 σ p (σ.1 451 0)) 329 p at') 325 p (nI x)).1 f i = σ.1 f i := fun f i h => by
    simp only [bOf0, up, uM, uP]
    repeat rw [if_neg (by omega)]
  have s2 : ∀ k i, i ≠ p ∨ ¬ (k = 16 ∨ k = 15 ∨ k = 20 ∨ k = 25 ∨ k = 24 ∨ k = 18 ∨ k = 7 ∨ k = 14) → (ut (ut (ut (ut (ut (ut (ut (ut τ 16 p (τ 16 p + 1)) 15 p 1) 20 p 0) 25 p 0) 24 p 0) 18 p (oI (mNx τ p 0))) 7 p (nI x)) 14 p (if τ 13 p ≤ 0 then -1 else τ 1 0 + τ 13 p)) k i = τ k i := fun k i h => by
    simp only [ut]
    repeat rw [if_neg (by omega)]
  have v1 : (up (up (bOf0 σ p (σ.1 451 0)) 329 p at') 325 p (nI x)).1 385 p = nI (v + 1) := by
    have : (up (up (bOf0 σ p (σ.1 451 0)) 329 p at') 325 p (nI x)).1 385 p = σ.1 385 p + 1 := by simp [bOf0, up, uM, uP]
    rw [this, a5.1]; exact inc1 v
  have v337 : (up (up (bOf0 σ p (σ.1 451 0)) 329 p at') 325 p (nI x)).1 337 p = 0 := by simp [bOf0, up, uM, uP]
  have v338 : (up (up (bOf0 σ p (σ.1 451 0)) 329 p at') 325 p (nI x)).1 338 p = 0 := by simp [bOf0, up, uM, uP]
  have v384 : (up (up (bOf0 σ p (σ.1 451 0)) 329 p at') 325 p (nI x)).1 384 p = 1 := by simp [bOf0, up, uM, uP]
  have v386 : (up (up (bOf0 σ p (σ.1 451 0)) 329 p at') 325 p (nI x)).1 386 p = -1 := by simp [bOf0, up, uM, uP]
  have v332 : (up (up (bOf0 σ p (σ.1 451 0)) 329 p at') 325 p (nI x)).1 332 p = 0 := by simp [bOf0, up, uM, uP]
  have v336 : (up (up (bOf0 σ p (σ.1 451 0)) 329 p at') 325 p (nI x)).1 336 p = 0 := by simp [bOf0, up, uM, uP]
  have v328 : (up (up (bOf0 σ p (σ.1 451 0)) 329 p at') 325 p (nI x)).1 328 p = if σ.1 327 p ≤ 0 then -1 else σ.1 451 0 + σ.1 327 p := by simp [bOf0, up, uM, uP]
  have v329 : (up (up (bOf0 σ p (σ.1 451 0)) 329 p at') 325 p (nI x)).1 329 p = at' := by simp [up]
  have v325 : (up (up (bOf0 σ p (σ.1 451 0)) 329 p at') 325 p (nI x)).1 325 p = nI x := by simp [up]
  have vM : ∀ r, sMet (up (up (bOf0 σ p (σ.1 451 0)) 329 p at') 325 p (nI x)) r = if r = p then none else sMet σ r := fun r => rfl
  have vP : ∀ r, sPb (up (up (bOf0 σ p (σ.1 451 0)) 329 p at') 325 p (nI x)) r = if r = p then [] else sPb σ r := fun r => rfl
  have vL : ∀ r, sLs (up (up (bOf0 σ p (σ.1 451 0)) 329 p at') 325 p (nI x)) r = sLs σ r := fun r => rfl
  have vN : sNp (up (up (bOf0 σ p (σ.1 451 0)) 329 p at') 325 p (nI x)) = sNp σ := rfl
  have t : ∀ k v0, (k = 16 ∧ v0 = nI (v + 1)) ∨ (k = 15 ∧ v0 = 1) ∨ (k = 20 ∧ v0 = 0) ∨ (k = 25 ∧ v0 = 0) ∨ (k = 18 ∧ v0 = oI (mNx τ p 0)) ∨ (k = 7 ∧ v0 = nI x) ∨ (k = 14 ∧ v0 = if τ 13 p ≤ 0 then -1 else τ 1 0 + τ 13 p) → (ut (ut (ut (ut (ut (ut (ut (ut τ 16 p (τ 16 p + 1)) 15 p 1) 20 p 0) 25 p 0) 24 p 0) 18 p (oI (mNx τ p 0))) 7 p (nI x)) 14 p (if τ 13 p ≤ 0 then -1 else τ 1 0 + τ 13 p)) k p = v0 := fun k v0 h => by
    rcases h with ⟨rfl, rfl⟩ | ⟨rfl, rfl⟩ | ⟨rfl, rfl⟩ | ⟨rfl, rfl⟩ | ⟨rfl, rfl⟩ | ⟨rfl, rfl⟩ | ⟨rfl, rfl⟩
    · have : (ut (ut (ut (ut (ut (ut (ut (ut τ 16 p (τ 16 p + 1)) 15 p 1) 20 p 0) 25 p 0) 24 p 0) 18 p (oI (mNx τ p 0))) 7 p (nI x)) 14 p (if τ 13 p ≤ 0 then -1 else τ 1 0 + τ 13 p)) 16 p = τ 16 p + 1 := by simp [ut]
      rw [this, a5.2.1]; exact inc1 v
    · simp [ut]
    · simp [ut]
    · simp [ut]
    · simp [ut]
    · simp [ut]
    · simp [ut]
  generalize up (up (bOf0 σ p (σ.1 451 0)) 329 p at') 325 p (nI x) = S at s1 v1 v337 v338 v384 v386 v332 v336 v328 v329 v325 vM vP vL vN ⊢
  generalize ut (ut (ut (ut (ut (ut (ut (ut τ 16 p (τ 16 p + 1)) 15 p 1) 20 p 0) 25 p 0) 24 p 0) 18 p (oI (mNx τ p 0))) 7 p (nI x)) 14 p (if τ 13 p ≤ 0 then -1 else τ 1 0 + τ 13 p) = Tt at s2 t ⊢
  have t16 : Tt 16 p = nI (v + 1) := t 16 _ (Or.inl ⟨rfl, rfl⟩)
  have t15 : Tt 15 p = 1 := t 15 _ (Or.inr (Or.inl ⟨rfl, rfl⟩))
  have t20 : Tt 20 p = 0 := t 20 _ (Or.inr (Or.inr (Or.inl ⟨rfl, rfl⟩)))
  have t25 : Tt 25 p = 0 := t 25 _ (Or.inr (Or.inr (Or.inr (Or.inl ⟨rfl, rfl⟩))))
  have t18 : Tt 18 p = oI (mNx τ p 0) := t 18 _ (Or.inr (Or.inr (Or.inr (Or.inr (Or.inl ⟨rfl, rfl⟩)))))
  have t7 : Tt 7 p = nI x := t 7 _ (Or.inr (Or.inr (Or.inr (Or.inr (Or.inr (Or.inl ⟨rfl, rfl⟩))))))
  have t14 : Tt 14 p = if τ 13 p ≤ 0 then -1 else τ 1 0 + τ 13 p := t 14 _ (Or.inr (Or.inr (Or.inr (Or.inr (Or.inr (Or.inr ⟨rfl, rfl⟩))))))
  clear t
  have nx : ∀ a : Nat, a ≤ 12 → S.1 325 p = nI a → x = a := fun a ha h => phx v325 (by omega) ha h
  have hfresh := hJ.2.2.1.2.2.2 p hp (v + 1) (by rw [a5.1, cN_nI (by omega)]; omega) (by omega)
  have ebc : bc S p = 1001 * p + (v + 1) := by unfold bc; rw [v1, cN_nI (by omega)]
  have w1 : ∀ r, r ≠ p → (S.1 384 r = σ.1 384 r ∧ S.1 386 r = σ.1 386 r ∧ S.1 337 r = σ.1 337 r ∧ S.1 338 r = σ.1 338 r) ∧ Tt 15 r = τ 15 r ∧ Tt 17 r = τ 17 r ∧ Tt 39 (bc σ r) = τ 39 (bc σ r) ∧ Tt 40 (bc σ r) = τ 40 (bc σ r) := fun r hr => ⟨⟨s1 _ _ (by omega), s1 _ _ (by omega), s1 _ _ (by omega), s1 _ _ (by omega)⟩, s2 _ _ (by omega), s2 _ _ (by omega), s2 _ _ (by omega), s2 _ _ (by omega)⟩
  obtain ⟨-, jG, jB, jU, jT, jN, jE, jL⟩ := hJ
  have hJ0 : J m σ τ := ⟨hm, jG, jB, jU, jT, jN, jE, jL⟩
  refine hJ0.step2 hp (fun r => r = p) ?_ ?_ (fun i hi => ?_) (fun r hr => ?_) ⟨fun y g1 g2 => ?_, ?_⟩ ?_ (fun r _ i _ => s1 _ _ (by omega)) (fun f n hf hn => s1 _ _ (by omega)) (by rw [vN]; exact Nat.le_refl _) (fun r hr => by rw [vP, if_neg hr]) (fun r hr => by rw [vM, if_neg hr]) (fun r f hr _ _ => s1 _ _ (by omega)) (fun r hr => s1 _ _ (by omega)) (Or.inl rfl) (fun r k hr hk => s2 _ _ (by omega)) (fun r _ hr => w1 r hr) (fun t ht => ⟨ht, by subst ht; rw [hw0.1]; decide⟩) ?_ ?_ ?_
  · obtain ⟨g0, g1, g2, g3, g4, g5, g6, g7, g8⟩ := jG
    refine ⟨?_, ?_, ?_, ?_, ?_, ?_, ?_, ?_, ?_⟩
    · rw [s2 0 0 (by omega)]; exact g0
    · rw [s2 1 0 (by omega), s1 451 0 (by omega)]; exact g1
    · rw [s2 2 0 (by omega), s1 452 0 (by omega)]; exact g2
    · rw [s2 3 0 (by omega), s1 257 0 (by omega)]; exact g3
    · rw [s2 4 0 (by omega), s1 453 0 (by omega)]; exact g4
    · rw [s2 5 0 (by omega), s1 454 0 (by omega)]; exact g5
    · rw [s2 6 0 (by omega), s1 455 0 (by omega)]; exact g6
    · rw [s1 456 0 (by omega)]; exact g7
    · rw [s1 453 0 (by omega), vN]; exact g8
  · obtain ⟨b1, b2, ⟨z, z1, z2⟩, b4⟩ := jB
    refine ⟨fun i hi => ?_, fun k hk => ?_, ⟨z, ?_, ?_⟩, fun r hr y hy1 hy2 => ?_⟩
    · rw [s2 38 i (by omega), s1 900 i (by omega)]; exact b1 i hi
    · unfold dB
      rw [s2 39 k (by omega), s2 40 k (by omega)]; exact b2 k hk
    · rw [s1 257 0 (by omega)]; exact z1
    · refine Nat.le_trans z2 (sm_le (fun r _ => ?_))
      unfold uV
      by_cases hrp : r = p
      · subst hrp
        rw [v1, v337, a5.1, cN_nI (by omega), cN_nI (by omega), if_pos rfl]
        split <;> omega
      · rw [s1 385 r (by omega), s1 337 r (by omega)]; exact Nat.le_refl _
    · rw [s2 39 _ (by omega), s2 40 _ (by omega)]
      by_cases hrp : r = p
      · subst hrp
        rw [v1, cN_nI (by omega)] at hy1
        exact b4 r hr y (by rw [a5.1, cN_nI (by omega)]; omega) hy2
      · rw [s1 385 r (by omega)] at hy1
        exact b4 r hr y hy1 hy2
  · rw [s1 128 i (by omega), s1 129 i (by omega), s1 130 i (by omega), s1 131 i (by omega), s2 9 i (by omega), s2 10 i (by omega), s2 11 i (by omega), s2 12 i (by omega)]
    exact jU i hi
  · rw [s2 26 r (by omega), s2 27 r (by omega), s2 28 r (by omega), s2 29 r (by omega), s2 30 r (by omega), s1 192 r (by omega), s1 193 r (by omega), s1 194 r (by omega), s1 195 r (by omega), s1 196 r (by omega)]
    exact jT r hr
  · rw [s1 0 y (by omega), s1 3 y (by omega), s1 1 y (by omega)]
    exact jN.1 y g1 (by rw [← vN]; exact g2)
  · rw [vN]
    refine Nat.le_trans jN.2 (sm_le (fun r _ => ?_))
    unfold uN
    by_cases hrp : r = p
    · subst hrp
      rw [v1, a5.1, cN_nI (by omega), cN_nI (by omega)]
      omega
    · rw [s1 385 r (by omega), vP, if_neg hrp]; exact Nat.le_refl _
  · obtain ⟨EL, e1, e2, e3, e4, e5, e6⟩ := jE
    refine ⟨EL, e1, fun n hn => ?_, ?_, fun k n hk => ?_, fun c hc => ?_, fun r hr => ?_⟩
    · rw [vN]; exact e2 n hn
    · rw [s2 31 0 (by omega)]; exact e3
    · rw [s2 32 k (by omega), s2 33 k (by omega), s2 34 k (by omega), s2 35 k (by omega), s2 36 k (by omega), s2 37 k (by omega), s1 0 n (by omega), s1 1 n (by omega), s1 2 n (by omega), s1 3 n (by omega), s1 4 n (by omega)]
      exact e4 k n hk
    · rw [vL, e5 c hc]
      have : (fun n => decide (S.1 3 n = nI c)) = fun n => decide (σ.1 3 n = nI c) := by funext n; rw [s1 3 n (by omega)]
      rw [this]
    · have : (fun n => decide (S.1 0 n = nI r)) = fun n => decide (σ.1 0 n = nI r) := by funext n; rw [s1 0 n (by omega)]
      rw [this, vP]
      by_cases hrp : r = p
      · subst hrp
        rw [if_pos rfl, ← e6 r hr, a4.1, cN_nI (by omega), hwl, List.drop_length]
        exact List.drop_nil
      · rw [if_neg hrp, s1 336 r (by omega)]; exact e6 r hr
  · refine ⟨x, g, 0, v + 1, ⟨v325, t7, by omega⟩, ?_, ?_, ⟨v336, Nat.zero_le _, by rw [vP, if_pos rfl]; exact Nat.zero_le _⟩, ⟨v1, t16, by omega⟩, ?_, fun _ => ?_, fun h => ?_, by omega, fun _ => ?_, by omega, by omega, by omega, by omega, by omega⟩
    · rw [s1 326 p (by omega), s2 8 p (by omega)]; exact a2
    · rw [s1 327 p (by omega), s2 13 p (by omega)]; exact a3
    · rw [t18]
      rcases hat with ⟨-, h⟩ | ⟨-, j, j1, j2, j3, j4⟩
      · exact h
      · exact Or.inr ⟨j, by omega, j3⟩
    · rw [t14, v328, a3, jG.2.1]
    · rcases hat with ⟨h9, -⟩ | ⟨-, j, j1, j2, j3, j4⟩
      · omega
      · exact ⟨j, j1, by rw [v329, j2], by rw [t18, j3], by rw [s1 131 _ (by omega)]; exact j4, fun _ => by rw [vP, if_pos rfl]; exact Nat.zero_le _⟩
    · rw [t20, v332]
  · refine ⟨by rw [v384, t15], fun h => ?_, fun _ => v386, ?_, fun h => ?_, fun h => ?_, fun _ => ⟨fun h => ?_, fun _ => t25⟩, fun h => ?_, fun _ => ⟨v337, v338, ?_, ?_⟩⟩
    · rw [v384] at h; exact absurd h (by decide)
    · rw [s2 17 p (by omega)]; exact hlw.2.2.2.1
    · rcases h with h | h
      · have := nx 0 (by omega) h; omega
      · have := nx 1 (by omega) h; omega
    · rcases h with h | h
      · have := nx 11 (by omega) h; omega
      · have := nx 12 (by omega) h; omega
    · rw [v384] at h; exact absurd h (by decide)
    · have := nx 6 (by omega) h
      omega
    · rw [ebc, s2 39 _ (by omega)]; exact hfresh.1
    · rw [ebc, s2 40 _ (by omega)]; exact hfresh.2
  · refine ⟨fun h => ?_, fun h => ?_, fun h => ?_⟩
    · rcases h with h | h
      · have := nx 5 (by omega) h; omega
      · have := nx 6 (by omega) h; omega
    · have := nx 7 (by omega) h
      omega
    · have := nx 8 (by omega) h
      omega
end OUTER

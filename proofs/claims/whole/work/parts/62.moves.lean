section MOVES
variable {m : Nat} {σ : Sg} {τ : Tu} {σ' : Sg} {τ' : Tu} {p : Nat}
/-- a count that only answers tell -/
theorem J.glob (hJ : J m σ τ) {f k : Nat} (hf : (f = 451 ∧ k = 1) ∨ (f = 452 ∧ k = 2) ∨ (f = 454 ∧ k = 5) ∨ (f = 455 ∧ k = 6)) (v : Int32) : J m (up σ f 0 v) (ut τ k 0 v) := by
  have hm := hJ.1
  have s1 : ∀ g i, g ≠ f → (up σ f 0 v).1 g i = σ.1 g i := fun g i h => up_fne σ 0 i v h
  have s2 : ∀ g i, g ≠ k → ut τ k 0 v g i = τ g i := fun g i h => ut_fne τ 0 i v h
  have w1 : ∀ r, ((up σ f 0 v).1 384 r = σ.1 384 r ∧ (up σ f 0 v).1 386 r = σ.1 386 r ∧ (up σ f 0 v).1 337 r = σ.1 337 r ∧ (up σ f 0 v).1 338 r = σ.1 338 r) ∧ ut τ k 0 v 15 r = τ 15 r ∧ ut τ k 0 v 17 r = τ 17 r ∧ ut τ k 0 v 39 (bc σ r) = τ 39 (bc σ r) ∧ ut τ k 0 v 40 (bc σ r) = τ 40 (bc σ r) := fun r => ⟨⟨s1 _ _ (by omega), s1 _ _ (by omega), s1 _ _ (by omega), s1 _ _ (by omega)⟩, s2 _ _ (by omega), s2 _ _ (by omega), s2 _ _ (by omega), s2 _ _ (by omega)⟩
  have hp : 0 < m := by omega
  obtain ⟨-, jG, jB, jU, jT, jN, jE, jL⟩ := hJ
  have hJ0 : J m σ τ := ⟨hm, jG, jB, jU, jT, jN, jE, jL⟩
  obtain ⟨l1, l2, l3⟩ := jL 0 hp
  refine hJ0.step hp (fun _ => False) ?_ ?_ (fun r hr => ?_) (fun g i h => s1 g i (by omega)) (fun g i h => s2 g i (by omega)) rfl (fun r => ⟨s1 _ _ (by omega), s2 _ _ (by omega), s1 _ _ (by omega)⟩) (fun r g _ _ _ => s1 g r (by omega)) (fun r _ => rfl) (fun r g _ h => s2 g r (by omega)) (fun r _ _ => w1 r) (fun t ht => ht.elim) (fun t _ ht => ht.elim) ?_ ?_ ?_
  · obtain ⟨g0, g1, g2, g3, g4, g5, g6, g7, g8⟩ := jG
    rcases hf with ⟨rfl, rfl⟩ | ⟨rfl, rfl⟩ | ⟨rfl, rfl⟩ | ⟨rfl, rfl⟩
    · exact ⟨g0, by rw [up_same, ut_same], g2, g3, g4, g5, g6, g7, g8⟩
    · exact ⟨g0, g1, by rw [up_same, ut_same], g3, g4, g5, g6, g7, g8⟩
    · exact ⟨g0, g1, g2, g3, g4, by rw [up_same, ut_same], g6, g7, g8⟩
    · exact ⟨g0, g1, g2, g3, g4, g5, by rw [up_same, ut_same], g7, g8⟩
  · obtain ⟨b1, b2, b3, b4⟩ := jB
    refine ⟨fun i hi => ?_, fun k hk => ?_, ?_, fun r hr y h1 h2 => ?_⟩
    · rw [s2 38 i (by omega), s1 900 i (by omega)]; exact b1 i hi
    · unfold dB
      rw [s2 39 k (by omega), s2 40 k (by omega)]; exact b2 k hk
    · have : uV (up σ f 0 v) = uV σ := by funext r; unfold uV; rw [s1 385 r (by omega), (w1 r).1.2.2.1]
      rw [s1 257 0 (by omega), this]; exact b3
    · rw [s1 385 r (by omega)] at h1
      rw [s2 39 _ (by omega), s2 40 _ (by omega)]
      exact b4 r hr y h1 h2
  · rw [s2 26 r (by omega), s2 27 r (by omega), s2 28 r (by omega), s2 29 r (by omega), s2 30 r (by omega), s1 192 r (by omega), s1 193 r (by omega), s1 194 r (by omega), s1 195 r (by omega), s1 196 r (by omega)]
    exact jT r hr
  · exact l1.keep (fun g _ _ _ => s1 g 0 (by omega)) (s1 _ _ (by omega)) rfl rfl (fun j _ => s1 _ _ (by omega)) (fun g n h _ => s1 _ _ (by omega)) (Nat.le_refl _) (fun g h => s2 _ _ (by omega))
  · exact l2.keep ⟨s1 _ _ (by omega), s1 _ _ (by omega), s1 _ _ (by omega), s1 _ _ (by omega)⟩ (w1 0) (s2 _ _ (by omega))
  · exact l3.keep (m := m) (P := fun _ => False) (s0 := 1) (by omega) hm.2 (by omega) (by omega) (s1 _ _ (by omega)) rfl (fun _ n _ => ⟨s1 _ _ (by omega), s1 _ _ (by omega)⟩) (fun r _ _ => s1 _ _ (by omega)) (fun r _ _ => ⟨(w1 r).1, (w1 r).2.2.2⟩) (fun t ht => ht.elim) (Or.inr (s1 _ _ (by omega)))
theorem J.tryV (hJ : J m σ τ) : J m (tryN σ) (mTryN τ) := by
  have e5 : τ 5 0 = σ.1 454 0 := hJ.2.1.2.2.2.2.2.1
  have e6 : τ 6 0 = σ.1 455 0 := hJ.2.1.2.2.2.2.2.2.1
  have h1 := hJ.glob (f := 454) (k := 5) (by omega) (σ.1 454 0 + 1)
  have h2 := h1.glob (f := 455) (k := 6) (by omega) (σ.1 455 0 + 1)
  unfold tryN mTryN
  rw [e5, e6]
  exact h2
theorem fE_loc {a b : Sg} (h1 : sPb a p = sPb b p) (h2 : a.1 336 p = b.1 336 p) : fE a p = fE b p := by unfold fE; rw [h1, h2]
/-- p begins to withdraw: its word is settled -/
theorem J.wd (hJ : J m σ τ) (hp : p < m) (h2 : ¬ (σ.1 325 p = 0 ∨ σ.1 325 p = 1)) (hs : σ.1 384 p = 3 ∨ σ.1 384 p = 4) : J m (bWd σ p) (mWd τ p) := by
  obtain ⟨EL, hE⟩ := hJ.2.2.2.2.2.2.1
  have ho := hJ.own hp hE
  have hla := hJ.la hp
  have h5 : τ 5 0 = σ.1 454 0 := hJ.2.1.2.2.2.2.2.1
  have h6 : τ 6 0 = σ.1 455 0 := hJ.2.1.2.2.2.2.2.2.1
  obtain ⟨x, hx1, hx2, hx3, hx4⟩ : ∃ x : Nat, (x = 11 ∨ x = 12) ∧ (if (fE σ p).isSome then (11 : Int32) else 12) = nI x ∧ (if (mOwn τ p).isSome then (11 : Int32) else 12) = nI x ∧ ((x = 11 ∧ ∃ n, fE σ p = some n) ∨ (x = 12 ∧ fE σ p = none)) := by
    rcases hf : fE σ p with _ | n
    · exact ⟨12, Or.inr rfl, rfl, by rw [ho.1 hf]; rfl, Or.inr ⟨rfl, rfl⟩⟩
    · obtain ⟨k, -, hk⟩ := ho.2 n hf
      exact ⟨11, Or.inl rfl, rfl, by rw [hk]; rfl, Or.inl ⟨rfl, n, rfl⟩⟩
  unfold bWd mWd
  rw [hx2, hx3]
  refine hJ.stepA hp (x := x) (by omega) h2 (fun _ => hs) (by simp [up]) rfl (fun r _ => rfl) (fun f i h _ _ => ?_) (fun k i h _ _ => ?_) h5 h6 ?_
  · simp only [up]; rw [if_neg (by omega)]
  · simp only [ut]; rw [if_neg (by omega)]
  · refine hla.go h2 (x := x) (by omega) ⟨by simp [up], by simp [ut]⟩ ⟨rfl, rfl, rfl, rfl, rfl⟩ ⟨rfl, rfl, rfl, rfl⟩ rfl (Or.inr ?_) (by omega) (by omega) (by omega) (by omega) (by omega) (by omega) (fun _ w hw hwl hl8 => ?_)
    · obtain ⟨ph, g, w, v, a1, a2, a3, a4, a5, a6, -⟩ := hla
      exact a6
    · have ef : fE σ p = (sPb σ p)[w]? := by unfold fE; rw [hw, cN_nI (by omega)]
      rcases hx4 with ⟨rfl, n, hn⟩ | ⟨rfl, hn⟩
      · rw [ef] at hn
        have := (List.getElem?_eq_some_iff.mp hn).1
        exact ⟨by omega, fun _ => this⟩
      · rw [ef] at hn
        have := List.getElem?_eq_none_iff.mp hn
        exact ⟨fun _ => by omega, by omega⟩
theorem nb_of {x : Int32} {c : Nat} (h : x = nI c) (hc : 2 ≤ c ∧ c ≤ 12) : ¬ (x = 0 ∨ x = 1) := by
  rw [h]
  rintro (q | q)
  · have := nI_inj (a := c) (b := 0) (by omega) (by omega) q; omega
  · have := nI_inj (a := c) (b := 1) (by omega) (by omega) q; omega
/-- p is busy: any phase up to 9 -/
theorem J.busy (hJ : J m σ τ) (hp : p < m) {c : Nat} (hc : (2 ≤ c ∧ c ≤ 4) ∨ c = 9) (hph : σ.1 325 p = nI c) (b : Int32) : J m (up σ 332 p b) (ut τ 20 p b) := by
  have hla := hJ.la hp
  have h2 := nb_of hph (by omega)
  refine hJ.stepA hp (x := c) (by omega) h2 (by omega) (by simpa [up] using hph) rfl (fun r _ => rfl) (fun f i h _ _ => ?_) (fun k i h _ _ => ?_) hJ.2.1.2.2.2.2.2.1 hJ.2.1.2.2.2.2.2.2.1 ?_
  · simp only [up]; rw [if_neg (by omega)]
  · simp only [ut]; rw [if_neg (by omega)]
  · obtain ⟨ph, g, w, v, a1, a2, a3, a4, a5, a6, a7, a8, a9, a10, a11, a12, a13, a14, a15⟩ := hla
    have hcp : c = ph := phx hph (by omega) a1.2.2 a1.1
    subst hcp
    refine ⟨c, g, w, v, ?_, a2, a3, a4, a5, a6, a7, a8, a9, ?_, ?_, a12, a13, a14, a15⟩
    · simpa [up, ut] using a1
    · intro _; simp [up, ut]
    · omega
/-- from CLAIM back to LOOK -/
theorem J.back3 (hJ : J m σ τ) (hp : p < m) (hph : σ.1 325 p = 4) : J m (up σ 325 p 3) (ut τ 7 p 3) := by
  have hla := hJ.la hp
  have h2 := nb_of (c := 4) hph (by omega)
  refine hJ.stepA hp (x := 3) (by omega) h2 (by omega) (by simp [up]; rfl) rfl (fun r _ => rfl) (fun f i h _ _ => ?_) (fun k i h _ _ => ?_) hJ.2.1.2.2.2.2.2.1 hJ.2.1.2.2.2.2.2.2.1 ?_
  · simp only [up]; rw [if_neg (by omega)]
  · simp only [ut]; rw [if_neg (by omega)]
  · obtain ⟨ph, g, w, v, a1, a2, a3, a4, a5, a6, a7, a8, a9, a10, a11, a12, a13, a14, a15⟩ := hla
    have hcp : 4 = ph := phx (a := 4) hph (by omega) a1.2.2 a1.1
    subst hcp
    refine ⟨3, g, w, v, ⟨by simp [up]; rfl, by simp [ut]; rfl, by omega⟩, a2, a3, a4, a5, a6, fun _ => a7 (by omega), fun _ => ?_, fun _ => a9 (by omega), fun _ => a10 (by omega), by omega, by omega, by omega, by omega, by omega⟩
    obtain ⟨j, b1, b2, b3, b4, b5⟩ := a8 (by omega)
    exact ⟨j, b1, b2, b3, b4, by omega⟩
/-- p falls asleep -/
theorem J.sleep (hJ : J m σ τ) (hp : p < m) {c : Nat} (hc : c = 9 ∨ c = 10) (hph : σ.1 325 p = nI c) (hb : σ.1 332 p = 0) : J m (up σ 325 p 10) (ut (ut τ 20 p 0) 7 p 10) := by
  have hla := hJ.la hp
  have h2 := nb_of hph (by omega)
  refine hJ.stepA hp (x := 10) (by omega) h2 (by omega) (by simp [up]; rfl) rfl (fun r _ => rfl) (fun f i h _ _ => ?_) (fun k i h _ _ => ?_) hJ.2.1.2.2.2.2.2.1 hJ.2.1.2.2.2.2.2.2.1 ?_
  · simp only [up]; rw [if_neg (by omega)]
  · simp only [ut]; rw [if_neg (by omega), if_neg (by omega)]
  · refine hla.go h2 (x := 10) (by omega) ⟨by simp [up]; rfl, by simp [ut]; rfl⟩ ⟨rfl, rfl, rfl, rfl, rfl⟩ ⟨rfl, rfl, rfl, rfl⟩ rfl (Or.inr ?_) (by omega) (by omega) (fun _ => ?_) (fun _ => ?_) (by omega) (by omega) (by omega)
    · obtain ⟨ph, g, w, v, a1, a2, a3, a4, a5, a6, -⟩ := hla
      exact a6
    · simp [up, ut, hb]
    · simp [up, hb]
/-- p looks from the guard j on -/
theorem J.lookAt (hJ : J m σ τ) (hp : p < m) {c : Nat} (hc : c = 2 ∨ c = 3 ∨ c = 9) (hph : σ.1 325 p = nI c) {j0 j : Nat} (hj : nxt σ p j0 = some j) : J m (lkAt σ p (nI j)) (mLk τ p (some j)) := by
  have hla := hJ.la hp
  have h2 := nb_of hph (by omega)
  unfold lkAt mLk
  refine hJ.stepA hp (x := 3) (by omega) h2 (by omega) (by simp [up]; rfl) rfl (fun r _ => rfl) (fun f i h _ _ => ?_) (fun k i h _ _ => ?_) hJ.2.1.2.2.2.2.2.1 hJ.2.1.2.2.2.2.2.2.1 ?_
  · simp only [up]; rw [if_neg (by omega), if_neg (by omega), if_neg (by omega)]
  · simp only [ut]; rw [if_neg (by omega), if_neg (by omega), if_neg (by omega)]
  · refine hla.go h2 (x := 3) (by omega) ⟨by simp [up]; rfl, by simp [ut]; rfl⟩ ⟨rfl, rfl, rfl, rfl, rfl⟩ ⟨rfl, rfl, rfl, rfl⟩ rfl (Or.inl (by omega)) (fun _ g hg hg8 => ?_) (fun _ => ?_) (fun _ => ?_) (by omega) (by omega) (by omega) (by omega)
    · have hb := fOn_some hj
      rw [hg, cN_nI (by omega)] at hb
      exact ⟨j, by omega, by simp [up], by simp [ut, oI], by simpa [up] using hb.2.2, by omega⟩
    · simp [up, ut]
    · obtain ⟨ph, g, w, v, a1, a2, a3, a4, a5, a6, a7, a8, a9, a10, -⟩ := hla
      have hcp : c = ph := phx hph (by omega) a1.2.2 a1.1
      simpa [up, ut] using a10 (by omega)
/-- p has no guard left to look from -/
theorem J.lookEnd (hJ : J m σ τ) (hp : p < m) {c : Nat} (hc : c = 3) (hph : σ.1 325 p = nI c) : J m (up σ 325 p 9) (mLk τ p none) := by
  have hla := hJ.la hp
  have h2 := nb_of hph (by omega)
  unfold mLk
  refine hJ.stepA hp (x := 9) (by omega) h2 (by omega) (by simp [up]; rfl) rfl (fun r _ => rfl) (fun f i h _ _ => ?_) (fun k i h _ _ => ?_) hJ.2.1.2.2.2.2.2.1 hJ.2.1.2.2.2.2.2.2.1 ?_
  · simp only [up]; rw [if_neg (by omega)]
  · simp only [ut]; rw [if_neg (by omega), if_neg (by omega), if_neg (by omega)]
  · refine hla.go h2 (x := 9) (by omega) ⟨by simp [up]; rfl, by simp [ut]; rfl⟩ ⟨rfl, rfl, rfl, rfl, rfl⟩ ⟨rfl, rfl, rfl, rfl⟩ rfl (Or.inr (Or.inl (by simp [ut, oI]))) (by omega) (by omega) (fun _ => ?_) (by omega) (by omega) (by omega) (by omega)
    obtain ⟨ph, g, w, v, a1, a2, a3, a4, a5, a6, a7, a8, a9, a10, -⟩ := hla
    have hcp : c = ph := phx hph (by omega) a1.2.2 a1.1
    simpa [up, ut] using a10 (by omega)
/-- p sees the entry n and goes on -/
theorem J.seen (hJ : J m σ τ) (hp : p < m) (hph : σ.1 325 p = 3) (v0 : Int32) : J m (up σ 330 p v0) (ut τ 19 p v0) := by
  have hla := hJ.la hp
  have h2 := nb_of (c := 3) hph (by omega)
  refine hJ.stepA hp (x := 3) (by omega) h2 (by omega) (by simp [up]; exact hph) rfl (fun r _ => rfl) (fun f i h _ _ => ?_) (fun k i h _ _ => ?_) hJ.2.1.2.2.2.2.2.1 hJ.2.1.2.2.2.2.2.2.1 ?_
  · simp only [up]; rw [if_neg (by omega)]
  · simp only [ut]; rw [if_neg (by omega)]
  · obtain ⟨ph, g, w, v, a1, a2, a3, a4, a5, a6, a7, a8, a9, a10, a11, a12, a13, a14, a15⟩ := hla
    refine ⟨ph, g, w, v, a1, a2, a3, a4, a5, a6, a7, a8, ?_, a10, a11, a12, a13, a14, a15⟩
    intro _; simp [up, ut]
/-- p has met the entry n -/
theorem J.metE (hJ : J m σ τ) (hp : p < m) (hph : σ.1 325 p = 3) {n q : Nat} (hn : 1 ≤ n ∧ n ≤ sNp σ) (hq : σ.1 0 n = nI q) (hqm : q < m) (hqp : q ≠ p) : J m (up (uM (up σ 330 p (nI n)) p (some n)) 325 p 4) (ut (ut (ut (ut (ut τ 19 p (nI n)) 21 p (nI q)) 22 p (σ.1 1 n)) 23 p (σ.1 4 n)) 7 p 4) := by
  have hla := hJ.la hp
  have h2 := nb_of (c := 3) hph (by omega)
  refine hJ.stepA hp (x := 4) (by omega) h2 (by omega) (by simp [up]; rfl) rfl (fun r hr => ?_) (fun f i h _ _ => ?_) (fun k i h _ _ => ?_) hJ.2.1.2.2.2.2.2.1 hJ.2.1.2.2.2.2.2.2.1 ?_
  · simp [up, uM, sMet, hr]
  · simp only [up, uM]; rw [if_neg (by omega), if_neg (by omega)]
  · simp only [ut]; rw [if_neg (by omega), if_neg (by omega), if_neg (by omega), if_neg (by omega), if_neg (by omega)]
  · refine hla.go h2 (x := 4) (by omega) ⟨by simp [up]; rfl, by simp [ut]; rfl⟩ ⟨rfl, rfl, rfl, rfl, rfl⟩ ⟨rfl, rfl, rfl, rfl⟩ rfl (Or.inl (by omega)) (fun _ g hg hg8 => ?_) (fun _ => ?_) (fun _ => ?_) (by omega) (fun _ => ?_) (by omega) (by omega)
    · obtain ⟨ph, g', w, v, a1, a2, a3, a4, a5, a6, a7, a8, -⟩ := hla
      have hcp : 3 = ph := phx (a := 3) hph (by omega) a1.2.2 a1.1
      obtain ⟨j, b1, b2, b3, b4, b5⟩ := a8 (by omega)
      have hgg : g' = g := nI_inj (by omega) (by omega) (a2.1.symm.trans hg)
      exact ⟨j, by omega, b2, b3, b4, by omega⟩
    · simp [up, ut, uM]
    · obtain ⟨ph, g', w, v, a1, a2, a3, a4, a5, a6, a7, a8, a9, a10, -⟩ := hla
      have hcp : 3 = ph := phx (a := 3) hph (by omega) a1.2.2 a1.1
      exact a10 (by omega)
    · exact ⟨n, q, by simp [up, uM, sMet], hn.1, hn.2, hq, hqm, hqp, by simp [ut], by simp [ut, up, uM], by simp [ut, up, uM]⟩
end MOVES

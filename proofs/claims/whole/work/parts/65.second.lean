section SECOND
variable {m : Nat} {σ : Sg} {τ : Tu} {σ' : Sg} {τ' : Tu} {p t : Nat}
theorem pOf_eq (h1 : σ.1 337 p = 0) (h2 : σ.1 338 p = 0) : pOf σ p = up σ 337 p 1 := by
  unfold pOf ndb
  rw [if_neg]
  · rw [h1]; rfl
  · rintro ⟨h | ⟨h, h'⟩, -⟩
    · simp [up, h1] at h
    · simp [up, h2] at h'
/-- the rows of the pairs, and no more -/
theorem J.rows (hJ : J m σ τ) (s1 : ∀ f i, f ≠ 900 → σ'.1 f i = σ.1 f i) (s2 : ∀ k i, k ≠ 38 → τ' k i = τ k i) (s3 : σ'.2 = σ.2) (hr : ∀ i, i < 1600 → τ' 38 i = σ'.1 900 i) : J m σ' τ' := by
  have hm := hJ.1
  have w1 : ∀ r, (σ'.1 384 r = σ.1 384 r ∧ σ'.1 386 r = σ.1 386 r ∧ σ'.1 337 r = σ.1 337 r ∧ σ'.1 338 r = σ.1 338 r) ∧ τ' 15 r = τ 15 r ∧ τ' 17 r = τ 17 r ∧ τ' 39 (bc σ r) = τ 39 (bc σ r) ∧ τ' 40 (bc σ r) = τ 40 (bc σ r) := fun r => ⟨⟨s1 _ _ (by omega), s1 _ _ (by omega), s1 _ _ (by omega), s1 _ _ (by omega)⟩, s2 _ _ (by omega), s2 _ _ (by omega), s2 _ _ (by omega), s2 _ _ (by omega)⟩
  have eM : ∀ r, sMet σ' r = sMet σ r := fun r => by show σ'.2.1 r = _; rw [s3]
  have eP : ∀ r, sPb σ' r = sPb σ r := fun r => by show σ'.2.2.2.1 r = _; rw [s3]
  have eN : sNp σ' = sNp σ := by show σ'.2.2.2.2 = _; rw [s3]
  have hp : 0 < m := by omega
  obtain ⟨-, jG, jB, jU, jT, jN, jE, jL⟩ := hJ
  have hJ0 : J m σ τ := ⟨hm, jG, jB, jU, jT, jN, jE, jL⟩
  obtain ⟨l1, l2, l3⟩ := jL 0 hp
  refine hJ0.step hp (fun _ => False) ?_ ?_ (fun r hr => ?_) (fun g i h => s1 g i (by omega)) (fun g i h => s2 g i (by omega)) (by rw [s3]) (fun r => ⟨s1 _ _ (by omega), s2 _ _ (by omega), s1 _ _ (by omega)⟩) (fun r g _ _ _ => s1 g r (by omega)) (fun r _ => eM r) (fun r g _ h => s2 g r (by omega)) (fun r _ _ => w1 r) (fun t ht => ht.elim) (fun t _ ht => ht.elim) ?_ ?_ ?_
  · obtain ⟨g0, g1, g2, g3, g4, g5, g6, g7, g8⟩ := jG
    refine ⟨?_, ?_, ?_, ?_, ?_, ?_, ?_, ?_, ?_⟩
    · rw [s2 0 0 (by omega)]; exact g0
    · rw [s2 1 0 (by omega), s1 451 0 (by omega)]; exact g1
    · rw [s2 2 0 (by omega), s1 452 0 (by omega)]; exact g2
    · rw [s2 3 0 (by omega), s1 257 0 (by omega)]; exact g3
    · rw [s2 4 0 (by omega), s1 453 0 (by omega)]; exact g4
    · rw [s2 5 0 (by omega), s1 454 0 (by omega)]; exact g5
    · rw [s2 6 0 (by omega), s1 455 0 (by omega)]; exact g6
    · rw [s1 456 0 (by omega)]; exact g7
    · rw [s1 453 0 (by omega), eN]; exact g8
  · obtain ⟨b1, b2, b3, b4⟩ := jB
    refine ⟨hr, fun k hk => ?_, ?_, fun r hr y h1 h2 => ?_⟩
    · unfold dB
      rw [s2 39 k (by omega), s2 40 k (by omega)]; exact b2 k hk
    · have : uV σ' = uV σ := by funext r; unfold uV; rw [s1 385 r (by omega), (w1 r).1.2.2.1]
      rw [s1 257 0 (by omega), this]; exact b3
    · rw [s1 385 r (by omega)] at h1
      rw [s2 39 _ (by omega), s2 40 _ (by omega)]
      exact b4 r hr y h1 h2
  · rw [s2 26 r (by omega), s2 27 r (by omega), s2 28 r (by omega), s2 29 r (by omega), s2 30 r (by omega), s1 192 r (by omega), s1 193 r (by omega), s1 194 r (by omega), s1 195 r (by omega), s1 196 r (by omega)]
    exact jT r hr
  · exact l1.keep (fun g _ _ _ => s1 g 0 (by omega)) (s1 _ _ (by omega)) (eM 0) (eP 0) (fun j _ => s1 _ _ (by omega)) (fun g n h _ => s1 _ _ (by omega)) (by rw [eN]; exact Nat.le_refl _) (fun g h => s2 _ _ (by omega))
  · exact l2.keep ⟨s1 _ _ (by omega), s1 _ _ (by omega), s1 _ _ (by omega), s1 _ _ (by omega)⟩ (w1 0) (s2 _ _ (by omega))
  · exact l3.keep (m := m) (P := fun _ => False) (s0 := 1) (by omega) hm.2 (by omega) (by omega) (s1 _ _ (by omega)) (eM 0) (fun _ n _ => ⟨s1 _ _ (by omega), s1 _ _ (by omega)⟩) (fun r _ _ => s1 _ _ (by omega)) (fun r _ _ => ⟨(w1 r).1, (w1 r).2.2.2⟩) (fun t ht => ht.elim) (Or.inr (s1 _ _ (by omega)))
theorem lohi (p q : Nat) : (loT p q = p ∧ hiT p q = q) ∨ (loT p q = q ∧ hiT p q = p) := by
  unfold loT hiT
  by_cases h : p < q
  · exact Or.inl ⟨if_pos h, if_pos h⟩
  · exact Or.inr ⟨if_neg h, if_neg h⟩
/-- the second word claimed, both counted, but for the row of the pair -/
def sec7 (σ : Sg) (p q d : Nat) : Sg := up (up (up (up (tryY σ p d) 257 0 (σ.1 257 0 + 1)) 337 p 1) 337 q 1) 325 p 7
def mSec7 (τ : Tu) (p q d bp bq : Nat) : Tu := ut (ut (ut (ut (ut (mTryY τ p d) 24 p 0) 39 bp 1) 39 bq 1) 3 0 (τ 3 0 + 1)) 7 p 7
set_option maxHeartbeats 2000000 in
theorem J.sevn (hJ : J m σ τ) (hp : p < m) (h5 : σ.1 325 p = 5) {n q : Nat} (hmet : sMet σ p = some n) (hq : σ.1 0 n = nI q) (hqm : q < m) (hqp : q ≠ p) (hok : tryOk σ p (hiT p q) n) : J m (sec7 σ p q (hiT p q)) (mSec7 τ p q (hiT p q) (bc σ p) (bc σ q)) := by
  have hm := hJ.1
  obtain ⟨n', q', y1, y2, y3, y4, y5, y6⟩ := (hJ.lx hp).1 (Or.inl h5)
  obtain rfl : n = n' := by rw [hmet] at y1; cases y1; rfl
  obtain rfl : q = q' := nI_inj (by omega) (by omega) (hq.symm.trans y2)
  have hlw := hJ.lw hp
  have hla := hJ.la hp
  have hlq := hJ.lw hqm
  have h2 := nb_of (c := 5) h5 (by omega)
  have hdm := hiT_lt hp hqm
  have hlo := hJ.lw (loT_lt hp hqm)
  have hZh := (hJ.lw hdm).2.2.2.2.2.2.2.2 hok.1
  have c17 := hlo.2.1 y4.1
  have c15 := hlo.1
  rw [y4.1] at c15
  rw [y4.2] at c17
  obtain ⟨d, ed⟩ : ∃ d, d = hiT p q := ⟨_, rfl⟩
  obtain ⟨l, el⟩ : ∃ l, l = loT p q := ⟨_, rfl⟩
  have hdl : (l = p ∧ d = q) ∨ (l = q ∧ d = p) := by rw [ed, el]; exact lohi p q
  rw [← ed] at hok hZh hdm ⊢
  rw [← el] at y4 y5 y6 c15 c17
  clear ed el hlo
  obtain ⟨vp, vp1, vp2, vp3, -⟩ := hJ.bcv p hp
  obtain ⟨vq, vq1, vq2, vq3, -⟩ := hJ.bcv q hqm
  have hZp : Z0 σ τ p := by rcases hdl with ⟨e1, e2⟩ | ⟨e1, e2⟩ <;> subst e1 <;> subst e2 <;> assumption
  have hZq : Z0 σ τ q := by rcases hdl with ⟨e1, e2⟩ | ⟨e1, e2⟩ <;> subst e1 <;> subst e2 <;> assumption
  have hWp : σ.1 384 p = 1 ∨ σ.1 384 p = 2 := by
    rcases hdl with ⟨e1, e2⟩ | ⟨e1, e2⟩ <;> subst e1 <;> subst e2
    · exact Or.inr y4.1
    · exact Or.inl hok.1
  have hWq : σ.1 384 q = 1 ∨ σ.1 384 q = 2 := by
    rcases hdl with ⟨e1, e2⟩ | ⟨e1, e2⟩ <;> subst e1 <;> subst e2
    · exact Or.inl hok.1
    · exact Or.inr y4.1
  have k1 : ((sec7 σ p q d).1 384 p = 2 ∧ (sec7 σ p q d).1 386 p = nI p) ∧ mSec7 τ p q d (bc σ p) (bc σ q) 15 p = 2 ∧ mSec7 τ p q d (bc σ p) (bc σ q) 17 p = nI p := by
    rcases hdl with ⟨e1, e2⟩ | ⟨e1, e2⟩ <;> subst e1 <;> subst e2
    · simp [sec7, mSec7, tryY, mTryY, up, ut, Ne.symm hqp, y4.1, y4.2, c15, c17]
    · simp [sec7, mSec7, tryY, mTryY, up, ut]
  have k2 : ((sec7 σ p q d).1 384 q = 2 ∧ (sec7 σ p q d).1 386 q = nI p) ∧ mSec7 τ p q d (bc σ p) (bc σ q) 15 q = 2 ∧ mSec7 τ p q d (bc σ p) (bc σ q) 17 q = nI p := by
    rcases hdl with ⟨e1, e2⟩ | ⟨e1, e2⟩ <;> subst e1 <;> subst e2
    · simp [sec7, mSec7, tryY, mTryY, up, ut]
    · simp [sec7, mSec7, tryY, mTryY, up, ut, hqp, y4.1, y4.2, c15, c17]
  have hd : d = p ∨ d = q := by omega
  have hne : bc σ p ≠ bc σ q := by omega
  have m39 : ∀ k, mSec7 τ p q d (bc σ p) (bc σ q) 39 k = if k = bc σ q then 1 else if k = bc σ p then 1 else τ 39 k := fun k => by simp [mSec7, mTryY, ut]
  have x7 : ∀ a : Nat, a ≤ 12 → (sec7 σ p q d).1 325 p = nI a → 7 = a := fun a ha h => nI_inj (by omega) (by omega) ((show (sec7 σ p q d).1 325 p = nI 7 by simp [sec7, up]; rfl).symm.trans h)
  obtain ⟨-, jG, jB, jU, jT, jN, jE, jL⟩ := hJ
  have hJ0 : J m σ τ := ⟨hm, jG, jB, jU, jT, jN, jE, jL⟩
  refine hJ0.step hp (fun r => r = p ∨ r = q) ?_ ?_ jT (fun f i hf => ?_) (fun k i hk => ?_) rfl (fun r => ⟨rfl, rfl, rfl⟩) (fun r f hr _ _ => ?_) (fun r _ => rfl) (fun r k hr hk => ?_) (fun r hr hrt => ?_) (fun r hr h => ?_) (fun r _ hr hrp => ?_) ?_ ?_ ?_
  · obtain ⟨g0, g1, g2, g3, g4, g5, g6, g7, g8⟩ := jG
    exact ⟨g0, g1, g2, by show τ 3 0 + 1 = σ.1 257 0 + 1; rw [g3], g4, by show τ 5 0 + 1 = σ.1 454 0 + 1; rw [g5], g6, g7, g8⟩
  · obtain ⟨b1, b2, ⟨z, z1, z2⟩, b4⟩ := jB
    refine ⟨b1, fun k hk => ?_, ⟨z + 1, ?_, ?_⟩, fun r hr y h1 h2 => ?_⟩
    · have b := b2 k hk
      unfold dB at b ⊢
      rw [m39, show mSec7 τ p q d (bc σ p) (bc σ q) 40 k = τ 40 k from rfl]
      by_cases kq : k = bc σ q
      · subst kq
        rw [if_pos rfl, hZq.2.2.2]; rfl
      · rw [if_neg kq]
        by_cases kp : k = bc σ p
        · subst kp
          rw [if_pos rfl, hZp.2.2.2]; rfl
        · rw [if_neg kp]; exact b
    · show σ.1 257 0 + 1 = nI (z + 1)
      rw [z1]; exact inc1 z
    · refine Nat.le_trans (Nat.succ_le_succ z2) (sm_lt hp (fun i _ => ?_) ?_)
      · unfold uV
        show cN (σ.1 385 i) + _ ≤ cN (σ.1 385 i) + _
        by_cases hi : i = p ∨ i = q
        · have h0 : σ.1 337 i = 0 := by rcases hi with rfl | rfl; exact hZp.1; exact hZq.1
          rw [if_pos h0]; omega
        · have e : (sec7 σ p q d).1 337 i = σ.1 337 i := by simp only [sec7, tryY, up]; repeat rw [if_neg (by omega)]
          rw [e]; exact Nat.le_refl _
      · unfold uV
        show cN (σ.1 385 p) + _ + 1 ≤ cN (σ.1 385 p) + _
        have e : (sec7 σ p q d).1 337 p = 1 := by simp [sec7, up]
        rw [e, if_pos hZp.1, if_neg (by decide)]
        omega
    · have h1 : cN (σ.1 385 r) < y := h1
      have := b4 r hr y h1 h2
      obtain ⟨x, x1, x2, x3, -⟩ := hJ0.bcv r hr
      refine ⟨?_, this.2⟩
      rw [m39, if_neg, if_neg]
      · exact this.1
      · by_cases hrp : r = p
        · subst hrp; omega
        · omega
      · by_cases hrp : r = q
        · subst hrp; omega
        · omega
  · simp only [sec7, tryY, up]; repeat rw [if_neg (by omega)]
  · simp only [mSec7, mTryY, ut]; repeat rw [if_neg (by omega)]
  · simp only [sec7, tryY, up]; repeat rw [if_neg (by omega)]
  · simp only [mSec7, mTryY, ut]; repeat rw [if_neg (by omega)]
  · obtain ⟨x, x1, x2, x3, -⟩ := hJ0.bcv r hr
    refine ⟨⟨?_, ?_, ?_, rfl⟩, ?_, ?_, ?_, rfl⟩
    · simp only [sec7, tryY, up]; repeat rw [if_neg (by omega)]
    · simp only [sec7, tryY, up]; repeat rw [if_neg (by omega)]
    · simp only [sec7, tryY, up]; repeat rw [if_neg (by omega)]
    · simp only [mSec7, mTryY, ut]; repeat rw [if_neg (by omega)]
    · simp only [mSec7, mTryY, ut]; repeat rw [if_neg (by omega)]
    · rw [m39, if_neg (by omega), if_neg (by omega)]
  · by_cases hrd : r = d
    · subst hrd
      rw [hok.1] at h
      exact absurd h (by decide)
    · have : r = l := by omega
      subst this
      exact y4.2
  · have : r = q := by rcases hr with h | h; exact absurd h hrp; exact h
    subst this
    refine hlq.set2 hWq (w' := 2) (by decide) k2.1.1 k2.2.1 (c := p) (fun _ => ⟨k2.1.2, k2.2.2, hp⟩) (fun h => absurd rfl h) ?_ rfl ?_ (fun h => absurd h (by decide))
    · simp only [sec7, tryY, up]; repeat rw [if_neg (by omega)]
    · simp only [mSec7, mTryY, ut]; repeat rw [if_neg (by omega)]
  · refine hla.go h2 (x := 7) (by omega) ⟨by simp [sec7, up]; rfl, by simp [mSec7, ut]; rfl⟩ ⟨rfl, rfl, rfl, rfl, rfl⟩ ⟨rfl, rfl, rfl, rfl⟩ rfl (Or.inl (by omega)) (fun _ g hg hg8 => ?_) (fun _ => ?_) (fun _ => ?_) (by omega) (fun _ => ?_) (by omega) (by omega)
    all_goals obtain ⟨ph, g', w, v, a1, a2, a3, a4, a5, a6, a7, a8, a9, a10, a11, a12, a13, a14, a15⟩ := hla
    all_goals have hcp : 5 = ph := phx (a := 5) h5 (by omega) a1.2.2 a1.1
    · obtain ⟨j, b1, b2, b3, b4, b5⟩ := a8 (by omega)
      have hgg : g' = g := nI_inj (by omega) (by omega) (a2.1.symm.trans hg)
      exact ⟨j, by omega, b2, b3, b4, by omega⟩
    · exact a9 (by omega)
    · exact a10 (by omega)
    · exact a12 (by omega)
  · refine hlw.set hWp (w' := 2) (by decide) k1.1.1 k1.2.1 (c := p) (fun _ => ⟨k1.1.2, k1.2.2, hp⟩) (fun h => absurd rfl h) ?_ ?_ ?_ rfl (fun h => absurd h (by decide))
    · rintro (h | h)
      · have := x7 0 (by omega) h; omega
      · have := x7 1 (by omega) h; omega
    · rintro (h | h)
      · have := x7 11 (by omega) h; omega
      · have := x7 12 (by omega) h; omega
    · intro h
      have := x7 6 (by omega) h
      omega
  · refine ⟨fun h => ?_, fun h => ⟨n, q, hmet, hq, hqm, k1.1, k2.1⟩, fun h => ?_⟩
    · rcases h with h | h
      · have := x7 5 (by omega) h; omega
      · have := x7 6 (by omega) h; omega
    · have := x7 8 (by omega) h
      omega
end SECOND

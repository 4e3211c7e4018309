section ENTRIES
variable {m : Nat} {σ : Sg} {τ : Tu} {σ' : Sg} {τ' : Tu} {p : Nat}
theorem pubB_f (σ : Sg) (p j c f i : Nat) (h1 : ¬ (f < 5 ∧ i = sNp σ + 1)) (h2 : f ≠ 453) : (pubB σ p j c).1 f i = σ.1 f i := by
  show (if f < 5 ∧ i = sNp σ + 1 then _ else if f = 453 ∧ i = 0 then _ else σ.1 f i) = _
  rw [if_neg h1, if_neg (fun h => h2 h.1)]
theorem pubB_e (σ : Sg) (p j c : Nat) : (pubB σ p j c).1 0 (sNp σ + 1) = nI p ∧ (pubB σ p j c).1 1 (sNp σ + 1) = σ.1 385 p ∧ (pubB σ p j c).1 2 (sNp σ + 1) = σ.1 128 (8 * p + j) ∧ (pubB σ p j c).1 3 (sNp σ + 1) = σ.1 129 (8 * p + j) ∧ (pubB σ p j c).1 4 (sNp σ + 1) = σ.1 130 (8 * p + j) := by
  refine ⟨?_, ?_, ?_, ?_, ?_⟩ <;> simp [pubB, pubA, eNw, uP, uL, up, sNp]
theorem mPb_f (τ : Tu) (p j e k i : Nat) (h1 : k ≠ 4) (h2 : k ≠ 31) (h3 : ¬ ((32 ≤ k ∧ k ≤ 37) ∧ i = e)) : mPb τ p j e k i = τ k i := by
  unfold mPb
  simp only [ut]
  repeat rw [if_neg (by omega)]
set_option maxHeartbeats 2000000 in
theorem J.pubF (hJ : J m σ τ) (hp : p < m) (h2 : σ.1 325 p = 2) {j c : Nat} (hj8 : j < 8) (hc : σ.1 129 (8 * p + j) = nI c) (hc8 : c < 8) {EL : List Nat} (hE : JEl m σ τ EL)
    (s1 : ∀ f i, ¬ (i = p ∧ (f = 325 ∨ f = 329 ∨ f = 330)) → σ'.1 f i = (pubB σ p j c).1 f i) (s2 : ∀ k i, ¬ (i = p ∧ (k = 7 ∨ k = 18 ∨ k = 19)) → τ' k i = mPb τ p j EL.length k i) (s3 : σ'.2 = (pubB σ p j c).2) {x : Nat} (hx : x = 2 ∨ x = 3) (ex : σ'.1 325 p = nI x ∧ τ' 7 p = nI x) (hat : ∀ g, σ.1 326 p = nI g → g ≤ 8 → ∃ i, i < g ∧ σ'.1 329 p = nI i ∧ τ' 18 p = nI i ∧ ¬ σ.1 131 (8 * p + i) = 0 ∧ (x = 2 → (sPb σ p).length + 1 ≤ i)) (h19 : x = 3 → τ' 19 p = σ'.1 330 p) (hl8 : (sPb σ p).length + 1 ≤ 8) : J m σ' τ' := by
  have hm := hJ.1
  have hnp := hJ.np
  have hlen := hJ.en hE
  have hlw := hJ.lw hp
  have hla := hJ.la hp
  have h01 := nb_of (c := 2) h2 (by omega)
  have f1 : ∀ f i, ¬ (i = p ∧ (f = 325 ∨ f = 329 ∨ f = 330)) → ¬ (f < 5 ∧ i = sNp σ + 1) → f ≠ 453 → σ'.1 f i = σ.1 f i := fun f i a b c => by rw [s1 f i a, pubB_f _ _ _ _ _ _ b c]
  have f2 : ∀ k i, ¬ (i = p ∧ (k = 7 ∨ k = 18 ∨ k = 19)) → k ≠ 4 → k ≠ 31 → ¬ ((32 ≤ k ∧ k ≤ 37) ∧ i = EL.length) → τ' k i = τ k i := fun k i a b c d => by rw [s2 k i a, mPb_f _ _ _ _ _ _ b c d]
  have eM : ∀ r, sMet σ' r = sMet σ r := fun r => by show σ'.2.1 r = _; rw [s3]; rfl
  have eP : ∀ r, sPb σ' r = if r = p then sPb σ p ++ [sNp σ + 1] else sPb σ r := fun r => by show σ'.2.2.2.1 r = _; rw [s3]; rfl
  have eL : ∀ r, sLs σ' r = if r = c then sLs σ c ++ [sNp σ + 1] else sLs σ r := fun r => by show σ'.2.2.1 r = _; rw [s3]; rfl
  have eN : sNp σ' = sNp σ + 1 := by show σ'.2.2.2.2 = _; rw [s3]; rfl
  obtain ⟨n0, n1, n2, n3, n4⟩ := pubB_e σ p j c
  have en : ∀ f, f < 5 → σ'.1 f (sNp σ + 1) = (pubB σ p j c).1 f (sNp σ + 1) := fun f hf => s1 f _ (by omega)
  have w1 : ∀ r, (σ'.1 384 r = σ.1 384 r ∧ σ'.1 386 r = σ.1 386 r ∧ σ'.1 337 r = σ.1 337 r ∧ σ'.1 338 r = σ.1 338 r) ∧ τ' 15 r = τ 15 r ∧ τ' 17 r = τ 17 r ∧ τ' 39 (bc σ r) = τ 39 (bc σ r) ∧ τ' 40 (bc σ r) = τ 40 (bc σ r) := fun r => ⟨⟨f1 _ _ (by omega) (by omega) (by omega), f1 _ _ (by omega) (by omega) (by omega), f1 _ _ (by omega) (by omega) (by omega), f1 _ _ (by omega) (by omega) (by omega)⟩, f2 _ _ (by omega) (by omega) (by omega) (by omega), f2 _ _ (by omega) (by omega) (by omega) (by omega), f2 _ _ (by omega) (by omega) (by omega) (by omega), f2 _ _ (by omega) (by omega) (by omega) (by omega)⟩
  have nx : ∀ a : Nat, a ≤ 12 → σ'.1 325 p = nI a → x = a := fun a ha h => phx ex.1 (by omega) ha h
  obtain ⟨-, jG, jB, jU, jT, jN, jE, jL⟩ := hJ
  have hJ0 : J m σ τ := ⟨hm, jG, jB, jU, jT, jN, jE, jL⟩
  refine hJ0.step2 hp (fun _ => False) ?_ ?_ (fun i hi => ?_) (fun r hr => ?_) ⟨fun n g1 g2 => ?_, ?_⟩ ⟨EL ++ [sNp σ + 1], ?_⟩ (fun r _ i _ => f1 _ _ (by omega) (by omega) (by omega)) (fun f n hf hn => f1 _ _ (by omega) (by omega) (by omega)) (by omega) (fun r hr => by rw [eP, if_neg hr]) (fun r _ => eM r) (fun r f hr _ _ => f1 _ _ (by omega) (by omega) (by omega)) (fun r _ => f1 _ _ (by omega) (by omega) (by omega)) (Or.inr (f1 _ _ (by omega) (by omega) (by omega))) (fun r k hr hk => f2 _ _ (by omega) (by omega) (by omega) (by omega)) (fun r _ _ => w1 r) (fun t ht => ht.elim) ?_ ?_ ?_
  · obtain ⟨g0, g1, g2, g3, g4, g5, g6, g7, g8⟩ := jG
    refine ⟨?_, ?_, ?_, ?_, ?_, ?_, ?_, ?_, ?_⟩
    · rw [f2 0 0 (by omega) (by omega) (by omega) (by omega)]; exact g0
    · rw [f2 1 0 (by omega) (by omega) (by omega) (by omega), f1 451 0 (by omega) (by omega) (by omega)]; exact g1
    · rw [f2 2 0 (by omega) (by omega) (by omega) (by omega), f1 452 0 (by omega) (by omega) (by omega)]; exact g2
    · rw [f2 3 0 (by omega) (by omega) (by omega) (by omega), f1 257 0 (by omega) (by omega) (by omega)]; exact g3
    · rw [s2 4 0 (by omega), s1 453 0 (by omega)]
      show τ 4 0 + 1 = σ.1 453 0 + 1
      rw [g4]
    · rw [f2 5 0 (by omega) (by omega) (by omega) (by omega), f1 454 0 (by omega) (by omega) (by omega)]; exact g5
    · rw [f2 6 0 (by omega) (by omega) (by omega) (by omega), f1 455 0 (by omega) (by omega) (by omega)]; exact g6
    · rw [f1 456 0 (by omega) (by omega) (by omega)]; exact g7
    · rw [s1 453 0 (by omega), eN]
      show σ.1 453 0 + 1 = nI (sNp σ + 1)
      rw [g8]; exact inc1 _
  · obtain ⟨b1, b2, b3, b4⟩ := jB
    refine ⟨fun i hi => ?_, fun k hk => ?_, ?_, fun r hr y h1 h2 => ?_⟩
    · rw [f2 38 i (by omega) (by omega) (by omega) (by omega), f1 900 i (by omega) (by omega) (by omega)]; exact b1 i hi
    · unfold dB
      rw [f2 39 k (by omega) (by omega) (by omega) (by omega), f2 40 k (by omega) (by omega) (by omega) (by omega)]; exact b2 k hk
    · have : uV σ' = uV σ := by funext r; unfold uV; rw [f1 385 r (by omega) (by omega) (by omega), (w1 r).1.2.2.1]
      rw [f1 257 0 (by omega) (by omega) (by omega), this]; exact b3
    · rw [f1 385 r (by omega) (by omega) (by omega)] at h1
      rw [f2 39 _ (by omega) (by omega) (by omega) (by omega), f2 40 _ (by omega) (by omega) (by omega) (by omega)]
      exact b4 r hr y h1 h2
  · rw [f1 128 i (by omega) (by omega) (by omega), f1 129 i (by omega) (by omega) (by omega), f1 130 i (by omega) (by omega) (by omega), f1 131 i (by omega) (by omega) (by omega), f2 9 i (by omega) (by omega) (by omega) (by omega), f2 10 i (by omega) (by omega) (by omega) (by omega), f2 11 i (by omega) (by omega) (by omega) (by omega), f2 12 i (by omega) (by omega) (by omega) (by omega)]
    exact jU i hi
  · rw [f2 26 r (by omega) (by omega) (by omega) (by omega), f2 27 r (by omega) (by omega) (by omega) (by omega), f2 28 r (by omega) (by omega) (by omega) (by omega), f2 29 r (by omega) (by omega) (by omega) (by omega), f2 30 r (by omega) (by omega) (by omega) (by omega), f1 192 r (by omega) (by omega) (by omega), f1 193 r (by omega) (by omega) (by omega), f1 194 r (by omega) (by omega) (by omega), f1 195 r (by omega) (by omega) (by omega), f1 196 r (by omega) (by omega) (by omega)]
    exact jT r hr
  · by_cases hn : n = sNp σ + 1
    · subst hn
      rw [en 0 (by omega), en 3 (by omega), en 1 (by omega), n0, n3, n1]
      obtain ⟨ph, g, w, v, a1, a2, a3, a4, a5, -⟩ := hla
      exact ⟨⟨p, hp, rfl⟩, ⟨c, hc8, hc⟩, ⟨v, a5.2.2, a5.1⟩⟩
    · rw [f1 0 n (by omega) (by omega) (by omega), f1 3 n (by omega) (by omega) (by omega), f1 1 n (by omega) (by omega) (by omega)]
      exact jN.1 n g1 (by omega)
  · rw [eN]
    refine Nat.le_trans (Nat.succ_le_succ jN.2) (sm_lt hp (fun i _ => ?_) ?_)
    · unfold uN
      rw [f1 385 i (by omega) (by omega) (by omega), eP]
      split
      · rename_i h; subst h; rw [List.length_append]; omega
      · exact Nat.le_refl _
    · unfold uN
      rw [f1 385 p (by omega) (by omega) (by omega), eP, if_pos rfl, List.length_append, List.length_singleton]
      omega
  · obtain ⟨e1, e2, e3, e4, e5, e6⟩ := hE
    refine ⟨?_, fun n hn => ?_, ?_, fun k n hk => ?_, fun c0 hc0 => ?_, fun r hr => ?_⟩
    · rw [List.pairwise_append]
      refine ⟨e1, List.pairwise_singleton _ _, fun a ha b hb => ?_⟩
      rw [List.mem_singleton] at hb
      have := e2 a ha
      omega
    · rw [eN]
      rcases List.mem_append.mp hn with h | h
      · have := e2 n h; omega
      · rw [List.mem_singleton] at h; omega
    · rw [s2 31 0 (by omega), List.length_append, List.length_singleton]
      show τ 31 0 + 1 = _
      rw [e3]; exact inc1 _
    · by_cases hkl : k < EL.length
      · rw [List.getElem?_append_left hkl] at hk
        have hn := e2 n (List.mem_of_getElem? hk)
        rw [f2 32 k (by omega) (by omega) (by omega) (by omega), f2 33 k (by omega) (by omega) (by omega) (by omega), f2 34 k (by omega) (by omega) (by omega) (by omega), f2 35 k (by omega) (by omega) (by omega) (by omega), f2 36 k (by omega) (by omega) (by omega) (by omega), f2 37 k (by omega) (by omega) (by omega) (by omega), f1 0 n (by omega) (by omega) (by omega), f1 1 n (by omega) (by omega) (by omega), f1 2 n (by omega) (by omega) (by omega), f1 3 n (by omega) (by omega) (by omega), f1 4 n (by omega) (by omega) (by omega)]
        exact e4 k n hk
      · rw [List.getElem?_append_right (by omega)] at hk
        have hk0 : k = EL.length := by
          have := (List.getElem?_eq_some_iff.mp hk).1
          rw [List.length_singleton] at this
          omega
        subst hk0
        rw [Nat.sub_self] at hk
        obtain rfl : sNp σ + 1 = n := by simpa using hk
        have eg := jU (8 * p + j) (by omega)
        obtain ⟨ph, g, w, v, a1, a2, a3, a4, a5, -⟩ := hla
        rw [en 0 (by omega), en 1 (by omega), en 2 (by omega), en 3 (by omega), en 4 (by omega), n0, n1, n2, n3, n4, s2 32 _ (by omega), s2 33 _ (by omega), s2 34 _ (by omega), s2 35 _ (by omega), s2 36 _ (by omega), s2 37 _ (by omega)]
        refine ⟨by simp [mPb, ut], by simp [mPb, ut, a5.1, a5.2.1], by simp [mPb, ut, eg.1], by simp [mPb, ut, eg.2.2.1], ?_, by simp [mPb, ut, eg.2.1]⟩
        have : mPb τ p j EL.length 36 EL.length = τ 4 0 + 1 := by simp [mPb, ut]
        rw [this, jG.2.2.2.2.1, jG.2.2.2.2.2.2.2.2]
        exact inc1 _
    · rw [eL, List.filter_append]
      have q : EL.filter (fun n => decide (σ'.1 3 n = nI c0)) = EL.filter (fun n => decide (σ.1 3 n = nI c0)) := List.filter_congr (fun n hn => by
        have := e2 n hn
        rw [f1 3 n (by omega) (by omega) (by omega)])
      rw [q]
      have e33 : σ'.1 3 (sNp σ + 1) = nI c := by rw [en 3 (by omega), n3, hc]
      by_cases hcc : c0 = c
      · subst hcc
        rw [if_pos rfl, e5 c0 hc0]
        congr 1
        simp [e33]
      · rw [if_neg hcc, e5 c0 hc0]
        have : ¬ nI c = nI c0 := fun h => hcc (nI_inj (by omega) (by omega) h).symm
        simp [e33, this]
    · rw [eP, List.filter_append, f1 336 r (by omega) (by omega) (by omega)]
      have q : EL.filter (fun n => decide (σ'.1 0 n = nI r)) = EL.filter (fun n => decide (σ.1 0 n = nI r)) := List.filter_congr (fun n hn => by
        have := e2 n hn
        rw [f1 0 n (by omega) (by omega) (by omega)])
      rw [q]
      have e00 : σ'.1 0 (sNp σ + 1) = nI p := by rw [en 0 (by omega), n0]
      by_cases hrp : r = p
      · subst hrp
        rw [if_pos rfl]
        obtain ⟨ph, g, w, v, a1, a2, a3, a4, a5, -⟩ := hla
        have hw : cN (σ.1 336 r) ≤ (sPb σ r).length := by rw [a4.1, cN_nI (by omega)]; exact a4.2.1
        rw [List.drop_append_of_le_length hw, e6 r hr]
        congr 1
        simp [e00]
      · rw [if_neg hrp, e6 r hr]
        have : ¬ nI p = nI r := fun h => hrp (nI_inj (by omega) (by omega) h).symm
        simp [e00, this]
  · obtain ⟨ph, g, w, v, a1, a2, a3, a4, a5, a6, a7, a8, a9, a10, a11, a12, a13, a14, a15⟩ := hla
    have hcp : 2 = ph := phx (a := 2) h2 (by omega) a1.2.2 a1.1
    obtain ⟨i, b1, b2, b3, b4, b5⟩ := hat g a2.1 a2.2.2
    have eLp : (sPb σ' p).length = (sPb σ p).length + 1 := by rw [eP, if_pos rfl, List.length_append, List.length_singleton]
    refine ⟨x, g, w, v, ⟨ex.1, ex.2, by omega⟩, ?_, ?_, ?_, ?_, Or.inr ⟨i, by omega, b3⟩, fun _ => ?_, fun _ => ⟨i, b1, b2, b3, ?_, ?_⟩, fun h => h19 (by omega), fun _ => ?_, by omega, by omega, by omega, by omega, by omega⟩
    · rw [f1 326 p (by omega) (by omega) (by omega), f2 8 p (by omega) (by omega) (by omega) (by omega)]; exact a2
    · rw [f1 327 p (by omega) (by omega) (by omega), f2 13 p (by omega) (by omega) (by omega) (by omega)]; exact a3
    · rw [f1 336 p (by omega) (by omega) (by omega), eLp]
      exact ⟨a4.1, by omega, hl8⟩
    · rw [f1 385 p (by omega) (by omega) (by omega), f2 16 p (by omega) (by omega) (by omega) (by omega)]; exact a5
    · rw [f1 328 p (by omega) (by omega) (by omega), f2 14 p (by omega) (by omega) (by omega) (by omega)]; exact a7 (by omega)
    · rw [f1 131 _ (by omega) (by omega) (by omega)]; exact b4
    · rw [eLp]; exact b5
    · rw [f1 332 p (by omega) (by omega) (by omega), f2 20 p (by omega) (by omega) (by omega) (by omega)]; exact a10 (by omega)
  · refine hlw.ph h01 ?_ ?_ ?_ (f1 _ _ (by omega) (by omega) (by omega)) (f1 _ _ (by omega) (by omega) (by omega)) (w1 p) (f2 _ _ (by omega) (by omega) (by omega) (by omega))
    · rintro (h | h)
      · have := nx 0 (by omega) h; omega
      · have := nx 1 (by omega) h; omega
    · rintro (h | h)
      · have := nx 11 (by omega) h; omega
      · have := nx 12 (by omega) h; omega
    · intro h
      have := nx 6 (by omega) h
      omega
  · refine ⟨fun h => ?_, fun h => ?_, fun h => ?_⟩
    · rcases h with h | h
      · have := nx 5 (by omega) h; omega
      · have := nx 6 (by omega) h; omega
    · have := nx 7 (by omega) h
      omega
    · have := nx 8 (by omega) h
      omega
/-- PUBLISH -/
theorem J.pubX (hJ : J m σ τ) (hp : p < m) (h2 : σ.1 325 p = 2) {j c g : Nat} (hg : σ.1 326 p = nI g) (hg8 : g ≤ 8) (hj : σ.1 329 p = nI j) (hjg : j < g) (hon : ¬ σ.1 131 (8 * p + j) = 0) (hlj : (sPb σ p).length ≤ j) (hc : σ.1 129 (8 * p + j) = nI c) (hc8 : c < 8) : J m (pubS σ p j c) (mPub τ p j) := by
  obtain ⟨EL, hE⟩ := hJ.2.2.2.2.2.2.1
  have hen := hJ.elen hE
  have h7 : τ 7 p = 2 := by
    obtain ⟨ph, g, w, v, a1, -⟩ := hJ.la hp
    rw [a1.2.1, ← a1.1, h2]
  unfold pubS mPub mPubF
  rw [hen, hj, cN_nI (by omega), show nxt (pubB σ p j c) p (j + 1) = nxt σ p (j + 1) from rfl, show mNx (mPb τ p j EL.length) p (j + 1) = mNx τ p (j + 1) from rfl, show mNx (mPb τ p j EL.length) p 0 = mNx τ p 0 from rfl, hJ.nx hp, hJ.nx hp]
  rcases hn : nxt σ p (j + 1) with _ | i
  · show J m (lkFF (pubB σ p j c) p) (mLk (ut (mPb τ p j EL.length) 18 p (-1)) p (nxt σ p 0))
    unfold lkFF
    rw [show nxt (pubB σ p j c) p 0 = nxt σ p 0 from rfl]
    rcases hn0 : nxt σ p 0 with _ | i0
    · exact absurd (fOn_none hn0 j (by omega) (by rw [hg, cN_nI (by omega)]; omega)) hon
    · have hb := fOn_some hn0
      rw [hg, cN_nI (by omega)] at hb
      refine hJ.pubF hp h2 (j := j) (c := c) (by omega) hc hc8 hE (fun f i h => ?_) (fun k i h => ?_) rfl (x := 3) (by omega) ⟨by simp [lkAt, up]; rfl, by simp [mLk, ut]; rfl⟩ (fun g' hg' hg8' => ⟨i0, ?_, by simp [lkAt, up], by simp [mLk, ut, oI], hb.2.2, by omega⟩) (fun _ => by simp [lkAt, mLk, up, ut]) (by omega)
      · show (up (up (up (pubB σ p j c) 329 p (nI i0)) 330 p 0) 325 p 3).1 f i = _
        rw [show (up (up (up (pubB σ p j c) 329 p (nI i0)) 330 p 0) 325 p 3).1 f i = if f = 325 ∧ i = p then 3 else if f = 330 ∧ i = p then 0 else if f = 329 ∧ i = p then nI i0 else (pubB σ p j c).1 f i from rfl, if_neg (by omega), if_neg (by omega), if_neg (by omega)]
      · simp only [mLk, ut]
        rw [if_neg (by omega), if_neg (by omega), if_neg (by omega), if_neg (by omega)]
      · have : g' = g := nI_inj (by omega) (by omega) (hg'.symm.trans hg)
        omega
  · have hb := fOn_some hn
    rw [hg, cN_nI (by omega)] at hb
    show J m (up (pubB σ p j c) 329 p (nI i)) (ut (mPb τ p j EL.length) 18 p (nI i))
    refine hJ.pubF hp h2 (j := j) (c := c) (by omega) hc hc8 hE (fun f i' h => ?_) (fun k i' h => ?_) rfl (x := 2) (by omega) ⟨h2, h7⟩ (fun g' hg' hg8' => ⟨i, ?_, by simp [up], by simp [ut], hb.2.2, by omega⟩) (by omega) (by omega)
    · rw [show (up (pubB σ p j c) 329 p (nI i)).1 f i' = if f = 329 ∧ i' = p then nI i else (pubB σ p j c).1 f i' from rfl, if_neg (by omega)]
    · simp only [ut]
      rw [if_neg (by omega)]
    · have : g' = g := nI_inj (by omega) (by omega) (hg'.symm.trans hg)
      omega
end ENTRIES

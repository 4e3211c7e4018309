section STEP2
variable {m : Nat} {σ : Sg} {τ : Tu} {σ' : Sg} {τ' : Tu} {p : Nat}
/-- p goes a step that may change entries, lists, its guards, its version -/
theorem J.step2 (hJ : J m σ τ) (hp : p < m) (T : Nat → Prop) (hG : JG m σ' τ') (hB : JB m σ' τ') (hU : JU m σ' τ') (hT : JT m σ' τ') (hN : JN m σ') (hE : JE m σ' τ')
    (hU3 : ∀ r, r ≠ p → ∀ j, j < 8 → σ'.1 131 (8 * r + j) = σ.1 131 (8 * r + j)) (hEn : ∀ f n, f < 5 → n ≤ sNp σ → σ'.1 f n = σ.1 f n) (hnp : sNp σ ≤ sNp σ') (hPb : ∀ r, r ≠ p → sPb σ' r = sPb σ r) (hM : ∀ r, r ≠ p → sMet σ' r = sMet σ r)
    (hO : ∀ r f, r ≠ p → 325 ≤ f → f ≤ 336 → σ'.1 f r = σ.1 f r) (hV : ∀ r, r ≠ p → σ'.1 385 r = σ.1 385 r) (hVp : T p ∨ σ'.1 385 p = σ.1 385 p) (hO2 : ∀ r k, r ≠ p → (k = 7 ∨ k = 8 ∨ k = 13 ∨ k = 14 ∨ k = 16 ∨ (18 ≤ k ∧ k ≤ 25)) → τ' k r = τ k r)
    (hW : ∀ r, r < m → ¬ T r → (σ'.1 384 r = σ.1 384 r ∧ σ'.1 386 r = σ.1 386 r ∧ σ'.1 337 r = σ.1 337 r ∧ σ'.1 338 r = σ.1 338 r) ∧ τ' 15 r = τ 15 r ∧ τ' 17 r = τ 17 r ∧ τ' 39 (bc σ r) = τ 39 (bc σ r) ∧ τ' 40 (bc σ r) = τ 40 (bc σ r))
    (hC : ∀ t, T t → t = p ∧ ¬ σ.1 384 t = 2) (ha : JLa m σ' τ' p) (hw : JLw m σ' τ' p) (hx : JX m σ' τ' p) : J m σ' τ' := by
  obtain ⟨hm, jG, jB, jU, jT, jN, jE, jL⟩ := hJ
  refine ⟨hm, hG, hB, hU, hT, hN, hE, fun r hr => ?_⟩
  by_cases hrp : r = p
  · subst hrp; exact ⟨ha, hw, hx⟩
  · obtain ⟨l1, l2, l3⟩ := jL r hr
    have q325 := hO r 325 hrp (by omega) (by omega)
    have hTr : ¬ T r := fun h => hrp (hC r h).1
    refine ⟨?_, ?_, ?_⟩
    · exact l1.keep (fun f h1 h2 _ => hO r f hrp h1 h2) (hV r hrp) (hM r hrp) (hPb r hrp) (hU3 r hrp) hEn hnp (fun k hk => hO2 r k hrp (by omega))
    · exact l2.keep ⟨q325, hO r 333 hrp (by omega) (by omega), hO r 334 hrp (by omega) (by omega), hV r hrp⟩ (hW r hr hTr) (hO2 r 25 hrp (by omega))
    · refine l3.keep (m := m) (P := T) (s0 := p) hr hm.2 hrp (by omega) q325 (hM r hrp) (fun h5 n hn => ?_) (fun r' _ h => ?_) (fun r h1 h2 => ⟨(hW r h1 h2).1, (hW r h1 h2).2.2.2⟩) (fun t ht h2 => absurd h2 (hC t ht).2) (Or.inr (hV r hrp))
      · obtain ⟨ph, g, w, v, a1, a2, a3, a4, a5, a6, a7, a8, a9, a10, a11, a12, -⟩ := l1
        have : 4 ≤ ph ∧ ph ≤ 8 := by
          rcases h5 with h | h | h
          · have := phx a1.1 a1.2.2 (b := 5) (by omega) h; omega
          · have := phx a1.1 a1.2.2 (b := 6) (by omega) h; omega
          · have := phx a1.1 a1.2.2 (b := 7) (by omega) h; omega
        obtain ⟨n', q, c1, c2, c3, -⟩ := a12 this
        rw [hn] at c1
        cases c1
        exact ⟨hEn 0 n (by omega) c3, hEn 1 n (by omega) c3⟩
      · by_cases hr' : r' = p
        · subst hr'
          rcases hVp with h' | h'
          · exact absurd h' h
          · exact h'
        · exact hV r' hr'
theorem own_of (hp : p < m) {EL : List Nat} (hE : JEl m σ τ EL) (hl : EL.length ≤ 128) : (fE σ p = none → mOwn τ p = none) ∧ (∀ n, fE σ p = some n → ∃ k, EL[k]? = some n ∧ mOwn τ p = some k) := by
  have hme : mEn τ = EL.length := by unfold mEn; rw [hE.2.2.1, cN_nI (by omega)]
  obtain ⟨e1, e2, e3, e4, e5, e6⟩ := hE
  have h := fBy_find (Q := fun n => decide (σ.1 0 n = nI p)) EL (fun k => decide (τ 32 k = nI p)) 0 (fun k n hk => by
    rw [Nat.zero_add, (e4 k n hk).1])
  have e : fE σ p = EL.find? (fun n => decide (σ.1 0 n = nI p)) := by
    unfold fE
    have := e6 p hp
    rw [← List.head?_filter, ← this, List.head?_drop]
  unfold mOwn
  rw [hme, e]
  refine ⟨h.1, fun n hn => ?_⟩
  obtain ⟨k, k1, k2⟩ := h.2 n hn
  exact ⟨k, k1, by rw [k2, Nat.zero_add]⟩
theorem up_id (σ : Sg) (f i : Nat) (v : Int32) (h : σ.1 f i = v) : up σ f i v = σ := by
  unfold up
  refine Prod.ext ?_ rfl
  funext g j
  show (if g = f ∧ j = i then v else σ.1 g j) = σ.1 g j
  split
  · rename_i q
    rw [q.1, q.2, h]
  · rfl
/-- the time is out -/
theorem J.dueX (hJ : J m σ τ) (hp : p < m) {c : Nat} (hc : 2 ≤ c ∧ c ≤ 12) (hph : σ.1 325 p = nI c) : J m (rOut σ p) (mEnds τ p) := by
  have e15 := hJ.w15 hp
  unfold rOut mEnds
  rw [e15]
  by_cases h1 : σ.1 384 p = 1
  · rw [if_pos h1, if_pos h1]
    have ho := hJ.outG hp h1 1 3 (by decide)
    have e325 : (putO σ p 3).1 325 p = σ.1 325 p := putO_f σ p 325 p 3 (by omega) (by omega) (by omega) (by omega) (by omega) (by omega)
    have z1 := (hJ.lw hp).2.2.2.2.2.2.2.2 h1
    exact ho.wd hp (by rw [e325]; exact nb_of hph hc) (Or.inr (by rw [putO_eq z1.1]; simp [up]))
  · rw [if_neg h1, if_neg h1]
    by_cases h3 : σ.1 384 p = 3
    · rw [if_pos h3, if_pos h3]
      exact hJ.wd hp (nb_of hph hc) (Or.inl h3)
    · rw [if_neg h3, if_neg h3]
      exact hJ
/-- END -/
theorem J.endX (hJ : J m σ τ) (hp : p < m) (h9 : σ.1 325 p = 9) : J m (endL σ p) (mRst τ p) := by
  have e15 := hJ.w15 hp
  obtain ⟨ph, g, w, v, a1, a2, a3, a4, a5, a6, a7, a8, a9, a10, -⟩ := hJ.la hp
  have hcp : 9 = ph := phx (a := 9) h9 (by omega) a1.2.2 a1.1
  have e20 := a10 (by omega)
  have e7 : τ 7 p = 9 := by rw [a1.2.1, ← hcp]; rfl
  have enx := hJ.nx hp 0
  unfold endL mRst mEd stl
  rw [e15, e7, e20, enx, if_neg (show ¬ (9 : Int32) = 11 by decide)]
  by_cases hs : σ.1 384 p = 3 ∨ σ.1 384 p = 4
  · rw [if_pos hs, if_pos hs]
    exact hJ.wd hp (nb_of (c := 9) h9 (by omega)) hs
  · rw [if_neg hs, if_neg hs]
    by_cases hb : σ.1 332 p = 0
    · rw [if_pos hb, if_neg (fun h => h.1.2 hb)]
      exact hJ.sleep hp (c := 9) (by omega) h9 hb
    · rw [if_neg hb]
      have hB := hJ.busy hp (c := 9) (by omega) h9 0
      unfold lkFF
      rw [show nxt (up σ 332 p 0) p 0 = nxt σ p 0 from rfl]
      rcases hn : nxt σ p 0 with _ | j
      · rw [if_neg (fun h => h.2 rfl)]
        have := hB.sleep hp (c := 9) (by omega) h9 (by simp [up])
        rwa [ut_ut] at this
      · rw [if_pos ⟨⟨rfl, hb⟩, fun h => by cases h⟩]
        exact hB.lookAt hp (c := 9) (by omega) h9 (j0 := 0) hn
/-- ASLEEP -/
theorem J.wakeX (hJ : J m σ τ) (hp : p < m) (h10 : σ.1 325 p = 10) : J m (wake σ p) (mRst τ p) := by
  have e15 := hJ.w15 hp
  obtain ⟨ph, g, w, v, a1, a2, a3, a4, a5, a6, a7, a8, a9, a10, a11, -⟩ := hJ.la hp
  have hcp : 10 = ph := phx (a := 10) h10 (by omega) a1.2.2 a1.1
  have e7 : τ 7 p = 10 := by rw [a1.2.1, ← hcp]; rfl
  unfold wake mRst mEd stl
  rw [e15, e7, if_neg (show ¬ (10 : Int32) = 11 by decide)]
  by_cases hs : σ.1 384 p = 3 ∨ σ.1 384 p = 4
  · rw [if_pos hs, if_pos hs]
    exact hJ.wd hp (nb_of (c := 10) h10 (by omega)) hs
  · rw [if_neg hs, if_neg hs, if_neg (fun h => absurd h.1.1 (by decide))]
    have := hJ.sleep hp (c := 10) (by omega) h10 (a11 hcp.symm)
    rwa [up_id _ _ _ _ h10] at this
theorem find_filter (P Q : Nat → Bool) : ∀ l : List Nat, (l.filter P).find? Q = l.find? (fun n => P n && Q n) := by
  intro l
  induction l with
  | nil => rfl
  | cons x l ih =>
    rw [List.filter_cons, List.find?_cons]
    cases hP : P x with
    | true =>
      rw [if_pos rfl, List.find?_cons]
      cases hQ : Q x with
      | true => rfl
      | false => simpa using ih
    | false => simpa using ih
set_option maxHeartbeats 1000000 in
/-- LOOK -/
theorem J.lookX (hJ : J m σ τ) (hp : p < m) (h3 : σ.1 325 p = 3) {j c : Nat} (hj : σ.1 329 p = nI j) (hj8 : j < 8) (hc : σ.1 129 (8 * p + j) = nI c) (hc8 : c < 8) (e19 : τ 19 p = σ.1 330 p) : J m (lkS σ p j c) (mLoo τ p j) := by
  have hm := hJ.1
  obtain ⟨EL, hE⟩ := hJ.2.2.2.2.2.2.1
  have hen := hJ.elen hE
  have hnp := hJ.np
  have jN := hJ.2.2.2.2.2.1.1
  have eg := hJ.2.2.2.1 (8 * p + j) (by omega)
  obtain ⟨e1, e2, e3, e4, e5, e6⟩ := hE
  have hf := fBy_find (Q := fun n => decide (σ.1 3 n = nI c) && decide (σ.1 330 p < nI n)) EL (mLooP τ p j) 0 (fun k n hk => by
    obtain ⟨r1, r2, r3, r4, r5, r6⟩ := e4 k n hk
    unfold mLooP
    rw [Nat.zero_add, r6, r5, eg.2.1, hc, e19])
  unfold lkS mLoo
  rw [e5 c hc8, find_filter, hen]
  rcases hfd : EL.find? (fun n => decide (σ.1 3 n = nI c) && decide (σ.1 330 p < nI n)) with _ | n
  · rw [hf.1 hfd]
    show J m (lkNx σ p) (mLk τ p (mNx τ p (j + 1)))
    rw [hJ.nx hp]
    unfold lkNx
    rw [hj, cN_nI (by omega)]
    rcases hn : nxt σ p (j + 1) with _ | i
    · exact hJ.lookEnd hp (c := 3) rfl h3
    · exact hJ.lookAt hp (c := 3) (by omega) h3 hn
  · obtain ⟨k, k1, k2⟩ := hf.2 n hfd
    rw [k2, Nat.zero_add]
    show J m (if ¬ σ.1 0 n = nI p ∧ ¬ σ.1 2 n = σ.1 128 (8 * p + j) then up (uM (up σ 330 p (nI n)) p (some n)) 325 p 4 else up σ 330 p (nI n)) (if τ 32 k = nI p ∨ τ 34 k = τ 9 (8 * p + j) then ut τ 19 p (τ 36 k) else ut (ut (ut (ut (ut τ 19 p (τ 36 k)) 21 p (τ 32 k)) 22 p (τ 33 k)) 23 p (τ 35 k)) 7 p 4)
    obtain ⟨r1, r2, r3, r4, r5, r6⟩ := e4 k n k1
    have hn := e2 n (List.mem_of_getElem? k1)
    obtain ⟨⟨q, q1, q2⟩, -⟩ := jN n hn.1 hn.2
    rw [r1, r2, r3, r4, r5, eg.1]
    by_cases hs : ¬ σ.1 0 n = nI p ∧ ¬ σ.1 2 n = σ.1 128 (8 * p + j)
    · rw [if_pos hs, if_neg (fun h => h.elim hs.1 hs.2), q2]
      exact hJ.metE hp h3 hn q2 q1 (fun h => hs.1 (by rw [q2, h]))
    · rw [if_neg hs, if_pos (by
        by_cases h0 : σ.1 0 n = nI p
        · exact Or.inl h0
        · by_cases h1 : σ.1 2 n = σ.1 128 (8 * p + j)
          · exact Or.inr h1
          · exact absurd ⟨h0, h1⟩ hs)]
      exact hJ.seen hp h3 (nI n)
end STEP2

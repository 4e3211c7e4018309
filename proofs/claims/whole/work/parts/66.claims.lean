section CLAIMS
variable {m : Nat} {σ : Sg} {τ : Tu} {p : Nat}
theorem up_cong {A B : Sg} {f i g j : Nat} {v : Int32} (h : A.1 g j = B.1 g j) : (up A f i v).1 g j = (up B f i v).1 g j := by
  show (if g = f ∧ j = i then v else A.1 g j) = if g = f ∧ j = i then v else B.1 g j
  rw [h]
theorem ut_cong {A B : Tu} {f i g j : Nat} {v : Int32} (h : A g j = B g j) : ut A f i v g j = ut B f i v g j := by
  show (if g = f ∧ j = i then v else A g j) = if g = f ∧ j = i then v else B g j
  rw [h]
theorem addP_g (σ : Sg) (p n g f i : Nat) (s : Int32) (h : f ≠ 900) : (addP σ p n g s).1 f i = (up σ 257 0 (σ.1 257 0 + 1)).1 f i := by
  unfold addP
  split
  · exact up_cong (add8_f _ _ _ _ _ _ _ _ h)
  · rfl
theorem mRow_f (τ : Tu) (p q j z k i : Nat) (h : k ≠ 38) : mRow τ p q j z k i = τ k i := by simp [mRow, ut, h]
theorem vs_eq (hJ : J m σ τ) (hp : p < m) {t n : Nat} (h22 : τ 22 p = σ.1 1 n) : mVs τ p t = vs σ p t n := by
  obtain ⟨ph, g, w, v, a1, a2, a3, a4, a5, -⟩ := hJ.la hp
  unfold mVs vs
  rw [a5.1, a5.2.1, h22]
theorem J.w15 (hJ : J m σ τ) {t : Nat} (ht : t < m) : τ 15 t = σ.1 384 t := (hJ.lw ht).1
theorem J.w16 (hJ : J m σ τ) {t : Nat} (ht : t < m) : τ 16 t = σ.1 385 t := by
  obtain ⟨ph, g, w, v, a1, a2, a3, a4, a5, -⟩ := hJ.la ht
  rw [a5.1, a5.2.1]
/-- CLAIM -/
theorem J.clX (hJ : J m σ τ) (hp : p < m) (h4 : σ.1 325 p = 4) {n q : Nat} (hmet : sMet σ p = some n) (hq : σ.1 0 n = nI q) (hqm : q < m) (h22 : τ 22 p = σ.1 1 n) : J m (clL σ p q n) (mClm τ p q) := by
  have ht := loT_lt hp hqm
  have e15 := hJ.w15 ht
  have e16 := hJ.w16 ht
  have e15p := hJ.w15 hp
  have ev := vs_eq hJ hp (t := loT p q) h22
  unfold clL mClm
  have c1 : mTok τ (loT p q) (mVs τ p (loT p q)) ↔ tryOk σ p (loT p q) n := by
    unfold mTok tryOk
    rw [e15, e16, ev]
  by_cases hok : tryOk σ p (loT p q) n
  · rw [if_pos hok, if_pos (c1.mpr hok)]
    exact hJ.clY hp h4 hmet hq hqm hok
  · rw [if_neg hok, if_neg (fun h => hok (c1.mp h))]
    have hT := hJ.tryV
    have c2 : (loT p q = p ∧ mEd τ p) ↔ (loT p q = p ∧ stl σ p) := by
      unfold mEd stl
      rw [e15p]
    by_cases hs : loT p q = p ∧ stl σ p
    · rw [if_pos hs, if_pos (c2.mpr hs)]
      exact hT.wd hp (nb_of (c := 4) h4 (by omega)) hs.2
    · rw [if_neg hs, if_neg (fun h => hs (c2.mp h))]
      unfold nBs mBs
      have c3 : (mTryN τ 15 (loT p q) = 2 ∧ mTryN τ 16 (loT p q) = mVs τ p (loT p q)) ↔ ((tryN σ).1 384 (loT p q) = 2 ∧ (tryN σ).1 385 (loT p q) = vs (tryN σ) p (loT p q) n) := by
        show (τ 15 (loT p q) = 2 ∧ τ 16 (loT p q) = mVs τ p (loT p q)) ↔ (σ.1 384 (loT p q) = 2 ∧ σ.1 385 (loT p q) = vs σ p (loT p q) n)
        rw [e15, e16, ev]
      by_cases hb : (tryN σ).1 384 (loT p q) = 2 ∧ (tryN σ).1 385 (loT p q) = vs (tryN σ) p (loT p q) n
      · rw [if_pos hb, if_pos (c3.mpr hb)]
        exact (hT.busy hp (c := 4) (by omega) h4 1).back3 hp h4
      · rw [if_neg hb, if_neg (fun h => hb (c3.mp h))]
        exact hT.back3 hp h4
set_option maxHeartbeats 2000000 in
theorem J.secY (hJ : J m σ τ) (hp : p < m) (h5 : σ.1 325 p = 5) {n q j : Nat} (hmet : sMet σ p = some n) (hq : σ.1 0 n = nI q) (hqm : q < m) (hqp : q ≠ p) (hj : j < 8) (h22 : τ 22 p = σ.1 1 n) (h23 : τ 23 p = σ.1 4 n) (hok : tryOk σ p (hiT p q) n) : J m (up (recP (tryY σ p (hiT p q)) p q n (8 * p + j)) 325 p 7) (ut (mMt (mTryY (ut τ 24 p 0) p (hiT p q)) p q j) 7 p 7) := by
  have hm := hJ.1
  have h7 := hJ.sevn hp h5 hmet hq hqm hqp hok
  obtain ⟨n', q', y1, y2, y3, y4, y5, y6⟩ := (hJ.lx hp).1 (Or.inl h5)
  obtain rfl : n = n' := by rw [hmet] at y1; cases y1; rfl
  obtain rfl : q = q' := nI_inj (by omega) (by omega) (hq.symm.trans y2)
  have hdm := hiT_lt hp hqm
  have hZh := (hJ.lw hdm).2.2.2.2.2.2.2.2 hok.1
  have hZ : Z0 σ τ p ∧ Z0 σ τ q := by
    rcases lohi p q with ⟨e1, e2⟩ | ⟨e1, e2⟩
    · rw [e1] at y6; rw [e2] at hZh; exact ⟨y6, hZh⟩
    · rw [e1] at y6; rw [e2] at hZh; exact ⟨hZh, y6⟩
  have vq : σ.1 385 q = σ.1 1 n := by
    rcases lohi p q with ⟨e1, e2⟩ | ⟨e1, e2⟩
    · have := hok.2
      rw [e2] at this
      unfold vs at this
      rwa [if_neg hqp] at this
    · rw [e1] at y5
      unfold vs at y5
      rwa [if_neg hqp] at y5
  obtain ⟨d, ed⟩ : ∃ d, d = hiT p q := ⟨_, rfl⟩
  rw [← ed] at h7 hok hdm hZh ⊢
  clear ed
  have e16 := hJ.w16 hp
  have eg := hJ.2.2.2.1 (8 * p + j) (by omega)
  obtain ⟨z, z1, z2, -, z3⟩ := hJ.zb
  obtain ⟨vp, vp1, vp2, vp3, vp4⟩ := hJ.bcv p hp
  obtain ⟨wq, wq1, wq2, wq3, wq4⟩ := hJ.bcv q hqm
  have hne : bc σ p ≠ bc σ q := by omega
  -- the class's side
  have eA : pOf (pOf (addP (tryY σ p d) p n (8 * p + j) ((tryY σ p d).1 452 0)) p) q = up (up (addP (tryY σ p d) p n (8 * p + j) ((tryY σ p d).1 452 0)) 337 p 1) 337 q 1 := by
    rw [pOf_eq (p := p) (by rw [addP_g _ _ _ _ _ _ _ (by omega)]; exact hZ.1.1) (by rw [addP_g _ _ _ _ _ _ _ (by omega)]; exact hZ.1.2.1)]
    rw [pOf_eq (p := q)]
    · rw [up_ine _ _ _ _ hqp, addP_g _ _ _ _ _ _ _ (by omega)]; exact hZ.2.1
    · rw [up_ine _ _ _ _ hqp, addP_g _ _ _ _ _ _ _ (by omega)]; exact hZ.2.2.1
  unfold recP
  rw [eA]
  -- the model's side
  have eT : mTryY (ut τ 24 p 0) p d = ut (mTryY τ p d) 24 p 0 := by
    funext k i
    by_cases hk : k = 24
    · subst hk; simp [mTryY, ut]
    · simp [mTryY, ut, hk]
  have eB : mBk1 (mBk1 (ut (mTryY τ p d) 24 p 0) p (cN (τ 16 p))) q (cN (τ 22 p)) = ut (ut (ut (mTryY τ p d) 24 p 0) 39 (bc σ p) 1) 39 (bc σ q) 1 := by
    have i1 : 1001 * p + cN (τ 16 p) = bc σ p := by rw [vp4, vp2]
    have i2 : 1001 * q + cN (τ 22 p) = bc σ q := by rw [h22, ← vq, wq3, wq2]
    unfold mBk1
    rw [i1, i2]
    have v1 : (ut (mTryY τ p d) 24 p 0) 39 (bc σ p) = 0 := hZ.1.2.2.1
    have v2 : (ut (ut (mTryY τ p d) 24 p 0) 39 (bc σ p) 1) 39 (bc σ q) = 0 := by
      rw [ut_ine _ _ _ _ (Ne.symm hne)]; exact hZ.2.2.2.1
    rw [v1, show (0 : Int32) + 1 = 1 from rfl, v2, show (0 : Int32) + 1 = 1 from rfl]
  have eM : mMt (mTryY (ut τ 24 p 0) p d) p q j = if z < 200 then ut (mRow (ut (ut (ut (mTryY τ p d) 24 p 0) 39 (bc σ p) 1) 39 (bc σ q) 1) p q j z) 3 0 (τ 3 0 + 1) else ut (ut (ut (ut (mTryY τ p d) 24 p 0) 39 (bc σ p) 1) 39 (bc σ q) 1) 3 0 (τ 3 0 + 1) := by
    have cz : cN (τ 3 0) = z := by rw [z2]; exact cN_nI (by omega)
    rw [eT]
    unfold mMt
    show (if cN (τ 3 0) < 200 then ut (mRow (mBk1 (mBk1 (ut (mTryY τ p d) 24 p 0) p (cN (τ 16 p))) q (cN (τ 22 p))) p q j (cN (τ 3 0))) 3 0 (τ 3 0 + 1) else ut (mBk1 (mBk1 (ut (mTryY τ p d) 24 p 0) p (cN (τ 16 p))) q (cN (τ 22 p))) 3 0 (τ 3 0 + 1)) = _
    rw [cz, eB]
  rw [eM]
  have z200 : (σ.1 257 0 < 200) ↔ z < 200 := by
    rw [z1]
    constructor
    · intro h
      rcases Nat.lt_or_ge z 200 with q | q
      · exact q
      · exact absurd (nI_le (a := 200) q (by omega)) (Int32.not_le.mpr h)
    · intro h
      exact nI_lt (b := 200) h (by omega)
  refine h7.rows (fun f i hf => ?_) (fun k i hk => ?_) ?_ (fun i hi => ?_)
  · unfold sec7
    exact up_cong (up_cong (up_cong (addP_g _ _ _ _ _ _ _ hf)))
  · unfold mSec7
    refine ut_cong ?_
    split
    · refine ut_cong ?_
      rw [mRow_f _ _ _ _ _ _ _ hk]
    · rfl
  · exact addP_2 _ _ _ _ _
  · have b1 := hJ.2.2.1.1 i hi
    show _ = (addP (tryY σ p d) p n (8 * p + j) ((tryY σ p d).1 452 0)).1 900 i
    unfold addP
    rw [show (tryY σ p d).1 257 0 = σ.1 257 0 from rfl]
    by_cases hz : z < 200
    · rw [if_pos hz, if_pos (z200.mpr hz)]
      have cz : cN (σ.1 257 0) = z := by rw [z1]; exact cN_nI (by omega)
      have e2 : τ 2 0 = σ.1 452 0 := hJ.2.1.2.2.1
      rw [cz]
      show mRow (ut (ut (ut (mTryY τ p d) 24 p 0) 39 (bc σ p) 1) 39 (bc σ q) 1) p q j z 38 i = (add8 (tryY σ p d) p n (8 * p + j) z (σ.1 452 0)).1 900 i
      have L : mRow (ut (ut (ut (mTryY τ p d) 24 p 0) 39 (bc σ p) 1) 39 (bc σ q) 1) p q j z 38 i = if i = 8 * z + 7 then τ 2 0 else if i = 8 * z + 6 then τ 22 p else if i = 8 * z + 5 then τ 16 p else if i = 8 * z + 4 then (if τ 9 (8 * p + j) = 0 then nI p else nI q) else if i = 8 * z + 3 then (if τ 9 (8 * p + j) = 0 then τ 11 (8 * p + j) else τ 23 p) else if i = 8 * z + 2 then τ 10 (8 * p + j) else if i = 8 * z + 1 then nI q else if i = 8 * z then nI p else τ 38 i := by
        simp [mRow, mTryY, ut]
      have Rr : (add8 (tryY σ p d) p n (8 * p + j) z (σ.1 452 0)).1 900 i = if i = z * 8 + 7 then σ.1 452 0 else if i = z * 8 + 6 then σ.1 1 n else if i = z * 8 + 5 then σ.1 385 p else if i = z * 8 + 4 then (if σ.1 128 (8 * p + j) = 0 then nI p else σ.1 0 n) else if i = z * 8 + 3 then (if σ.1 128 (8 * p + j) = 0 then σ.1 130 (8 * p + j) else σ.1 4 n) else if i = z * 8 + 2 then σ.1 129 (8 * p + j) else if i = z * 8 + 1 then σ.1 0 n else if i = z * 8 then nI p else σ.1 900 i := by
        simp [add8, tryY, up]
      rw [L, Rr, Nat.mul_comm z 8, e2, h22, e16, eg.1, eg.2.1, eg.2.2.1, h23, hq, b1]
    · rw [if_neg hz, if_neg (fun h => hz (z200.mp h))]
      exact b1
set_option maxHeartbeats 2000000 in
/-- SECOND -/
theorem J.secX (hJ : J m σ τ) (hp : p < m) (h5 : σ.1 325 p = 5) {n q j : Nat} (hmet : sMet σ p = some n) (hq : σ.1 0 n = nI q) (hqm : q < m) (hqp : q ≠ p) (hj : j < 8) (h22 : τ 22 p = σ.1 1 n) (h23 : τ 23 p = σ.1 4 n) : J m (clH σ p q n (8 * p + j)) (mSec τ p q j) := by
  have ht := hiT_lt hp hqm
  have e15 := hJ.w15 ht
  have e16 := hJ.w16 ht
  have e15p := hJ.w15 hp
  have ev := vs_eq hJ hp (t := hiT p q) h22
  have e20 : τ 20 p = σ.1 332 p := by
    obtain ⟨ph, g', w, v, a1, a2, a3, a4, a5, a6, a7, a8, a9, a10, -⟩ := hJ.la hp
    have hcp : 5 = ph := phx (a := 5) h5 (by omega) a1.2.2 a1.1
    exact a10 (by omega)
  have c1 : mTok τ (hiT p q) (mVs τ p (hiT p q)) ↔ tryOk σ p (hiT p q) n := by
    unfold mTok tryOk
    rw [e15, e16, ev]
  unfold clH mSec
  by_cases hok : tryOk σ p (hiT p q) n
  · rw [if_pos hok, if_pos (c1.mpr hok)]
    exact hJ.secY hp h5 hmet hq hqm hqp hj h22 h23 hok
  · rw [if_neg hok, if_neg (fun h => hok (c1.mp h))]
    have hT := hJ.tryV
    have c2 : (hiT p q = p ∧ mEd τ p) ↔ (hiT p q = p ∧ stl σ p) := by
      unfold mEd stl
      rw [e15p]
    obtain ⟨b, hb1, hb2, hb3⟩ : ∃ b : Int32, (if hiT p q = p ∧ stl σ p then (1 : Int32) else 0) = b ∧ (if hiT p q = p ∧ mEd τ p then (1 : Int32) else 0) = b ∧ (¬ b = 0 → stl σ p) := by
      by_cases hs : hiT p q = p ∧ stl σ p
      · exact ⟨1, if_pos hs, if_pos (c2.mpr hs), fun _ => hs.2⟩
      · exact ⟨0, if_neg hs, if_neg (fun h => hs (c2.mp h)), fun h => absurd rfl h⟩
    rw [hb1, hb2]
    unfold nBs mBs
    have c3 : (ut (mTryN (ut τ 24 p 0)) 24 p b 15 (hiT p q) = 2 ∧ ut (mTryN (ut τ 24 p 0)) 24 p b 16 (hiT p q) = mVs τ p (hiT p q)) ↔ ((tryN σ).1 384 (hiT p q) = 2 ∧ (tryN σ).1 385 (hiT p q) = vs (tryN σ) p (hiT p q) n) := by
      show (τ 15 (hiT p q) = 2 ∧ τ 16 (hiT p q) = mVs τ p (hiT p q)) ↔ (σ.1 384 (hiT p q) = 2 ∧ σ.1 385 (hiT p q) = vs σ p (hiT p q) n)
      rw [e15, e16, ev]
    by_cases hb : (tryN σ).1 384 (hiT p q) = 2 ∧ (tryN σ).1 385 (hiT p q) = vs (tryN σ) p (hiT p q) n
    · rw [if_pos hb, if_pos (c3.mpr hb)]
      refine hT.sec6 hp h5 (b := b) hb3 (bz := 1) ⟨by simp [up], by simp [ut]⟩ (fun f i h => ?_) (fun k i h => ?_) rfl ⟨by simp [up]; rfl, by simp [ut]; rfl⟩ ⟨by simp [up], by simp [ut]⟩
      · rw [show (up (up (up (tryN σ) 332 p 1) 333 p b) 325 p 6).1 f i = if f = 325 ∧ i = p then 6 else if f = 333 ∧ i = p then b else if f = 332 ∧ i = p then 1 else (tryN σ).1 f i from rfl]
        rw [if_neg (by omega), if_neg (by omega), if_neg (by omega)]
      · simp only [mTryN, ut]
        by_cases h24 : k = 24 ∧ i = p
        · omega
        · rw [if_neg (by omega), if_neg (by omega), if_neg h24, if_neg h24]
          rfl
    · rw [if_neg hb, if_neg (fun h => hb (c3.mp h))]
      refine hT.sec6 hp h5 (b := b) hb3 (bz := σ.1 332 p) ⟨rfl, e20⟩ (fun f i h => ?_) (fun k i h => ?_) rfl ⟨by simp [up]; rfl, by simp [ut]; rfl⟩ ⟨by simp [up], by simp [ut]⟩
      · rw [show (up (up (tryN σ) 333 p b) 325 p 6).1 f i = if f = 325 ∧ i = p then 6 else if f = 333 ∧ i = p then b else (tryN σ).1 f i from rfl]
        rw [if_neg (by omega), if_neg (by omega)]
      · simp only [mTryN, ut]
        by_cases h24 : k = 24 ∧ i = p
        · omega
        · rw [if_neg (by omega), if_neg h24, if_neg h24]
          rfl
end CLAIMS

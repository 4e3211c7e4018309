section WITHDRAW
variable {m : Nat} {σ : Sg} {τ : Tu} {p : Nat}
theorem erase_flt {n : Nat} : ∀ (EL : List Nat) (k : Nat), EL.Pairwise (· < ·) → EL[k]? = some n → EL.eraseIdx k = EL.filter (fun x => !decide (x = n)) := by
  intro EL
  induction EL with
  | nil => intro k _ h; simp at h
  | cons x l ih =>
    intro k hp hk
    rw [List.pairwise_cons] at hp
    cases k with
    | zero =>
      obtain rfl : x = n := by simpa using hk
      rw [List.eraseIdx_cons_zero, List.filter_cons, if_neg (by simp)]
      refine (List.filter_eq_self.mpr (fun y hy => ?_)).symm
      have := hp.1 y hy
      simp
      omega
    | succ k =>
      have hk : l[k]? = some n := by simpa using hk
      have hx := hp.1 n (List.mem_of_getElem? hk)
      rw [List.eraseIdx_cons_succ, List.filter_cons, if_pos (by simp; omega), ih k hp.2 hk]
theorem flt_flt (P Q : Nat → Bool) (l : List Nat) : (l.filter P).filter Q = (l.filter Q).filter P := by
  rw [List.filter_filter, List.filter_filter]
  refine List.filter_congr (fun x _ => Bool.and_comm _ _)
theorem nI_m1 (a : Nat) : nI (a + 1) - 1 = nI a := by
  rw [← inc1 a]
  show nI a + 1 - 1 = nI a
  exact Int32.add_sub_cancel _ _
/-- the class's state and the model's with the entry n gone -/
def rmS (σ : Sg) (p n c : Nat) : Sg := up (uL σ c (fDr (sLs σ c) (nI n))) 336 p (σ.1 336 p + 1)
set_option maxHeartbeats 1000000 in
theorem J.rmE (hJ : J m σ τ) (hp : p < m) {n k : Nat} {EL : List Nat} (hE : JEl m σ τ EL) (hf : fE σ p = some n) (hk : EL[k]? = some n) : JEl m (rmS σ p n (cN (σ.1 3 n))) (mRem τ k) (EL.eraseIdx k) := by
  have hm := hJ.1
  have hnp := hJ.np
  have hlen := hJ.en hE
  have hen := hJ.elen hE
  have jN := hJ.2.2.2.2.2.1.1
  obtain ⟨ph, g, w, v, a1, a2, a3, a4, a5, -⟩ := hJ.la hp
  obtain ⟨e1, e2, e3, e4, e5, e6⟩ := hE
  have hkl : k < EL.length := (List.getElem?_eq_some_iff.mp hk).1
  have hnm := List.mem_of_getElem? hk
  obtain ⟨hn1, hn2⟩ := e2 n hnm
  obtain ⟨⟨q, q1, q2⟩, ⟨c, c1, c2⟩, -⟩ := jN n hn1 hn2
  have hflt := erase_flt EL k e1 hk
  have hcc : cN (σ.1 3 n) = c := by rw [c2]; exact cN_nI (by omega)
  rw [hcc]
  have hq : q = p := by
    have : n ∈ EL.filter (fun n => decide (σ.1 0 n = nI p)) := by
      rw [← e6 p hp]
      unfold fE at hf
      rw [List.mem_iff_getElem?]
      exact ⟨0, by rw [List.getElem?_drop, Nat.add_zero]; exact hf⟩
    have := (List.mem_filter.mp this).2
    have := of_decide_eq_true this
    rw [q2] at this
    exact nI_inj (by omega) (by omega) this
  subst hq
  obtain ⟨l, hl⟩ : ∃ l, EL.length = l + 1 := ⟨EL.length - 1, by omega⟩
  have hle : (EL.eraseIdx k).length = l := by rw [List.length_eraseIdx, if_pos hkl]; omega
  refine ⟨?_, fun x hx => ?_, ?_, fun k' n' hk' => ?_, fun c0 hc0 => ?_, fun r hr => ?_⟩
  · rw [hflt]; exact e1.filter _
  · rw [hflt] at hx
    exact e2 x (List.mem_filter.mp hx).1
  · rw [hle]
    unfold mRem
    rw [shf_k _ _ _ _ _ (by omega)]
    show (if 31 = 31 ∧ 0 = 0 then τ 31 0 - 1 else τ 31 0) = nI l
    rw [if_pos ⟨rfl, rfl⟩, e3, hl]
    exact nI_m1 l
  · have hk'l : k' < l := by rw [← hle]; exact (List.getElem?_eq_some_iff.mp hk').1
    rw [List.getElem?_eraseIdx] at hk'
    unfold mRem
    rw [hen, hl, Nat.add_sub_cancel]
    by_cases hkk : k' < k
    · rw [if_pos hkk] at hk'
      have s : ∀ f, shf (ut τ 31 0 (τ 31 0 - 1)) k l f k' = ut τ 31 0 (τ 31 0 - 1) f k' := fun f => by unfold shf; rw [if_neg (by omega)]
      rw [s, s, s, s, s, s]
      exact e4 k' n' hk'
    · rw [if_neg hkk] at hk'
      have s : ∀ f, 32 ≤ f → f ≤ 37 → shf (ut τ 31 0 (τ 31 0 - 1)) k l f k' = τ f (k' + 1) := fun f h1 h2 => by
        unfold shf
        rw [if_pos (by omega), ut_fne _ _ _ _ (by omega)]
      rw [s 32 (by omega) (by omega), s 33 (by omega) (by omega), s 34 (by omega) (by omega), s 35 (by omega) (by omega), s 36 (by omega) (by omega), s 37 (by omega) (by omega)]
      exact e4 (k' + 1) n' hk'
  · show (if c0 = c then fDr (sLs σ c) (nI n) else sLs σ c0) = (EL.eraseIdx k).filter (fun n => decide (σ.1 3 n = nI c0))
    rw [hflt, flt_flt]
    by_cases hcc0 : c0 = c
    · subst hcc0
      rw [if_pos rfl, e5 c0 hc0]
      unfold fDr
      refine List.filter_congr (fun x hx => ?_)
      have hx2 := e2 x (List.mem_filter.mp hx).1
      by_cases hxn : x = n
      · subst hxn; simp
      · have : ¬ nI x = nI n := fun h => hxn (nI_inj (by omega) (by omega) h)
        simp [hxn, this]
    · rw [if_neg hcc0, e5 c0 hc0]
      refine (List.filter_eq_self.mpr (fun x hx => ?_)).symm
      have hx3 := of_decide_eq_true (List.mem_filter.mp hx).2
      have : x ≠ n := fun h => by
        rw [h, c2] at hx3
        exact hcc0 (nI_inj (by omega) (by omega) hx3).symm
      simp [this]
  · show (sPb σ r).drop (cN ((rmS σ q n c).1 336 r)) = (EL.eraseIdx k).filter (fun n => decide (σ.1 0 n = nI r))
    rw [hflt, flt_flt]
    by_cases hrp : r = q
    · subst hrp
      have ew : (rmS σ r n c).1 336 r = nI (w + 1) := by
        unfold rmS
        rw [up_same, a4.1]; exact inc1 w
      rw [ew, cN_nI (by omega)]
      have h6 := e6 r hr
      rw [a4.1, cN_nI (by omega)] at h6
      rw [← h6]
      have hf' : (sPb σ r)[w]? = some n := by unfold fE at hf; rwa [a4.1, cN_nI (by omega)] at hf
      have hwl := (List.getElem?_eq_some_iff.mp hf').1
      have hcons : (sPb σ r).drop w = n :: (sPb σ r).drop (w + 1) := by
        rw [List.drop_eq_getElem_cons hwl]
        congr 1
        exact (List.getElem?_eq_some_iff.mp hf').2
      have hpw : ((sPb σ r).drop w).Pairwise (· < ·) := by rw [h6]; exact e1.filter _
      rw [hcons] at hpw ⊢
      rw [List.pairwise_cons] at hpw
      rw [List.filter_cons, if_neg (by simp)]
      refine (List.filter_eq_self.mpr (fun x hx => ?_)).symm
      have := hpw.1 x hx
      simp
      omega
    · have ew : (rmS σ q n c).1 336 r = σ.1 336 r := by
        unfold rmS
        rw [up_ine _ _ _ _ hrp]; rfl
      rw [ew, e6 r hr]
      refine (List.filter_eq_self.mpr (fun x hx => ?_)).symm
      have hx3 := of_decide_eq_true (List.mem_filter.mp hx).2
      have : x ≠ n := fun h => by
        rw [h, q2] at hx3
        exact hrp (nI_inj (by omega) (by omega) hx3).symm
      simp [this]
set_option maxHeartbeats 2000000 in
/-- WITHDRAW -/
theorem J.wdX (hJ : J m σ τ) (hp : p < m) (h11 : σ.1 325 p = 11) {n : Nat} (hf : fE σ p = some n) : J m (wdS σ p n (cN (σ.1 3 n))) (mRst τ p) := by
  have hm := hJ.1
  obtain ⟨EL, hE⟩ := hJ.2.2.2.2.2.2.1
  obtain ⟨k, hk, hok⟩ := (hJ.own hp hE).2 n hf
  have hlen := hJ.en hE
  have hkl : k < EL.length := (List.getElem?_eq_some_iff.mp hk).1
  have hE' := hJ.rmE hp hE hf hk
  have hle : (EL.eraseIdx k).length ≤ 128 := by rw [List.length_eraseIdx, if_pos hkl]; omega
  have ho := own_of hp hE' hle
  have hlw := hJ.lw hp
  have hla := hJ.la hp
  have hs : σ.1 384 p = 3 ∨ σ.1 384 p = 4 := hlw.2.2.2.2.2.1 (Or.inl h11)
  have h01 := nb_of (c := 11) h11 (by omega)
  have e7 : τ 7 p = 11 := by
    obtain ⟨ph, g, w, v, a1, -⟩ := hla
    rw [a1.2.1, ← a1.1, h11]
  unfold mRst
  rw [if_pos e7, hok]
  show J m (bWd (rmS σ p n (cN (σ.1 3 n))) p) (mWd (mRem τ k) p)
  obtain ⟨c, ec⟩ : ∃ c, c = cN (σ.1 3 n) := ⟨_, rfl⟩
  rw [← ec] at hE' ho ⊢
  obtain ⟨x, hx1, hx2, hx3, hx4⟩ : ∃ x : Nat, (x = 11 ∨ x = 12) ∧ (if (fE (rmS σ p n c) p).isSome then (11 : Int32) else 12) = nI x ∧ (if (mOwn (mRem τ k) p).isSome then (11 : Int32) else 12) = nI x ∧ ((x = 11 ∧ ∃ y, fE (rmS σ p n c) p = some y) ∨ (x = 12 ∧ fE (rmS σ p n c) p = none)) := by
    rcases hff : fE (rmS σ p n c) p with _ | y
    · exact ⟨12, Or.inr rfl, rfl, by rw [ho.1 hff]; rfl, Or.inr ⟨rfl, rfl⟩⟩
    · obtain ⟨k', -, hk'⟩ := ho.2 y hff
      exact ⟨11, Or.inl rfl, rfl, by rw [hk']; rfl, Or.inl ⟨rfl, y, rfl⟩⟩
  unfold bWd mWd
  rw [hx2, hx3]
  have s1 : ∀ f i, ¬ (i = p ∧ (f = 325 ∨ f = 336)) → (up (rmS σ p n c) 325 p (nI x)).1 f i = σ.1 f i := fun f i h => by
    simp only [rmS, uL, up]; rw [if_neg (by omega), if_neg (by omega)]
  have s2 : ∀ f i, ¬ (i = p ∧ f = 7) → ¬ (31 ≤ f ∧ f ≤ 37) → (ut (mRem τ k) 7 p (nI x)) f i = τ f i := fun f i h h' => by
    rw [show ut (mRem τ k) 7 p (nI x) f i = if f = 7 ∧ i = p then nI x else mRem τ k f i from rfl, if_neg (by omega)]
    unfold mRem
    rw [shf_k _ _ _ _ _ (by omega), ut_fne _ _ _ _ (by omega)]
  have w1 : ∀ r, ((up (rmS σ p n c) 325 p (nI x)).1 384 r = σ.1 384 r ∧ (up (rmS σ p n c) 325 p (nI x)).1 386 r = σ.1 386 r ∧ (up (rmS σ p n c) 325 p (nI x)).1 337 r = σ.1 337 r ∧ (up (rmS σ p n c) 325 p (nI x)).1 338 r = σ.1 338 r) ∧ ut (mRem τ k) 7 p (nI x) 15 r = τ 15 r ∧ ut (mRem τ k) 7 p (nI x) 17 r = τ 17 r ∧ ut (mRem τ k) 7 p (nI x) 39 (bc σ r) = τ 39 (bc σ r) ∧ ut (mRem τ k) 7 p (nI x) 40 (bc σ r) = τ 40 (bc σ r) := fun r => ⟨⟨s1 _ _ (by omega), s1 _ _ (by omega), s1 _ _ (by omega), s1 _ _ (by omega)⟩, s2 _ _ (by omega) (by omega), s2 _ _ (by omega) (by omega), s2 _ _ (by omega) (by omega), s2 _ _ (by omega) (by omega)⟩
  have x325 : (up (rmS σ p n c) 325 p (nI x)).1 325 p = nI x := by simp [up]
  have nx : ∀ a : Nat, a ≤ 12 → (up (rmS σ p n c) 325 p (nI x)).1 325 p = nI a → x = a := fun a ha h => phx x325 (by omega) ha h
  obtain ⟨-, jG, jB, jU, jT, jN, jE, jL⟩ := hJ
  have hJ0 : J m σ τ := ⟨hm, jG, jB, jU, jT, jN, jE, jL⟩
  refine hJ0.step2 hp (fun _ => False) ?_ ?_ (fun i hi => ?_) (fun r hr => ?_) ⟨fun y g1 g2 => ?_, ?_⟩ ⟨EL.eraseIdx k, ?_⟩ (fun r _ i _ => s1 _ _ (by omega)) (fun f n hf hn => s1 _ _ (by omega)) (Nat.le_refl _) (fun r hr => rfl) (fun r _ => rfl) (fun r f hr _ _ => s1 _ _ (by omega)) (fun r _ => s1 _ _ (by omega)) (Or.inr (s1 _ _ (by omega))) (fun r k hr hk => s2 _ _ (by omega) (by omega)) (fun r _ _ => w1 r) (fun t ht => ht.elim) ?_ ?_ ?_
  · obtain ⟨g0, g1, g2, g3, g4, g5, g6, g7, g8⟩ := jG
    refine ⟨?_, ?_, ?_, ?_, ?_, ?_, ?_, ?_, ?_⟩
    · rw [s2 0 0 (by omega) (by omega)]; exact g0
    · rw [s2 1 0 (by omega) (by omega), s1 451 0 (by omega)]; exact g1
    · rw [s2 2 0 (by omega) (by omega), s1 452 0 (by omega)]; exact g2
    · rw [s2 3 0 (by omega) (by omega), s1 257 0 (by omega)]; exact g3
    · rw [s2 4 0 (by omega) (by omega), s1 453 0 (by omega)]; exact g4
    · rw [s2 5 0 (by omega) (by omega), s1 454 0 (by omega)]; exact g5
    · rw [s2 6 0 (by omega) (by omega), s1 455 0 (by omega)]; exact g6
    · rw [s1 456 0 (by omega)]; exact g7
    · rw [s1 453 0 (by omega)]; exact g8
  · obtain ⟨b1, b2, b3, b4⟩ := jB
    refine ⟨fun i hi => ?_, fun k hk => ?_, ?_, fun r hr y h1 h2 => ?_⟩
    · rw [s2 38 i (by omega) (by omega), s1 900 i (by omega)]; exact b1 i hi
    · unfold dB
      rw [s2 39 k (by omega) (by omega), s2 40 k (by omega) (by omega)]; exact b2 k hk
    · have : uV (up (rmS σ p n c) 325 p (nI x)) = uV σ := by funext r; unfold uV; rw [s1 385 r (by omega), (w1 r).1.2.2.1]
      rw [s1 257 0 (by omega), this]; exact b3
    · rw [s1 385 r (by omega)] at h1
      rw [s2 39 _ (by omega) (by omega), s2 40 _ (by omega) (by omega)]
      exact b4 r hr y h1 h2
  · rw [s1 128 i (by omega), s1 129 i (by omega), s1 130 i (by omega), s1 131 i (by omega), s2 9 i (by omega) (by omega), s2 10 i (by omega) (by omega), s2 11 i (by omega) (by omega), s2 12 i (by omega) (by omega)]
    exact jU i hi
  · rw [s2 26 r (by omega) (by omega), s2 27 r (by omega) (by omega), s2 28 r (by omega) (by omega), s2 29 r (by omega) (by omega), s2 30 r (by omega) (by omega), s1 192 r (by omega), s1 193 r (by omega), s1 194 r (by omega), s1 195 r (by omega), s1 196 r (by omega)]
    exact jT r hr
  · rw [s1 0 y (by omega), s1 3 y (by omega), s1 1 y (by omega)]
    exact jN.1 y g1 g2
  · have : uN (up (rmS σ p n c) 325 p (nI x)) = uN σ := by funext r; unfold uN; rw [s1 385 r (by omega)]; rfl
    rw [this]; exact jN.2
  · obtain ⟨e1, e2, e3, e4, e5, e6⟩ := hE'
    exact ⟨e1, e2, e3, e4, e5, fun r hr => e6 r hr⟩
  · obtain ⟨ph, g, w, v, a1, a2, a3, a4, a5, a6, a7, a8, a9, a10, a11, a12, a13, a14, a15⟩ := hla
    have hcp : 11 = ph := phx (a := 11) h11 (by omega) a1.2.2 a1.1
    have ew : (up (rmS σ p n c) 325 p (nI x)).1 336 p = nI (w + 1) := by
      show (rmS σ p n c).1 336 p = _
      unfold rmS
      rw [up_same, a4.1]; exact inc1 w
    have hwl := a15 hcp.symm
    have ef : fE (rmS σ p n c) p = (sPb σ p)[w + 1]? := by
      unfold fE
      show (sPb σ p)[cN ((up (rmS σ p n c) 325 p (nI x)).1 336 p)]? = _
      rw [ew, cN_nI (by omega)]
    refine ⟨x, g, w + 1, v, ⟨x325, by simp [ut], by omega⟩, ?_, ?_, ⟨ew, hwl, a4.2.2⟩, ?_, ?_, fun _ => ?_, by omega, by omega, by omega, by omega, by omega, by omega, fun h => ?_, fun h => ?_⟩
    · rw [s1 326 p (by omega), s2 8 p (by omega) (by omega)]; exact a2
    · rw [s1 327 p (by omega), s2 13 p (by omega) (by omega)]; exact a3
    · rw [s1 385 p (by omega), s2 16 p (by omega) (by omega)]; exact a5
    · rw [s2 18 p (by omega) (by omega)]; exact a6
    · rw [s1 328 p (by omega), s2 14 p (by omega) (by omega)]; exact a7 (by omega)
    · rcases hx4 with ⟨rfl, y, hy⟩ | ⟨rfl, hy⟩
      · omega
      · rw [ef] at hy
        have := List.getElem?_eq_none_iff.mp hy
        show w + 1 = (sPb σ p).length
        omega
    · rcases hx4 with ⟨rfl, y, hy⟩ | ⟨rfl, hy⟩
      · rw [ef] at hy
        exact (List.getElem?_eq_some_iff.mp hy).1
      · omega
  · refine hlw.ph h01 ?_ (fun _ => hs) (fun _ _ => hs) (s1 _ _ (by omega)) (s1 _ _ (by omega)) (w1 p) (s2 _ _ (by omega) (by omega))
    rintro (h | h)
    · have := nx 0 (by omega) h; omega
    · have := nx 1 (by omega) h; omega
  · refine ⟨fun h => ?_, fun h => ?_, fun h => ?_⟩
    · rcases h with h | h
      · have := nx 5 (by omega) h; omega
      · have := nx 6 (by omega) h; omega
    · have := nx 7 (by omega) h
      omega
    · have := nx 8 (by omega) h
      omega
end WITHDRAW

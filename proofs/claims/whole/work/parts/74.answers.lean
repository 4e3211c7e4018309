section ANSWERS
variable {m : Nat} {σ σ' : Sg} {τ : Tu} {p : Nat}
/-! ===== what the calls answer, on both sides ===== -/
def N01 (σ : Sg) (p : Nat) : Prop := ¬ (σ.1 325 p = 0 ∨ σ.1 325 p = 1)
theorem N01.ph {v : Int32} (h : ¬ (v = 0 ∨ v = 1)) : N01 (up σ 325 p v) p := by unfold N01; rw [up_same]; exact h
theorem N01.wd : N01 (bWd σ p) p := by
  unfold bWd
  refine N01.ph ?_
  split <;> decide
theorem N01.lkF : N01 (lkFF σ p) p := by
  unfold lkFF
  split
  · exact N01.ph (by decide)
  · exact N01.ph (by decide)
theorem N01.lkN : N01 (lkNx σ p) p := by
  unfold lkNx
  split
  · exact N01.ph (by decide)
  · exact N01.ph (by decide)
theorem N01.aI (h : N01 σ p) : N01 (acc1 σ p) p := by
  unfold acc1
  split
  · unfold rOut
    split
    · exact N01.wd
    · split
      · exact N01.wd
      · exact h
  · unfold phS
    split
    · unfold pubS
      split
      · exact N01.lkF
      · show ¬ ((up (pubB σ p (atN σ p) (chN σ p)) 329 p _).1 325 p = 0 ∨ (up (pubB σ p (atN σ p) (chN σ p)) 329 p _).1 325 p = 1)
        rw [up_fne _ _ _ _ (by omega), pubB_f _ _ _ _ _ _ (by omega) (by omega)]
        exact h
    · split
      · unfold lkS
        split
        · exact N01.lkN
        · split
          · exact N01.ph (by decide)
          · exact h
      · split
        · unfold endL
          split
          · exact N01.wd
          · split
            · exact N01.ph (by decide)
            · exact N01.lkF
        · split
          · unfold wake
            split
            · exact N01.wd
            · exact h
          · split
            · exact N01.wd
            · unfold meet
              split
              · unfold clL
                split
                · exact N01.ph (by decide)
                · split
                  · exact N01.wd
                  · exact N01.ph (by decide)
              · split
                · unfold clH
                  split
                  · exact N01.ph (by decide)
                  · exact N01.ph (by decide)
                · split
                  · unfold gvB
                    split
                    · exact N01.ph (by decide)
                    · exact N01.wd
                  · split
                    · exact N01.ph (by decide)
                    · exact N01.wd
theorem J.how (hJ : J m σ τ) (hp : p < m) (h : N01 σ p) : mHow τ p = stdg σ p := by
  have hlw := hJ.lw hp
  have e7 := hJ.t7 hp
  unfold mHow stdg
  rw [e7, if_neg (fun q => h (Or.inl q)), if_neg (fun q => h (Or.inr q)), hlw.1]
  by_cases h12 : σ.1 325 p = 12
  · rw [if_pos h12, if_neg (show ¬ σ.1 325 p = 10 by rw [h12]; decide), if_pos h12]
    by_cases h3 : σ.1 384 p = 3
    · rw [if_pos h3, if_pos h3]
    · rw [if_neg h3, if_neg h3]
      have h4 : σ.1 384 p = 4 := by
        rcases hlw.2.2.2.2.2.1 (Or.inr h12) with q | q
        · exact absurd q h3
        · exact q
      exact ((hlw.2.2.2.2.2.2.1 h).1 h4).symm
  · rw [if_neg h12]
    by_cases h10 : σ.1 325 p = 10
    · rw [if_pos h10, if_pos h10]
    · rw [if_neg h10, if_neg h10, if_neg h12]
theorem J.howA (hJ : J m σ τ) (hp : p < m) (h2 : ¬ σ.1 325 p < 2) (h11 : ¬ 11 < σ.1 325 p) : mHow (mTrn τ p) p = stdg (acc σ p) p := by
  refine (hJ.accX hp h2 h11).how hp ?_
  refine N01.aI (show N01 (up σ 452 0 (σ.1 452 0 + 1)) p from ?_)
  obtain ⟨ph, hp2, hp11, e325, e7⟩ := off_ph hJ hp h2 h11
  exact nb_of e325 (by omega)
theorem J.v1000 (hJ : J m σ τ) (hp : p < m) : σ.1 385 p < 1000 ↔ ¬ τ 16 p = 1000 := by
  obtain ⟨ph, g, w, v, a1, a2, a3, a4, a5, -⟩ := hJ.la hp
  rw [a5.1, a5.2.1]
  constructor
  · intro h e
    rw [e] at h
    exact absurd h (by decide)
  · intro h
    refine nI_lt (b := 1000) ?_ (by omega)
    rcases Nat.lt_or_ge v 1000 with q | q
    · exact q
    · exact absurd (by rw [show v = 1000 by omega]; rfl) h
theorem J.gc (hJ : J m σ τ) : ∀ p, p < m → ∃ g, σ.1 326 p = nI g ∧ g ≤ 8 := fun p hp => by
  obtain ⟨ph, g, w, v, a1, a2, -⟩ := hJ.la hp
  exact ⟨g, a2.1, a2.2.2⟩
theorem J.gcm (hJ : J m σ τ) : ∀ p, p < m → ∃ g, τ 8 p = nI g ∧ g ≤ 8 := fun p hp => by
  obtain ⟨ph, g, w, v, a1, a2, -⟩ := hJ.la hp
  exact ⟨g, a2.2.1, a2.2.2⟩
theorem J.t8 (hJ : J m σ τ) (hp : p < m) : τ 8 p = σ.1 326 p := by
  obtain ⟨ph, g, w, v, a1, a2, -⟩ := hJ.la hp
  rw [a2.1, a2.2.1]
theorem J.wdn (hJ : J m σ τ) : ∀ p, p < m → ∃ w, σ.1 336 p = nI w ∧ w ≤ (sPb σ p).length := fun p hp => by
  obtain ⟨ph, g, w, v, a1, a2, a3, a4, -⟩ := hJ.la hp
  exact ⟨w, a4.1, a4.2.1⟩
theorem J.vvm (hJ : J m σ τ) : ∀ p, p < m → ∃ v1, τ 16 p = nI v1 ∧ v1 ≤ 1000 := fun p hp => by
  obtain ⟨ph, g, w, v, a1, a2, a3, a4, a5, -⟩ := hJ.la hp
  exact ⟨v, a5.2.1, a5.2.2⟩
theorem J.enm (hJ : J m σ τ) : ∃ en, τ 31 0 = nI en ∧ en ≤ 129 := by
  obtain ⟨EL, hE⟩ := hJ.2.2.2.2.2.2.1
  have := hJ.en hE
  exact ⟨EL.length, hE.2.2.1, by omega⟩
theorem J.clm (hJ : J m σ τ) : ∀ p, p < m → ∃ c, τ 17 p = nI c ∧ c < 16 := fun p hp => by
  have hm := hJ.1
  obtain ⟨c, h1, h2⟩ := (hJ.lw hp).2.2.2.1
  exact ⟨c, h2, by omega⟩
theorem J.rgm (hJ : J m σ τ) : ∀ p, p < m → ¬ τ 7 p = 0 → ¬ τ 7 p = 1 → ¬ τ 7 p = 12 → (¬ τ 7 p < 2 ∧ ¬ 11 < τ 7 p) ∧ MO m τ p := fun p hp h0 h1 h12 => by
  refine ⟨?_, hJ.mo hp⟩
  obtain ⟨ph, g, w, v, a1, -⟩ := hJ.la hp
  rw [a1.2.1] at h0 h1 h12 ⊢
  have hc : 2 ≤ ph ∧ ph ≤ 11 := by
    have := a1.2.2
    refine ⟨?_, ?_⟩
    · rcases Nat.lt_or_ge ph 2 with q | q
      · have : ph = 0 ∨ ph = 1 := by omega
        rcases this with rfl | rfl
        · exact absurd rfl h0
        · exact absurd rfl h1
      · exact q
    · rcases Nat.lt_or_ge 11 ph with q | q
      · have : ph = 12 := by omega
        subst this
        exact absurd rfl h12
      · exact q
  exact ⟨Int32.not_lt.mpr (nI_le (a := 2) hc.1 (by omega)), Int32.not_lt.mpr (nI_le (b := 11) hc.2 (by omega))⟩
theorem a01 (a : Int32) : (a = 0 ∨ a = 1) ↔ (¬ a < 0 ∧ ¬ 1 < a) := by
  constructor
  · rintro (rfl | rfl) <;> decide
  · rintro ⟨h1, h2⟩
    obtain ⟨j, hj, e⟩ := nI_of h1
    subst e
    rcases j with _ | _ | j
    · exact Or.inl rfl
    · exact Or.inr rfl
    · exact absurd (nI_lt (a := 1) (b := j + 1 + 1) (by omega) hj) h2
/-! readers -/
theorem J.wordX (hJ : J m σ τ) (hp : p < m) (k : Int32) : (if k = 0 then τ 15 p else if k = 1 then τ 16 p else if k = 2 then (if τ 15 p = 2 then τ 17 p else -1) else -1) = (if k = 0 then σ.1 384 p else if k = 1 then σ.1 385 p else if k = 2 then σ.1 386 p else -1) := by
  have hlw := hJ.lw hp
  rw [hlw.1, hJ.w16 hp]
  have : (if σ.1 384 p = 2 then τ 17 p else -1) = σ.1 386 p := by
    by_cases h : σ.1 384 p = 2
    · rw [if_pos h]; exact hlw.2.1 h
    · rw [if_neg h]; exact (hlw.2.2.1 h).symm
  rw [this]
theorem J.outX (hJ : J m σ τ) (hp : p < m) (k : Int32) : (if τ 26 p = 0 then -1 else if k = 0 then τ 27 p else if k = 1 then τ 28 p else if k = 2 then τ 29 p else if k = 3 then τ 30 p else -1) = (if σ.1 192 p = 0 then -1 else if k = 0 then σ.1 193 p else if k = 1 then σ.1 194 p else if k = 2 then σ.1 195 p else if k = 3 then σ.1 196 p else -1) := by
  obtain ⟨t1, t2, t3, t4, t5⟩ := hJ.2.2.2.2.1 p hp
  rw [t1, t2, t3, t4, t5]
theorem mEf_flt {Q : Nat → Bool} : ∀ (EL : List Nat) (P : Nat → Bool) (a l : Nat), (∀ k n, EL[k]? = some n → P (a + k) = Q n) → ((EL.filter Q)[l]? = none → mEf P EL.length a l = none) ∧ (∀ n, (EL.filter Q)[l]? = some n → ∃ k, EL[k]? = some n ∧ mEf P EL.length a l = some (a + k)) := by
  intro EL
  induction EL with
  | nil =>
    intro P a l _
    exact ⟨fun _ => rfl, fun n h => by simp at h⟩
  | cons x t ih =>
    intro P a l h
    have h0 : P a = Q x := h 0 x rfl
    have ih := fun l => ih P (a + 1) l (fun k n hk => by rw [← h (k + 1) n hk]; congr 1; omega)
    rw [List.filter_cons, List.length_cons]
    cases hq : Q x with
    | true =>
      rw [hq] at h0
      rw [if_pos rfl]
      cases l with
      | zero =>
        rw [mEf_s0, if_pos h0]
        refine ⟨fun hh => by simp at hh, fun n hh => ⟨0, ?_, rfl⟩⟩
        simpa using hh
      | succ l =>
        rw [mEf_ss, if_pos h0]
        refine ⟨fun hh => (ih l).1 (by simpa using hh), fun n hh => ?_⟩
        obtain ⟨k, k1, k2⟩ := (ih l).2 n (by simpa using hh)
        exact ⟨k + 1, k1, by rw [k2]; congr 1; omega⟩
    | false =>
      rw [hq] at h0
      rw [if_neg (by decide), mEf_no (by rw [h0]; decide)]
      refine ⟨(ih l).1, fun n hh => ?_⟩
      obtain ⟨k, k1, k2⟩ := (ih l).2 n hh
      exact ⟨k + 1, k1, by rw [k2]; congr 1; omega⟩
theorem J.entS (hJ : J m σ τ) {en : Nat} (hen : τ 31 0 = nI en) (hen2 : en ≤ 129) {c j n : Nat} (hc : c < 8) (hn : (sLs σ c)[j]? = some n) (k : Int32) : mEo τ k (mEf (fun e => decide (τ 37 e = nI c)) en 0 j) = (if k = 0 then σ.1 0 n else if k = 1 then σ.1 2 n else if k = 2 then σ.1 4 n else if k = 3 then nI n else if k = 4 then σ.1 1 n else -1) := by
  obtain ⟨EL, hE⟩ := hJ.2.2.2.2.2.2.1
  have hl := hJ.en hE
  obtain ⟨e1, e2, e3, e4, e5, e6⟩ := hE
  have : en = EL.length := nI_inj (by omega) (by omega) (hen.symm.trans e3)
  subst this
  rw [e5 c hc] at hn
  obtain ⟨i, i1, i2⟩ := (mEf_flt (Q := fun n => decide (σ.1 3 n = nI c)) EL (fun e => decide (τ 37 e = nI c)) 0 j (fun k n hk => by
    rw [Nat.zero_add, (e4 k n hk).2.2.2.2.2])).2 n hn
  rw [i2, Nat.zero_add]
  obtain ⟨r1, r2, r3, r4, r5, r6⟩ := e4 i n i1
  show mEr τ k i = _
  unfold mEr
  rw [r1, r2, r3, r4, r5]
theorem J.entN (hJ : J m σ τ) {en : Nat} (hen : τ 31 0 = nI en) (hen2 : en ≤ 129) {b i : Int32} {l : Nat} (hl : i = nI l) (hl31 : l < 2 ^ 31) (hno : (b < 0 ∨ nI 8 ≤ b) ∨ ∃ c, c < 8 ∧ b = nI c ∧ (i < 0 ∨ nI (sLs σ c).length ≤ i)) (k : Int32) : mEo τ k (mEf (fun e => decide (τ 37 e = b)) en 0 l) = -1 := by
  have hnp := hJ.np
  obtain ⟨EL, hE⟩ := hJ.2.2.2.2.2.2.1
  have hlen := hJ.en hE
  obtain ⟨e1, e2, e3, e4, e5, e6⟩ := hE
  have : en = EL.length := nI_inj (by omega) (by omega) (hen.symm.trans e3)
  subst this
  have hf := (mEf_flt (Q := fun n => decide (σ.1 3 n = b)) EL (fun e => decide (τ 37 e = b)) 0 l (fun k n hk => by
    rw [Nat.zero_add, (e4 k n hk).2.2.2.2.2])).1
  have hnone : (EL.filter (fun n => decide (σ.1 3 n = b)))[l]? = none := by
    rcases hno with h | ⟨c, hc, rfl, h⟩
    · have : EL.filter (fun n => decide (σ.1 3 n = b)) = [] := by
        rw [List.filter_eq_nil_iff]
        intro n hn hd
        have hd := of_decide_eq_true hd
        have hn' := e2 n hn
        obtain ⟨-, ⟨c, c1, c2⟩, -⟩ := hJ.2.2.2.2.2.1.1 n hn'.1 hn'.2
        rw [c2] at hd
        rw [← hd] at h
        rcases h with h | h
        · exact absurd h (nI_pos (by omega))
        · exact absurd h (nI_ge c1 (by omega))
      rw [this]; rfl
    · rw [← e5 c hc]
      rw [List.getElem?_eq_none_iff]
      subst hl
      rcases h with h | h
      · exact absurd h (nI_pos hl31)
      · rcases Nat.lt_or_ge l (sLs σ c).length with q | q
        · have hb : (sLs σ c).length ≤ EL.length := by rw [e5 c hc]; exact List.length_filter_le _ _
          exact absurd h (nI_ge q (by omega))
        · exact q
  rw [hf hnone]
  rfl
theorem J.dblX (hJ : J m σ τ) : ctA (dB τ) 16016 0 0 = σ.1 456 0 := by
  rw [hJ.2.1.2.2.2.2.2.2.2.1]
  have key : ∀ (n a : Nat) (s : Int32), a + n ≤ 16016 → ctA (dB τ) n a s = s := by
    intro n
    induction n with
    | zero => intro a s _; rfl
    | succ n ih =>
      intro a s h
      rw [ctA_succ, hJ.2.2.1.2.1 a (by omega)]
      exact ih (a + 1) s (by omega)
  exact key 16016 0 0 (by omega)
theorem anyB_iff {f : Nat → Bool} : ∀ {n a : Nat}, anyB f n a = true ↔ ∃ j, a ≤ j ∧ j < a + n ∧ f j = true := by
  intro n
  induction n with
  | zero =>
    intro a
    constructor
    · intro h; cases h
    · rintro ⟨j, h1, h2, -⟩; omega
  | succ n ih =>
    intro a
    rw [anyB_succ, Bool.or_eq_true, ih]
    constructor
    · rintro (h | ⟨j, h1, h2, h3⟩)
      · exact ⟨a, Nat.le_refl _, by omega, h⟩
      · exact ⟨j, by omega, by omega, h3⟩
    · rintro ⟨j, h1, h2, h3⟩
      by_cases hj : j = a
      · subst hj; exact Or.inl h3
      · exact Or.inr ⟨j, by omega, by omega, h3⟩
theorem J.muX (hJ : J m σ τ) {p q : Nat} (hp : p < m) (hq : q < m) : muB τ p q = uB σ p q := by
  have hm := hJ.1
  obtain ⟨gp, g1, g2⟩ := hJ.gc p hp
  obtain ⟨gq, g3, g4⟩ := hJ.gc q hq
  have key : mmC τ p q gp gq = true ↔ mtC σ p q gp gq := by
    unfold mmC mtC
    rw [anyB_iff]
    constructor
    · rintro ⟨i, -, h2, h3⟩
      rw [anyB_iff] at h3
      obtain ⟨j, -, h5, h6⟩ := h3
      refine ⟨i, j, by omega, by omega, ?_⟩
      have u1 := hJ.2.2.2.1 (8 * p + i) (by omega)
      have u2 := hJ.2.2.2.1 (8 * q + j) (by omega)
      unfold mmB at h6
      rw [u1.1, u1.2.1, u1.2.2.2.1, u2.1, u2.2.1, u2.2.2.2.1] at h6
      unfold mtG
      simpa [and_assoc] using h6
    · rintro ⟨i, j, h1, h2, h3⟩
      refine ⟨i, by omega, by omega, ?_⟩
      rw [anyB_iff]
      refine ⟨j, by omega, by omega, ?_⟩
      have u1 := hJ.2.2.2.1 (8 * p + i) (by omega)
      have u2 := hJ.2.2.2.1 (8 * q + j) (by omega)
      unfold mmB
      rw [u1.1, u1.2.1, u1.2.2.2.1, u2.1, u2.2.1, u2.2.2.2.1]
      unfold mtG at h3
      simpa [and_assoc] using h3
  have e : muB τ p q = true ↔ uB σ p q = true := by
    unfold muB
    rw [hJ.t8 hp, hJ.t8 hq, g1, g3, cN_nI (by omega), cN_nI (by omega), hJ.t7 hp, hJ.t7 hq, hJ.w15 hp, hJ.w15 hq, Bool.and_eq_true, Bool.and_eq_true, decide_eq_true_eq, decide_eq_true_eq, key]
    constructor
    · rintro ⟨⟨⟨x1, x2⟩, x3, x4⟩, x5⟩
      refine uB_t ⟨x1, x3, x2, x4, ?_⟩
      rw [g1, g3, cN_nI (by omega), cN_nI (by omega)]
      exact x5
    · intro h
      have h' : σ.1 325 p = 10 ∧ σ.1 325 q = 10 ∧ σ.1 384 p = 1 ∧ σ.1 384 q = 1 ∧ mtC σ p q (cN (σ.1 326 p)) (cN (σ.1 326 q)) := Classical.byContradiction (fun z => uB_f z h)
      rw [g1, g3, cN_nI (by omega), cN_nI (by omega)] at h'
      exact ⟨⟨⟨h'.1, h'.2.2.1⟩, h'.2.1, h'.2.2.2.1⟩, h'.2.2.2.2⟩
  cases h1 : muB τ p q <;> cases h2 : uB σ p q
  · rfl
  · rw [h1, h2] at e; exact absurd (e.mpr rfl) (by decide)
  · rw [h1, h2] at e; exact absurd (e.mp rfl) (by decide)
  · rfl
theorem J.unmX (hJ : J m σ τ) : muO τ m m 0 0 = uO σ m m 0 0 := by
  have key : ∀ (r a : Nat) (s : Int32), a + r = m → muO τ m r a s = uO σ m r a s := by
    intro r
    induction r with
    | zero => intro a s _; rfl
    | succ r ih =>
      intro a s h
      rw [muO_succ, uO_succ, ctA_congr (g := uB σ a) (fun i h1 h2 => hJ.muX (by omega) (by omega))]
      exact ih (a + 1) _ (by omega)
  exact key m 0 0 (by omega)
theorem J.hldX (hJ : J m σ τ) : ctA (mhB τ) m 0 0 = ctA (hB σ m) m 0 0 := by
  have hm := hJ.1
  refine ctA_congr (fun i _ hi => ?_)
  have hi : i < m := by omega
  have hlw := hJ.lw hi
  unfold mhB hB
  rw [hlw.1]
  by_cases hw : σ.1 384 i = 2
  · obtain ⟨c, c1, c2⟩ := hlw.2.2.2.1
    have e := hlw.2.1 hw
    rw [c2] at e
    rw [c2, cN_nI (by omega), hJ.t7 c1]
    obtain ⟨ph, g, w, v, a1, -⟩ := hJ.la c1
    have key : (¬ (¬ σ.1 325 c < 5 ∧ ¬ 8 < σ.1 325 c)) ↔ ¬ (σ.1 325 c = 5 ∨ σ.1 325 c = 6 ∨ σ.1 325 c = 7 ∨ σ.1 325 c = 8) := by
      rw [a1.1]
      have h12 := a1.2.2
      have hc : ph = 0 ∨ ph = 1 ∨ ph = 2 ∨ ph = 3 ∨ ph = 4 ∨ ph = 5 ∨ ph = 6 ∨ ph = 7 ∨ ph = 8 ∨ ph = 9 ∨ ph = 10 ∨ ph = 11 ∨ ph = 12 := by omega
      rcases hc with rfl | rfl | rfl | rfl | rfl | rfl | rfl | rfl | rfl | rfl | rfl | rfl | rfl <;> decide
    have ex : (∃ c', c' < m ∧ σ.1 386 i = nI c' ∧ ¬ (¬ σ.1 325 c' < 5 ∧ ¬ 8 < σ.1 325 c')) ↔ ¬ (σ.1 325 c = 5 ∨ σ.1 325 c = 6 ∨ σ.1 325 c = 7 ∨ σ.1 325 c = 8) := by
      constructor
      · rintro ⟨c', d1, d2, d3⟩
        have : c' = c := nI_inj (by omega) (by omega) (d2.symm.trans e.symm)
        subst this
        exact key.mp d3
      · intro h
        exact ⟨c, c1, e.symm, key.mpr h⟩
    by_cases h5 : σ.1 325 c = 5 ∨ σ.1 325 c = 6 ∨ σ.1 325 c = 7 ∨ σ.1 325 c = 8
    · rw [decide_eq_false (p := σ.1 384 i = 2 ∧ _) (fun z => ex.mp z.2 h5)]
      rcases h5 with h | h | h | h <;> simp [h]
    · rw [decide_eq_true (p := σ.1 384 i = 2 ∧ _) ⟨hw, ex.mpr h5⟩]
      simp only [not_or] at h5
      simp [hw, h5.1, h5.2.1, h5.2.2.1, h5.2.2.2]
  · rw [decide_eq_false hw, decide_eq_false (p := σ.1 384 i = 2 ∧ _) (fun z => hw z.1)]
    rfl
theorem flt_sum {f : Nat → Nat} {m : Nat} : ∀ (EL : List Nat), (∀ n ∈ EL, f n < m) → sm (fun p => (EL.filter (fun n => decide (f n = p))).length) m = EL.length := by
  intro EL
  induction EL with
  | nil =>
    intro _
    have : ∀ n, sm (fun _ => 0) n = 0 := by
      intro n
      induction n with
      | zero => rfl
      | succ n ih => show sm _ n + 0 = 0; rw [ih]
    exact this m
  | cons x l ih =>
    intro h
    have h1 := ih (fun n hn => h n (List.mem_cons_of_mem _ hn))
    have h2 := h x List.mem_cons_self
    rw [List.length_cons, ← h1]
    have key : ∀ n, sm (fun p => ((x :: l).filter (fun n => decide (f n = p))).length) n = sm (fun p => (l.filter (fun n => decide (f n = p))).length) n + if f x < n then 1 else 0 := by
      intro n
      induction n with
      | zero => rfl
      | succ n ih2 =>
        show sm _ n + ((x :: l).filter (fun y => decide (f y = n))).length = (sm _ n + (l.filter (fun y => decide (f y = n))).length) + _
        rw [ih2, List.filter_cons]
        by_cases hx : f x = n
        · rw [if_pos (show decide (f x = n) = true from decide_eq_true hx), List.length_cons, if_neg (show ¬ f x < n by omega), if_pos (show f x < n + 1 by omega)]
          omega
        · rw [if_neg (show ¬ decide (f x = n) = true by simp [hx])]
          by_cases hx2 : f x < n
          · rw [if_pos hx2, if_pos (show f x < n + 1 by omega)]; omega
          · rw [if_neg hx2, if_neg (show ¬ f x < n + 1 by omega)]; omega
    rw [key m, if_pos h2]
theorem J.cntX (hJ : J m σ τ) (k : Int32) : mCt τ m k = cnt7 σ m k := by
  have hm := hJ.1
  obtain ⟨g0, g1, g2, g3, g4, g5, g6, g7, g8⟩ := hJ.2.1
  unfold mCt cnt7
  rw [g1, g2, g3, g4, g5, g6]
  have e1 : ctA (fun i => !decide (τ 7 i = 0)) m 0 0 = ctA (fun i => !decide (σ.1 325 i = 0)) m 0 0 := ctA_congr (fun i _ hi => by rw [hJ.t7 (p := i) (by omega)])
  have e5 : τ 31 0 = smA (fun c => nI (sLs σ c).length) 8 0 0 := by
    obtain ⟨EL, hE⟩ := hJ.2.2.2.2.2.2.1
    obtain ⟨x1, x2, x3, x4, x5, x6⟩ := hE
    have hs := flt_sum (f := fun n => cN (σ.1 3 n)) (m := 8) EL (fun n hn => by
      have hn' := x2 n hn
      obtain ⟨-, ⟨c, c1, c2⟩, -⟩ := hJ.2.2.2.2.2.1.1 n hn'.1 hn'.2
      show cN (σ.1 3 n) < 8
      rw [c2, cN_nI (by omega)]; exact c1)
    have hl : ∀ c, c < 8 → (EL.filter (fun n => decide (cN (σ.1 3 n) = c))).length = (sLs σ c).length := fun c hc => by
      rw [x5 c hc]
      congr 1
      refine List.filter_congr (fun n hn => ?_)
      have hn' := x2 n hn
      obtain ⟨-, ⟨c', c1, c2⟩, -⟩ := hJ.2.2.2.2.2.1.1 n hn'.1 hn'.2
      rw [c2, cN_nI (by omega)]
      by_cases hcc : c' = c
      · subst hcc; simp
      · have : ¬ nI c' = nI c := fun z => hcc (nI_inj (by omega) (by omega) z)
        simp [hcc, this]
    rw [x3, ← hs]
    have key : ∀ (r a : Nat) (s : Nat), a + r = 8 → sm (fun c => (EL.filter (fun n => decide (cN (σ.1 3 n) = c))).length) a = s → smA (fun c => nI (sLs σ c).length) r a (nI s) = nI (sm (fun c => (EL.filter (fun n => decide (cN (σ.1 3 n) = c))).length) 8) := by
      intro r
      induction r with
      | zero =>
        intro a s ha hs'
        have : a = 8 := by omega
        subst this
        show nI s = _
        rw [← hs']
      | succ r ih =>
        intro a s ha hs'
        show smA _ r (a + 1) (nI s + nI (sLs σ a).length) = _
        rw [nI_add]
        refine ih (a + 1) _ (by omega) ?_
        show sm _ a + (EL.filter (fun n => decide (cN (σ.1 3 n) = a))).length = _
        rw [hs', hl a (by omega)]
    exact (key 8 0 0 (by omega) rfl).symm
  rw [e1, e5]
end ANSWERS

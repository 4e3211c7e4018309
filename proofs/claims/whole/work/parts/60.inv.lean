/-! ===== sums over the processes ===== -/
def sm (f : Nat → Nat) : Nat → Nat
  | 0 => 0
  | n + 1 => sm f n + f n
theorem sm_le {f g : Nat → Nat} : ∀ {n : Nat}, (∀ i, i < n → f i ≤ g i) → sm f n ≤ sm g n := by
  intro n
  induction n with
  | zero => intro _; exact Nat.le_refl _
  | succ n ih =>
    intro h
    have h1 := ih (fun i hi => h i (by omega))
    have h2 := h n (by omega)
    show sm f n + f n ≤ sm g n + g n
    omega
theorem sm_lt {f g : Nat → Nat} : ∀ {n i : Nat}, i < n → (∀ i, i < n → f i ≤ g i) → f i + 1 ≤ g i → sm f n + 1 ≤ sm g n := by
  intro n
  induction n with
  | zero => intro i hi; omega
  | succ n ih =>
    intro i hi h hs
    show sm f n + f n + 1 ≤ sm g n + g n
    by_cases hin : i = n
    · subst hin
      have h1 := sm_le (n := i) (fun j hj => h j (by omega))
      omega
    · have h1 := ih (i := i) (by omega) (fun j hj => h j (by omega)) hs
      have h2 := h n (by omega)
      omega
theorem sm_bd {f : Nat → Nat} {c : Nat} : ∀ {n : Nat}, (∀ i, i < n → f i ≤ c) → sm f n ≤ c * n := by
  intro n
  induction n with
  | zero => intro _; exact Nat.le_refl _
  | succ n ih =>
    intro h
    have h1 := ih (fun i hi => h i (by omega))
    have h2 := h n (by omega)
    show sm f n + f n ≤ c * (n + 1)
    rw [Nat.mul_succ]
    omega
/-! ===== WHAT CLASS AND MODEL HAVE IN COMMON, and what holds of both ===== -/
/-- t's word is claimed by p -/
def Cw (σ : Sg) (p t : Nat) : Prop := σ.1 384 t = 2 ∧ σ.1 386 t = nI p
/-- the cell of the model's books for t's newest offer -/
def bc (σ : Sg) (t : Nat) : Nat := 1001 * t + cN (σ.1 385 t)
def Z0 (σ : Sg) (τ : Tu) (t : Nat) : Prop := σ.1 337 t = 0 ∧ σ.1 338 t = 0 ∧ τ 39 (bc σ t) = 0 ∧ τ 40 (bc σ t) = 0
def uV (σ : Sg) (p : Nat) : Nat := cN (σ.1 385 p) + if σ.1 337 p = 0 then 0 else 1
def uN (σ : Sg) (p : Nat) : Nat := 8 * cN (σ.1 385 p) + (sPb σ p).length
def JG (m : Nat) (σ : Sg) (τ : Tu) : Prop := τ 0 0 = nI m ∧ τ 1 0 = σ.1 451 0 ∧ τ 2 0 = σ.1 452 0 ∧ τ 3 0 = σ.1 257 0 ∧ τ 4 0 = σ.1 453 0 ∧ τ 5 0 = σ.1 454 0 ∧ τ 6 0 = σ.1 455 0 ∧ σ.1 456 0 = 0 ∧ σ.1 453 0 = nI (sNp σ)
def JB (m : Nat) (σ : Sg) (τ : Tu) : Prop := (∀ i, i < 1600 → τ 38 i = σ.1 900 i) ∧ (∀ k, k < 16016 → dB τ k = false) ∧ (∃ z, σ.1 257 0 = nI z ∧ z ≤ sm (uV σ) m) ∧ ∀ p, p < m → ∀ x, cN (σ.1 385 p) < x → x ≤ 1000 → τ 39 (1001 * p + x) = 0 ∧ τ 40 (1001 * p + x) = 0
def JU (m : Nat) (σ : Sg) (τ : Tu) : Prop := ∀ i, i < 8 * m → τ 9 i = σ.1 128 i ∧ τ 10 i = σ.1 129 i ∧ τ 11 i = σ.1 130 i ∧ τ 12 i = σ.1 131 i ∧ ∃ c, c < 8 ∧ σ.1 129 i = nI c
def JT (m : Nat) (σ : Sg) (τ : Tu) : Prop := ∀ p, p < m → τ 26 p = σ.1 192 p ∧ τ 27 p = σ.1 193 p ∧ τ 28 p = σ.1 194 p ∧ τ 29 p = σ.1 195 p ∧ τ 30 p = σ.1 196 p
def JN (m : Nat) (σ : Sg) : Prop := (∀ n, 1 ≤ n → n ≤ sNp σ → (∃ q, q < m ∧ σ.1 0 n = nI q) ∧ (∃ c, c < 8 ∧ σ.1 3 n = nI c) ∧ ∃ v, v ≤ 1000 ∧ σ.1 1 n = nI v) ∧ sNp σ ≤ sm (uN σ) m
def JEl (m : Nat) (σ : Sg) (τ : Tu) (EL : List Nat) : Prop := EL.Pairwise (· < ·) ∧ (∀ n ∈ EL, 1 ≤ n ∧ n ≤ sNp σ) ∧ τ 31 0 = nI EL.length ∧
  (∀ k n, EL[k]? = some n → τ 32 k = σ.1 0 n ∧ τ 33 k = σ.1 1 n ∧ τ 34 k = σ.1 2 n ∧ τ 35 k = σ.1 4 n ∧ τ 36 k = nI n ∧ τ 37 k = σ.1 3 n) ∧
  (∀ c, c < 8 → sLs σ c = EL.filter (fun n => decide (σ.1 3 n = nI c))) ∧
  (∀ p, p < m → (sPb σ p).drop (cN (σ.1 336 p)) = EL.filter (fun n => decide (σ.1 0 n = nI p)))
def JE (m : Nat) (σ : Sg) (τ : Tu) : Prop := ∃ EL, JEl m σ τ EL
def atO (x : Int32) : Prop := x = -1 ∨ ∃ j, j < 8 ∧ x = nI j
def atF (σ : Sg) (τ : Tu) (p g ph : Nat) : Prop := ∃ j, j < g ∧ σ.1 329 p = nI j ∧ τ 18 p = nI j ∧ ¬ σ.1 131 (8 * p + j) = 0 ∧ (ph = 2 → (sPb σ p).length ≤ j)
def meF (m : Nat) (σ : Sg) (τ : Tu) (p : Nat) : Prop := ∃ n q, sMet σ p = some n ∧ 1 ≤ n ∧ n ≤ sNp σ ∧ σ.1 0 n = nI q ∧ q < m ∧ q ≠ p ∧ τ 21 p = nI q ∧ τ 22 p = σ.1 1 n ∧ τ 23 p = σ.1 4 n
/-- process p but for its word -/
def JLa (m : Nat) (σ : Sg) (τ : Tu) (p : Nat) : Prop := ∃ ph g w v : Nat,
  (σ.1 325 p = nI ph ∧ τ 7 p = nI ph ∧ ph ≤ 12) ∧
  (σ.1 326 p = nI g ∧ τ 8 p = nI g ∧ g ≤ 8) ∧
  τ 13 p = σ.1 327 p ∧
  (σ.1 336 p = nI w ∧ w ≤ (sPb σ p).length ∧ (sPb σ p).length ≤ 8) ∧
  (σ.1 385 p = nI v ∧ τ 16 p = nI v ∧ v ≤ 1000) ∧
  atO (τ 18 p) ∧
  (2 ≤ ph → τ 14 p = σ.1 328 p) ∧
  (2 ≤ ph ∧ ph ≤ 8 → atF σ τ p g ph) ∧
  (3 ≤ ph ∧ ph ≤ 8 → τ 19 p = σ.1 330 p) ∧
  (2 ≤ ph ∧ ph ≤ 10 → τ 20 p = σ.1 332 p) ∧
  (ph = 10 → σ.1 332 p = 0) ∧
  (4 ≤ ph ∧ ph ≤ 8 → meF m σ τ p) ∧
  (ph = 6 → τ 24 p = σ.1 333 p) ∧
  (ph ≤ 1 ∨ ph = 12 → w = (sPb σ p).length) ∧ (ph = 11 → w < (sPb σ p).length)
/-- its word -/
def JLw (m : Nat) (σ : Sg) (τ : Tu) (p : Nat) : Prop :=
  τ 15 p = σ.1 384 p ∧ (σ.1 384 p = 2 → τ 17 p = σ.1 386 p) ∧ (¬ σ.1 384 p = 2 → σ.1 386 p = -1) ∧ (∃ c, c < m ∧ τ 17 p = nI c) ∧
  (σ.1 325 p = 0 ∨ σ.1 325 p = 1 → σ.1 384 p = 0) ∧ (σ.1 325 p = 11 ∨ σ.1 325 p = 12 → σ.1 384 p = 3 ∨ σ.1 384 p = 4) ∧
  (¬ (σ.1 325 p = 0 ∨ σ.1 325 p = 1) → (σ.1 384 p = 4 → σ.1 334 p = if τ 25 p = 0 then 5 else 3) ∧ (¬ σ.1 384 p = 4 → τ 25 p = 0)) ∧
  (σ.1 325 p = 6 → ¬ σ.1 333 p = 0 → σ.1 384 p = 3 ∨ σ.1 384 p = 4) ∧
  (σ.1 384 p = 1 → Z0 σ τ p)
/-- what it claims -/
def JX (m : Nat) (σ : Sg) (τ : Tu) (p : Nat) : Prop :=
  (σ.1 325 p = 5 ∨ σ.1 325 p = 6 → ∃ n q, sMet σ p = some n ∧ σ.1 0 n = nI q ∧ q < m ∧ Cw σ p (loT p q) ∧ σ.1 385 (loT p q) = vs σ p (loT p q) n ∧ Z0 σ τ (loT p q)) ∧
  (σ.1 325 p = 7 → ∃ n q, sMet σ p = some n ∧ σ.1 0 n = nI q ∧ q < m ∧ Cw σ p p ∧ Cw σ p q) ∧
  (σ.1 325 p = 8 → Cw σ p p)
def J (m : Nat) (σ : Sg) (τ : Tu) : Prop := (2 ≤ m ∧ m ≤ 16) ∧ JG m σ τ ∧ JB m σ τ ∧ JU m σ τ ∧ JT m σ τ ∧ JN m σ ∧ JE m σ τ ∧ ∀ p, p < m → JLa m σ τ p ∧ JLw m σ τ p ∧ JX m σ τ p
theorem loT_lt {p q m : Nat} (hp : p < m) (hq : q < m) : loT p q < m := by unfold loT; split <;> assumption
theorem hiT_lt {p q m : Nat} (hp : p < m) (hq : q < m) : hiT p q < m := by unfold hiT; split <;> assumption
theorem nI_inj {a b : Nat} (h1 : a < 2 ^ 31) (h2 : b < 2 ^ 31) (h : nI a = nI b) : a = b := (nI_eq h1 h2).mp h
section STEP
variable {m : Nat} {σ : Sg} {τ : Tu} {σ' : Sg} {τ' : Tu} {p : Nat}
theorem JLa.keep (hL : JLa m σ τ p) (h1 : ∀ f, 325 ≤ f → f ≤ 336 → f ≠ 334 → σ'.1 f p = σ.1 f p) (h2 : σ'.1 385 p = σ.1 385 p) (h3 : sMet σ' p = sMet σ p) (h4 : sPb σ' p = sPb σ p) (h5 : ∀ j, j < 8 → σ'.1 131 (8 * p + j) = σ.1 131 (8 * p + j)) (h6 : ∀ f n, f < 5 → n ≤ sNp σ → σ'.1 f n = σ.1 f n) (h7 : sNp σ ≤ sNp σ') (h8 : ∀ k, k = 7 ∨ k = 8 ∨ k = 13 ∨ k = 14 ∨ k = 16 ∨ (18 ≤ k ∧ k ≤ 24) → τ' k p = τ k p) : JLa m σ' τ' p := by
  obtain ⟨ph, g, w, v, a1, a2, a3, a4, a5, a6, a7, a8, a9, a10, a11, a12, a13, a14, a15⟩ := hL
  refine ⟨ph, g, w, v, ?_, ?_, ?_, ?_, ?_, ?_, ?_, ?_, ?_, ?_, ?_, ?_, ?_, ?_, ?_⟩
  · rw [h1 325 (by omega) (by omega) (by omega), h8 7 (by omega)]; exact a1
  · rw [h1 326 (by omega) (by omega) (by omega), h8 8 (by omega)]; exact a2
  · rw [h1 327 (by omega) (by omega) (by omega), h8 13 (by omega)]; exact a3
  · rw [h1 336 (by omega) (by omega) (by omega), h4]; exact a4
  · rw [h2, h8 16 (by omega)]; exact a5
  · rw [h8 18 (by omega)]; exact a6
  · rw [h1 328 (by omega) (by omega) (by omega), h8 14 (by omega)]; exact a7
  · intro hh
    obtain ⟨j, b1, b2, b3, b4, b5⟩ := a8 hh
    exact ⟨j, b1, by rw [h1 329 (by omega) (by omega) (by omega)]; exact b2, by rw [h8 18 (by omega)]; exact b3, by rw [h5 j (by omega)]; exact b4, by rw [h4]; exact b5⟩
  · rw [h1 330 (by omega) (by omega) (by omega), h8 19 (by omega)]; exact a9
  · rw [h1 332 (by omega) (by omega) (by omega), h8 20 (by omega)]; exact a10
  · rw [h1 332 (by omega) (by omega) (by omega)]; exact a11
  · intro hh
    obtain ⟨n, q, b1, b2, b3, b4, b5, b6, b7, b8, b9⟩ := a12 hh
    exact ⟨n, q, by rw [h3]; exact b1, b2, Nat.le_trans b3 h7, by rw [h6 0 n (by omega) b3]; exact b4, b5, b6, by rw [h8 21 (by omega)]; exact b7, by rw [h8 22 (by omega), h6 1 n (by omega) b3]; exact b8, by rw [h8 23 (by omega), h6 4 n (by omega) b3]; exact b9⟩
  · rw [h8 24 (by omega), h1 333 (by omega) (by omega) (by omega)]; exact a13
  · rw [h4]; exact a14
  · rw [h4]; exact a15
theorem JLw.keep (hL : JLw m σ τ p) (h1 : σ'.1 325 p = σ.1 325 p ∧ σ'.1 333 p = σ.1 333 p ∧ σ'.1 334 p = σ.1 334 p ∧ σ'.1 385 p = σ.1 385 p) (h2 : (σ'.1 384 p = σ.1 384 p ∧ σ'.1 386 p = σ.1 386 p ∧ σ'.1 337 p = σ.1 337 p ∧ σ'.1 338 p = σ.1 338 p) ∧ τ' 15 p = τ 15 p ∧ τ' 17 p = τ 17 p ∧ τ' 39 (bc σ p) = τ 39 (bc σ p) ∧ τ' 40 (bc σ p) = τ 40 (bc σ p)) (h3 : τ' 25 p = τ 25 p) : JLw m σ' τ' p := by
  obtain ⟨b1, b2, b3, b4⟩ := h1
  obtain ⟨⟨c1, c2, c3, c4⟩, c5, c6, c7, c8⟩ := h2
  have e : bc σ' p = bc σ p := by unfold bc; rw [b4]
  unfold JLw Z0 at *
  rw [b1, b2, b3, c1, c2, c3, c4, c5, c6, h3, e, c7, c8]
  exact hL
theorem JX.keep {P : Nat → Prop} {s0 : Nat} (hX : JX m σ τ p) (hp16 : p < m) (hm : m ≤ 16) (hps : p ≠ s0) (hs16 : s0 < 16) (h1 : σ'.1 325 p = σ.1 325 p) (h2 : sMet σ' p = sMet σ p) (hE : σ.1 325 p = 5 ∨ σ.1 325 p = 6 ∨ σ.1 325 p = 7 → ∀ n, sMet σ p = some n → σ'.1 0 n = σ.1 0 n ∧ σ'.1 1 n = σ.1 1 n) (hV : ∀ r, r < m → ¬ P r → σ'.1 385 r = σ.1 385 r)
    (hW : ∀ r, r < m → ¬ P r → (σ'.1 384 r = σ.1 384 r ∧ σ'.1 386 r = σ.1 386 r ∧ σ'.1 337 r = σ.1 337 r ∧ σ'.1 338 r = σ.1 338 r) ∧ τ' 39 (bc σ r) = τ 39 (bc σ r) ∧ τ' 40 (bc σ r) = τ 40 (bc σ r)) (hC : ∀ t, P t → σ.1 384 t = 2 → σ.1 386 t = nI s0) (hpp : ¬ P p ∨ σ'.1 385 p = σ.1 385 p) : JX m σ' τ' p := by
  have off : ∀ t, Cw σ p t → ¬ P t := fun t hc hP => by
    have := hC t hP hc.1
    rw [hc.2] at this
    exact hps (nI_inj (by omega) (by omega) this)
  have cw : ∀ t, t < m → Cw σ p t → Cw σ' p t := fun t ht hc => by
    have q := (hW t ht (off t hc)).1
    unfold Cw
    rw [q.1, q.2.1]
    exact hc
  have z0 : ∀ t, t < m → Cw σ p t → Z0 σ τ t → Z0 σ' τ' t := fun t ht hc hz => by
    have hn := off t hc
    have q := hW t ht hn
    have e : bc σ' t = bc σ t := by unfold bc; rw [hV t ht hn]
    unfold Z0 at *
    rw [q.1.2.2.1, q.1.2.2.2, e, q.2.1, q.2.2]
    exact hz
  obtain ⟨x1, x2, x3⟩ := hX
  refine ⟨fun hh => ?_, fun hh => ?_, fun hh => ?_⟩
  · rw [h1] at hh
    obtain ⟨n, q, y1, y2, y3, y4, y5, y6⟩ := x1 hh
    have hlt : loT p q < m := loT_lt hp16 y3
    have e2 := hE (by rcases hh with h | h; exact Or.inl h; exact Or.inr (Or.inl h)) n y1
    refine ⟨n, q, by rw [h2]; exact y1, by rw [e2.1]; exact y2, y3, cw _ hlt y4, ?_, z0 _ hlt y4 y6⟩
    unfold vs at *
    rw [hV _ hlt (off _ y4), e2.2]
    by_cases hl : loT p q = p
    · rw [if_pos hl] at y5 ⊢
      have hnp : ¬ P p := by have := off _ y4; rwa [hl] at this
      rw [hV p hp16 hnp]
      exact y5
    · rw [if_neg hl] at y5 ⊢
      exact y5
  · rw [h1] at hh
    obtain ⟨n, q, y1, y2, y3, y4, y5⟩ := x2 hh
    exact ⟨n, q, by rw [h2]; exact y1, by rw [(hE (Or.inr (Or.inr hh)) n y1).1]; exact y2, y3, cw _ hp16 y4, cw _ y3 y5⟩
  · rw [h1] at hh
    exact cw _ hp16 (x3 hh)
/-- p goes a step that changes no entry: T holds the processes whose words it changes -/
theorem J.step (hJ : J m σ τ) (hp : p < m) (T : Nat → Prop) (hG : JG m σ' τ') (hB : JB m σ' τ') (hT : JT m σ' τ')
    (hU : ∀ f i, f < 5 ∨ (128 ≤ f ∧ f < 132) → σ'.1 f i = σ.1 f i) (hU2 : ∀ k i, (9 ≤ k ∧ k ≤ 12) ∨ (31 ≤ k ∧ k ≤ 37) → τ' k i = τ k i)
    (hL : σ'.2.2 = σ.2.2) (hV : ∀ r, σ'.1 385 r = σ.1 385 r ∧ τ' 16 r = τ 16 r ∧ σ'.1 336 r = σ.1 336 r)
    (hO : ∀ r f, r ≠ p → 325 ≤ f → f ≤ 334 → σ'.1 f r = σ.1 f r) (hM : ∀ r, r ≠ p → sMet σ' r = sMet σ r)
    (hO2 : ∀ r k, r ≠ p → (k = 7 ∨ k = 8 ∨ k = 13 ∨ k = 14 ∨ (18 ≤ k ∧ k ≤ 25)) → τ' k r = τ k r)
    (hW : ∀ r, r < m → ¬ T r → (σ'.1 384 r = σ.1 384 r ∧ σ'.1 386 r = σ.1 386 r ∧ σ'.1 337 r = σ.1 337 r ∧ σ'.1 338 r = σ.1 338 r) ∧ τ' 15 r = τ 15 r ∧ τ' 17 r = τ 17 r ∧ τ' 39 (bc σ r) = τ 39 (bc σ r) ∧ τ' 40 (bc σ r) = τ 40 (bc σ r))
    (hC : ∀ t, T t → σ.1 384 t = 2 → σ.1 386 t = nI p) (hTw : ∀ t, t < m → T t → t ≠ p → JLw m σ' τ' t)
    (ha : JLa m σ' τ' p) (hw : JLw m σ' τ' p) (hx : JX m σ' τ' p) : J m σ' τ' := by
  obtain ⟨hm, jG, jB, jU, jT, jN, jE, jL⟩ := hJ
  have eP : ∀ r, sPb σ' r = sPb σ r := fun r => by show σ'.2.2.2.1 r = _; rw [hL]
  have eL : ∀ c, sLs σ' c = sLs σ c := fun c => by show σ'.2.2.1 c = _; rw [hL]
  have eN : sNp σ' = sNp σ := by show σ'.2.2.2.2 = _; rw [hL]
  have O336 : ∀ r f, r ≠ p → 325 ≤ f → f ≤ 336 → f ≠ 335 → σ'.1 f r = σ.1 f r := fun r f hr h1 h2 h3 => by
    by_cases h36 : f = 336
    · subst h36; exact (hV r).2.2
    · exact hO r f hr h1 (by omega)
  refine ⟨hm, hG, hB, fun i hi => ?_, hT, ⟨fun n h1 h2 => ?_, ?_⟩, ?_, fun r hr => ?_⟩
  · rw [hU 128 i (by omega), hU 129 i (by omega), hU 130 i (by omega), hU 131 i (by omega), hU2 9 i (by omega), hU2 10 i (by omega), hU2 11 i (by omega), hU2 12 i (by omega)]
    exact jU i hi
  · rw [hU 0 n (by omega), hU 3 n (by omega), hU 1 n (by omega)]
    exact jN.1 n h1 (by rw [← eN]; exact h2)
  · have : uN σ' = uN σ := by funext r; unfold uN; rw [(hV r).1, eP]
    rw [eN, this]; exact jN.2
  · obtain ⟨EL, e1, e2, e3, e4, e5, e6⟩ := jE
    refine ⟨EL, e1, fun n hn => ?_, ?_, fun k n hk => ?_, fun c hc => ?_, fun r hr => ?_⟩
    · rw [eN]; exact e2 n hn
    · rw [hU2 31 0 (by omega)]; exact e3
    · rw [hU2 32 k (by omega), hU2 33 k (by omega), hU2 34 k (by omega), hU2 35 k (by omega), hU2 36 k (by omega), hU2 37 k (by omega), hU 0 n (by omega), hU 1 n (by omega), hU 2 n (by omega), hU 3 n (by omega), hU 4 n (by omega)]
      exact e4 k n hk
    · rw [eL, e5 c hc]
      have : (fun n => decide (σ'.1 3 n = nI c)) = fun n => decide (σ.1 3 n = nI c) := by funext n; rw [hU 3 n (by omega)]
      rw [this]
    · rw [eP, (hV r).2.2, e6 r hr]
      have : (fun n => decide (σ'.1 0 n = nI r)) = fun n => decide (σ.1 0 n = nI r) := by funext n; rw [hU 0 n (by omega)]
      rw [this]
  · by_cases hrp : r = p
    · subst hrp; exact ⟨ha, hw, hx⟩
    · obtain ⟨l1, l2, l3⟩ := jL r hr
      have q325 := hO r 325 hrp (by omega) (by omega)
      refine ⟨?_, ?_, ?_⟩
      · obtain ⟨ph, g, w, v, a1, a2, a3, a4, a5, a6, a7, a8, a9, a10, a11, a12, a13, a14, a15⟩ := l1
        have h8 := hO2 r
        refine ⟨ph, g, w, v, ?_, ?_, ?_, ?_, ?_, ?_, ?_, ?_, ?_, ?_, ?_, ?_, ?_, ?_, ?_⟩
        · rw [q325, h8 7 hrp (by omega)]; exact a1
        · rw [hO r 326 hrp (by omega) (by omega), h8 8 hrp (by omega)]; exact a2
        · rw [hO r 327 hrp (by omega) (by omega), h8 13 hrp (by omega)]; exact a3
        · rw [(hV r).2.2, eP]; exact a4
        · rw [(hV r).1, (hV r).2.1]; exact a5
        · rw [h8 18 hrp (by omega)]; exact a6
        · rw [hO r 328 hrp (by omega) (by omega), h8 14 hrp (by omega)]; exact a7
        · intro hh
          obtain ⟨j, b1, b2, b3, b4, b5⟩ := a8 hh
          exact ⟨j, b1, by rw [hO r 329 hrp (by omega) (by omega)]; exact b2, by rw [h8 18 hrp (by omega)]; exact b3, by rw [hU 131 _ (by omega)]; exact b4, by rw [eP]; exact b5⟩
        · rw [hO r 330 hrp (by omega) (by omega), h8 19 hrp (by omega)]; exact a9
        · rw [hO r 332 hrp (by omega) (by omega), h8 20 hrp (by omega)]; exact a10
        · rw [hO r 332 hrp (by omega) (by omega)]; exact a11
        · intro hh
          obtain ⟨n, q, b1, b2, b3, b4, b5, b6, b7, b8, b9⟩ := a12 hh
          exact ⟨n, q, by rw [hM r hrp]; exact b1, b2, by rw [eN]; exact b3, by rw [hU 0 n (by omega)]; exact b4, b5, b6, by rw [h8 21 hrp (by omega)]; exact b7, by rw [h8 22 hrp (by omega), hU 1 n (by omega)]; exact b8, by rw [h8 23 hrp (by omega), hU 4 n (by omega)]; exact b9⟩
        · rw [h8 24 hrp (by omega), hO r 333 hrp (by omega) (by omega)]; exact a13
        · rw [eP]; exact a14
        · rw [eP]; exact a15
      · by_cases hTr : T r
        · exact hTw r hr hTr hrp
        · exact l2.keep ⟨q325, hO r 333 hrp (by omega) (by omega), hO r 334 hrp (by omega) (by omega), (hV r).1⟩ (hW r hr hTr) (hO2 r 25 hrp (by omega))
      · exact l3.keep (m := m) (P := T) (s0 := p) hr hm.2 hrp (by omega) q325 (hM r hrp) (fun _ n _ => ⟨hU 0 n (by omega), hU 1 n (by omega)⟩) (fun r _ _ => (hV r).1) (fun r h1 h2 => ⟨(hW r h1 h2).1, (hW r h1 h2).2.2.2⟩) hC (Or.inr (hV r).1)
end STEP

/-! ===== the model's steps as functions of its state ===== -/
theorem e88 (p j : Nat) : 8 * nI p + nI j = nI (8 * p + j) := by
  rw [show (8 : Int32) = nI 8 from rfl, pk_mul, nI_add]
theorem e8m (p : Nat) : 8 * nI p = nI (8 * p) := by
  rw [show (8 : Int32) = nI 8 from rfl, pk_mul]
theorem e1001 (p j : Nat) : 1001 * nI p + nI j = nI (1001 * p + j) := by
  rw [show (1001 : Int32) = nI 1001 from rfl, pk_mul, nI_add]
/-- the first place from a on, of n, with P -/
def fBy (P : Nat → Bool) : Nat → Nat → Option Nat
  | 0, _ => none
  | n + 1, a => if P a then some a else fBy P n (a + 1)
theorem fBy_succ (P : Nat → Bool) (n a : Nat) : fBy P (n + 1) a = if P a then some a else fBy P n (a + 1) := rfl
theorem fBy_some {P : Nat → Bool} : ∀ {n a j : Nat}, fBy P n a = some j → a ≤ j ∧ j < a + n ∧ P j = true ∧ ∀ i, a ≤ i → i < j → ¬ P i = true := by
  intro n
  induction n with
  | zero => intro a j h; simp [fBy] at h
  | succ n ih =>
    intro a j h
    rw [fBy_succ] at h
    by_cases hf : P a = true
    · rw [if_pos hf] at h
      cases h
      exact ⟨Nat.le_refl _, by omega, hf, fun i h1 h2 => by omega⟩
    · rw [if_neg hf] at h
      obtain ⟨h1, h2, h3, h4⟩ := ih h
      refine ⟨by omega, by omega, h3, fun i g1 g2 => ?_⟩
      rcases Nat.lt_or_ge a i with q | q
      · exact h4 i q g2
      · rw [show i = a by omega]; exact hf
theorem fBy_none {P : Nat → Bool} : ∀ {n a : Nat}, fBy P n a = none → ∀ i, a ≤ i → i < a + n → ¬ P i = true := by
  intro n
  induction n with
  | zero => intro a h i h1 h2; omega
  | succ n ih =>
    intro a h i h1 h2
    rw [fBy_succ] at h
    by_cases hf : P a = true
    · rw [if_pos hf] at h; cases h
    · rw [if_neg hf] at h
      rcases Nat.lt_or_ge a i with q | q
      · exact ih h i q (by omega)
      · rw [show i = a by omega]; exact hf
def mEmp (τ : Tu) (p : Nat) : Tu := ut (ut (ut τ 7 p 1) 8 p 0) 13 p 0
def mNx (τ : Tu) (p a : Nat) : Option Nat := fOn (fun j => τ 12 (8 * p + j)) (cN (τ 8 p) - a) a
def mEn (τ : Tu) : Nat := cN (τ 31 0)
def mOwn (τ : Tu) (p : Nat) : Option Nat := fBy (fun k => decide (τ 32 k = nI p)) (mEn τ) 0
def mWd (τ : Tu) (p : Nat) : Tu := ut τ 7 p (if (mOwn τ p).isSome then 11 else 12)
def mLk (τ : Tu) (p : Nat) (o : Option Nat) : Tu := ut (ut (ut τ 18 p (oI o)) 19 p 0) 7 p (if o = none then 9 else 3)
def mTryY (τ : Tu) (p t : Nat) : Tu := ut (ut (ut τ 5 0 (τ 5 0 + 1)) 15 t 2) 17 t (nI p)
def mTryN (τ : Tu) : Tu := ut (ut τ 5 0 (τ 5 0 + 1)) 6 0 (τ 6 0 + 1)
abbrev mEd (τ : Tu) (p : Nat) : Prop := τ 15 p = 3 ∨ τ 15 p = 4
def mBs (τ : Tu) (p t : Nat) (v : Int32) : Tu := if τ 15 t = 2 ∧ τ 16 t = v then ut τ 20 p 1 else τ
def mVs (τ : Tu) (p t : Nat) : Int32 := if t = p then τ 16 p else τ 22 p
abbrev mTok (τ : Tu) (t : Nat) (v : Int32) : Prop := τ 15 t = 1 ∧ τ 16 t = v
/-- the model's entry at the end of its rows -/
def mPb (τ : Tu) (p j e : Nat) : Tu :=
  ut (ut (ut (ut (ut (ut (ut (ut τ 4 0 (τ 4 0 + 1)) 32 e (nI p)) 33 e (τ 16 p)) 34 e (τ 9 (8 * p + j))) 35 e (τ 11 (8 * p + j))) 36 e (τ 4 0 + 1)) 37 e (τ 10 (8 * p + j))) 31 0 (τ 31 0 + 1)
/-- rows e .. a are moved down by one -/
def shf (τ : Tu) (e a : Nat) : Tu := fun k i => if (32 ≤ k ∧ k ≤ 37) ∧ e ≤ i ∧ i < a then τ k (i + 1) else τ k i
theorem shf_at (τ : Tu) (e a k i : Nat) (h : a ≤ i) : shf τ e a k i = τ k i := by unfold shf; rw [if_neg (by omega)]
theorem shf_k (τ : Tu) (e a k i : Nat) (h : k < 32 ∨ 37 < k) : shf τ e a k i = τ k i := by unfold shf; rw [if_neg (by omega)]
theorem shf_0 (τ : Tu) (e : Nat) : shf τ e e = τ := by funext k i; unfold shf; rw [if_neg (by omega)]
theorem shf_s (τ : Tu) {e a : Nat} (h : e ≤ a) : ut (ut (ut (ut (ut (ut (shf τ e a) 32 a (τ 32 (a + 1))) 33 a (τ 33 (a + 1))) 34 a (τ 34 (a + 1))) 35 a (τ 35 (a + 1))) 36 a (τ 36 (a + 1))) 37 a (τ 37 (a + 1)) = shf τ e (a + 1) := by
  funext k i
  by_cases hi : i = a
  · subst hi
    by_cases hk : 32 ≤ k ∧ k ≤ 37
    · have : k = 32 ∨ k = 33 ∨ k = 34 ∨ k = 35 ∨ k = 36 ∨ k = 37 := by omega
      rcases this with rfl | rfl | rfl | rfl | rfl | rfl <;> simp [ut, shf, h]
    · have h1 : ¬ k = 32 := by omega
      have h2 : ¬ k = 33 := by omega
      have h3 : ¬ k = 34 := by omega
      have h4 : ¬ k = 35 := by omega
      have h5 : ¬ k = 36 := by omega
      have h6 : ¬ k = 37 := by omega
      simp [ut, shf, h1, h2, h3, h4, h5, h6, hk]
  · have : (i < a + 1) = (i < a) := by apply propext; omega
    simp [ut, shf, hi, this]
def mRem (τ : Tu) (e : Nat) : Tu := shf (ut τ 31 0 (τ 31 0 - 1)) e (mEn τ - 1)
theorem ia_7 : isMA 7 := by unfold isMA; omega
theorem ia_8 : isMA 8 := by unfold isMA; omega
theorem ia_9 : isMA 9 := by unfold isMA; omega
theorem ia_10 : isMA 10 := by unfold isMA; omega
theorem ia_11 : isMA 11 := by unfold isMA; omega
theorem ia_12 : isMA 12 := by unfold isMA; omega
theorem ia_13 : isMA 13 := by unfold isMA; omega
theorem ia_14 : isMA 14 := by unfold isMA; omega
theorem ia_15 : isMA 15 := by unfold isMA; omega
theorem ia_16 : isMA 16 := by unfold isMA; omega
theorem ia_17 : isMA 17 := by unfold isMA; omega
theorem ia_18 : isMA 18 := by unfold isMA; omega
theorem ia_19 : isMA 19 := by unfold isMA; omega
theorem ia_20 : isMA 20 := by unfold isMA; omega
theorem ia_21 : isMA 21 := by unfold isMA; omega
theorem ia_22 : isMA 22 := by unfold isMA; omega
theorem ia_23 : isMA 23 := by unfold isMA; omega
theorem ia_24 : isMA 24 := by unfold isMA; omega
theorem ia_25 : isMA 25 := by unfold isMA; omega
theorem ia_26 : isMA 26 := by unfold isMA; omega
theorem ia_27 : isMA 27 := by unfold isMA; omega
theorem ia_28 : isMA 28 := by unfold isMA; omega
theorem ia_29 : isMA 29 := by unfold isMA; omega
theorem ia_30 : isMA 30 := by unfold isMA; omega
theorem ia_32 : isMA 32 := by unfold isMA; omega
theorem ia_33 : isMA 33 := by unfold isMA; omega
theorem ia_34 : isMA 34 := by unfold isMA; omega
theorem ia_35 : isMA 35 := by unfold isMA; omega
theorem ia_36 : isMA 36 := by unfold isMA; omega
theorem ia_37 : isMA 37 := by unfold isMA; omega
theorem ia_38 : isMA 38 := by unfold isMA; omega
theorem ia_39 : isMA 39 := by unfold isMA; omega
theorem ia_40 : isMA 40 := by unfold isMA; omega
def mLooP (τ : Tu) (p j : Nat) (k : Nat) : Bool := decide (τ 37 k = τ 10 (8 * p + j)) && decide (τ 19 p < τ 36 k)
def mLoo (τ : Tu) (p j : Nat) : Tu := match fBy (mLooP τ p j) (mEn τ) 0 with
  | none => mLk τ p (mNx τ p (j + 1))
  | some k => if τ 32 k = nI p ∨ τ 34 k = τ 9 (8 * p + j) then ut τ 19 p (τ 36 k) else ut (ut (ut (ut (ut τ 19 p (τ 36 k)) 21 p (τ 32 k)) 22 p (τ 33 k)) 23 p (τ 35 k)) 7 p 4
def mClm (τ : Tu) (p q : Nat) : Tu := if mTok τ (loT p q) (mVs τ p (loT p q)) then ut (mTryY τ p (loT p q)) 7 p 5 else if loT p q = p ∧ mEd τ p then mWd (mTryN τ) p else ut (mBs (mTryN τ) p (loT p q) (mVs τ p (loT p q))) 7 p 3
def mBk1 (τ : Tu) (p v1 : Nat) : Tu := ut τ 39 (1001 * p + v1) (τ 39 (1001 * p + v1) + 1)
def mRow (τ : Tu) (p q j z : Nat) : Tu :=
  ut (ut (ut (ut (ut (ut (ut (ut τ 38 (8 * z) (nI p)) 38 (8 * z + 1) (nI q)) 38 (8 * z + 2) (τ 10 (8 * p + j))) 38 (8 * z + 3) (if τ 9 (8 * p + j) = 0 then τ 11 (8 * p + j) else τ 23 p)) 38 (8 * z + 4) (if τ 9 (8 * p + j) = 0 then nI p else nI q)) 38 (8 * z + 5) (τ 16 p)) 38 (8 * z + 6) (τ 22 p)) 38 (8 * z + 7) (τ 2 0)
def mMt (τ : Tu) (p q j : Nat) : Tu :=
  if cN (τ 3 0) < 200 then ut (mRow (mBk1 (mBk1 τ p (cN (τ 16 p))) q (cN (τ 22 p))) p q j (cN (τ 3 0))) 3 0 (τ 3 0 + 1) else ut (mBk1 (mBk1 τ p (cN (τ 16 p))) q (cN (τ 22 p))) 3 0 (τ 3 0 + 1)
def mSec (τ : Tu) (p q j : Nat) : Tu :=
  if mTok τ (hiT p q) (mVs τ p (hiT p q)) then ut (mMt (mTryY (ut τ 24 p 0) p (hiT p q)) p q j) 7 p 7
  else ut (mBs (ut (mTryN (ut τ 24 p 0)) 24 p (if hiT p q = p ∧ mEd τ p then 1 else 0)) p (hiT p q) (mVs τ p (hiT p q))) 7 p 6
def mTl (τ : Tu) (t : Nat) (b v : Int32) : Tu := ut (ut (ut (ut (ut τ 15 t 3) 26 t 1) 27 t b) 29 t v) 30 t (τ 16 t)
def mGo (τ : Tu) (p : Nat) : Tu := ut (ut τ 15 p 4) 40 (1001 * p + cN (τ 16 p)) 1
def mEnds (τ : Tu) (p : Nat) : Tu := if τ 15 p = 1 then mWd (ut (mGo τ p) 25 p 1) p else if τ 15 p = 3 then mWd τ p else τ
def mRst (τ : Tu) (p : Nat) : Tu := if τ 7 p = 11 then mWd (mRem τ ((mOwn τ p).getD 0)) p else if mEd τ p then mWd τ p else if (τ 7 p = 9 ∧ ¬ τ 20 p = 0) ∧ ¬ mNx τ p 0 = none then mLk (ut τ 20 p 0) p (mNx τ p 0) else ut (ut τ 20 p 0) 7 p 10
def mPubF (t1 : Tu) (p j : Nat) : Tu := match mNx t1 p (j + 1) with
  | none => mLk (ut t1 18 p (-1)) p (mNx t1 p 0)
  | some i => ut t1 18 p (nI i)
def mPub (τ : Tu) (p j : Nat) : Tu := mPubF (mPb τ p j (mEn τ)) p j
def mBck (τ : Tu) (p q : Nat) : Tu := if τ 24 p = 0 then ut (ut τ 15 (loT p q) 1) 7 p 3 else mWd (ut τ 15 (loT p q) 1) p
def mTel (τ : Tu) (p q j : Nat) : Tu := ut (ut (mTl τ q (nI p) (if τ 9 (8 * p + j) = 0 then τ 11 (8 * p + j) else 0)) 28 q (τ 10 (8 * p + j))) 7 p 8
def mOwo (τ : Tu) (p q j : Nat) : Tu := mWd (ut (mTl τ p (nI q) (if τ 9 (8 * p + j) = 1 then τ 23 p else 0)) 28 p (τ 10 (8 * p + j))) p
def mPh (τ : Tu) (p q j : Nat) : Tu := if τ 7 p = 2 then mPub τ p j else if τ 7 p = 3 then mLoo τ p j else if τ 7 p = 4 then mClm τ p q else if τ 7 p = 5 then mSec τ p q j else if τ 7 p = 6 then mBck τ p q else if τ 7 p = 7 then mTel τ p q j else if τ 7 p = 8 then mOwo τ p q j else mRst τ p
def mT1 (τ : Tu) (p : Nat) : Tu := if (τ 7 p = 2 ∨ τ 7 p = 3 ∨ τ 7 p = 9 ∨ τ 7 p = 10) ∧ ¬ τ 14 p = -1 ∧ ¬ τ 1 0 < τ 14 p then mEnds τ p else mPh τ p (cN (τ 21 p)) (cN (τ 18 p))
def mTrn (τ : Tu) (p : Nat) : Tu := mT1 (ut τ 2 0 (τ 2 0 + 1)) p
/-- what turns needs of the state -/
def MO (m : Nat) (τ : Tu) (p : Nat) : Prop := ∃ g e v1 z : Nat, (τ 8 p = nI g ∧ g ≤ 8) ∧ (τ 31 0 = nI e ∧ e ≤ 129) ∧ (τ 16 p = nI v1 ∧ v1 ≤ 1000) ∧ (τ 3 0 = nI z ∧ z < 2 ^ 30) ∧
  (¬ τ 7 p < 2 ∧ ¬ 8 < τ 7 p → ∃ j, j < 8 ∧ τ 18 p = nI j) ∧ (τ 18 p = -1 ∨ ∃ j, j < 8 ∧ τ 18 p = nI j) ∧
  (¬ τ 7 p < 4 ∧ ¬ 8 < τ 7 p → ∃ q v2, q < m ∧ τ 21 p = nI q ∧ q ≠ p ∧ τ 22 p = nI v2 ∧ v2 ≤ 1000) ∧ (τ 7 p = 11 → ∃ k, mOwn τ p = some k) ∧ (τ 7 p = 2 → e < 129)

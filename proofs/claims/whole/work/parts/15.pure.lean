/-! ===== numbers and small searches ===== -/
def oI (o : Option Nat) : Int32 := match o with
  | none => -1
  | some j => nI j
/-- the first place from a on, of n, where f isn't 0 -/
def fOn (f : Nat → Int32) : Nat → Nat → Option Nat
  | 0, _ => none
  | n + 1, a => if f a = 0 then fOn f n (a + 1) else some a
theorem fOn_succ (f : Nat → Int32) (n a : Nat) : fOn f (n + 1) a = if f a = 0 then fOn f n (a + 1) else some a := rfl
theorem fOn_some {f : Nat → Int32} : ∀ {n a j : Nat}, fOn f n a = some j → a ≤ j ∧ j < a + n ∧ ¬ f j = 0 := by
  intro n
  induction n with
  | zero => intro a j h; simp [fOn] at h
  | succ n ih =>
    intro a j h
    unfold fOn at h
    by_cases hf : f a = 0
    · rw [if_pos hf] at h
      obtain ⟨h1, h2, h3⟩ := ih h
      exact ⟨by omega, by omega, h3⟩
    · rw [if_neg hf] at h
      cases h
      exact ⟨Nat.le_refl _, by omega, hf⟩
theorem fOn_none {f : Nat → Int32} : ∀ {n a : Nat}, fOn f n a = none → ∀ j, a ≤ j → j < a + n → f j = 0 := by
  intro n
  induction n with
  | zero => intro a h j h1 h2; omega
  | succ n ih =>
    intro a h j h1 h2
    unfold fOn at h
    by_cases hf : f a = 0
    · rw [if_pos hf] at h
      by_cases hj : j = a
      · subst hj; exact hf
      · exact ih h j (by omega) (by omega)
    · rw [if_neg hf] at h
      cases h
theorem oI_m1 {j : Nat} (h : j < 2 ^ 31) : ¬ oI (some j) = -1 := by
  intro e
  have : (nI j).toInt = (-1 : Int32).toInt := congrArg Int32.toInt e
  rw [nI_toInt h] at this
  have e2 : (-1 : Int32).toInt = -1 := by decide
  omega
theorem inc1 (a : Nat) : nI a + Int32.ofInt 1 = nI (a + 1) := nI_1 a
theorem dec1 (a : Nat) : nI (a + 1) + Int32.ofInt (-1) = nI a := pk_m1 a
theorem ix_of {x : Int32} {n : Nat} (hn : n < 2 ^ 31) (h0 : ¬ x < 0) (h1 : ¬ nI n ≤ x) : ∃ j, j < n ∧ x = nI j := by
  obtain ⟨j, hj, e⟩ := nI_of h0
  refine ⟨j, ?_, e⟩
  subst e
  by_cases q : j < n
  · exact q
  · exact absurd (nI_le (Nat.not_lt.mp q) hj) h1
/-! ===== the class's steps as functions ===== -/
def cN (x : Int32) : Nat := x.toNatClampNeg
theorem cN_nI {n : Nat} (h : n < 2 ^ 31) : cN (nI n) = n := nI_clamp h
def nxt (σ : Sg) (p a : Nat) : Option Nat := fOn (fun j => σ.1 131 (8 * p + j)) (cN (σ.1 326 p) - a) a
def lkAt (σ : Sg) (p : Nat) (k : Int32) : Sg := up (up (up σ 329 p k) 330 p 0) 325 p 3
def lkFF (σ : Sg) (p : Nat) : Sg := match nxt σ p 0 with
  | none => up σ 325 p 10
  | some j => lkAt σ p (nI j)
def lkNx (σ : Sg) (p : Nat) : Sg := match nxt σ p (cN (σ.1 329 p) + 1) with
  | none => up σ 325 p 9
  | some j => lkAt σ p (nI j)
/-- the first entry that p has not withdrawn -/
def fE (σ : Sg) (p : Nat) : Option Nat := (sPb σ p)[cN (σ.1 336 p)]?
def bWd (σ : Sg) (p : Nat) : Sg := up σ 325 p (if (fE σ p).isSome then 11 else 12)
abbrev stl (σ : Sg) (p : Nat) : Prop := σ.1 384 p = 3 ∨ σ.1 384 p = 4

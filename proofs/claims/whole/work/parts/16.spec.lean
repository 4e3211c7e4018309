/-! ===== the class's steps as functions, on ===== -/
def ndb (σ : Sg) (p : Nat) : Sg := if (1 < σ.1 337 p ∨ (σ.1 337 p = 1 ∧ ¬ σ.1 338 p = 0)) ∧ σ.1 339 p = 0 then up (up σ 339 p 1) 456 0 (σ.1 456 0 + 1) else σ
def putO (σ : Sg) (p : Nat) (why : Int32) : Sg := ndb (up (up (up (up σ 384 p 4) 386 p (-1)) 334 p why) 338 p 1) p
def rOut (σ : Sg) (p : Nat) : Sg := if σ.1 384 p = 1 then bWd (putO σ p 3) p else if σ.1 384 p = 3 then bWd σ p else σ
def vs (σ : Sg) (p t n : Nat) : Int32 := if t = p then σ.1 385 p else σ.1 1 n
abbrev tryOk (σ : Sg) (p t n : Nat) : Prop := σ.1 384 t = 1 ∧ σ.1 385 t = vs σ p t n
def tryY (σ : Sg) (p t : Nat) : Sg := up (up (up σ 454 0 (σ.1 454 0 + 1)) 384 t 2) 386 t (nI p)
def tryN (σ : Sg) : Sg := up (up σ 454 0 (σ.1 454 0 + 1)) 455 0 (σ.1 455 0 + 1)
def nBs (σ : Sg) (p t n : Nat) : Sg := if σ.1 384 t = 2 ∧ σ.1 385 t = vs σ p t n then up σ 332 p 1 else σ
def add8 (σ : Sg) (p n g z : Nat) (steps : Int32) : Sg :=
  up (up (up (up (up (up (up (up σ 900 (z * 8) (nI p)) 900 (z * 8 + 1) (σ.1 0 n)) 900 (z * 8 + 2) (σ.1 129 g)) 900 (z * 8 + 3) (if σ.1 128 g = 0 then σ.1 130 g else σ.1 4 n)) 900 (z * 8 + 4) (if σ.1 128 g = 0 then nI p else σ.1 0 n)) 900 (z * 8 + 5) (σ.1 385 p)) 900 (z * 8 + 6) (σ.1 1 n)) 900 (z * 8 + 7) steps
def addP (σ : Sg) (p n g : Nat) (steps : Int32) : Sg := if σ.1 257 0 < 200 then up (add8 σ p n g (cN (σ.1 257 0)) steps) 257 0 (σ.1 257 0 + 1) else up σ 257 0 (σ.1 257 0 + 1)
def pOf (σ : Sg) (p : Nat) : Sg := ndb (up σ 337 p (σ.1 337 p + 1)) p
def recP (σ : Sg) (p q n g : Nat) : Sg := pOf (pOf (addP σ p n g (σ.1 452 0)) p) q
def loT (p q : Nat) : Nat := if p < q then p else q
def hiT (p q : Nat) : Nat := if p < q then q else p
def gv0 (σ : Sg) (t : Nat) : Sg := up (up σ 384 t 1) 386 t (-1)
def gvB (σ : Sg) (p q : Nat) : Sg := if σ.1 333 p = 0 then up (gv0 σ (loT p q)) 325 p 3 else bWd (gv0 σ (loT p q)) p
def tell (σ : Sg) (p a : Nat) (x c v : Int32) : Sg := up (up (up (up (up (up (up σ 384 a 3) 386 a (-1)) 192 a 1) 193 a x) 194 a c) 195 a v) 196 a (σ.1 385 a)
def tlO (σ : Sg) (p q g : Nat) : Sg := up (tell σ p q (nI p) (σ.1 129 g) (if σ.1 128 g = 0 then σ.1 130 g else 0)) 325 p 8
def tkO (σ : Sg) (p n g : Nat) : Sg := bWd (tell σ p p (σ.1 0 n) (σ.1 129 g) (if σ.1 128 g = 1 then σ.1 4 n else 0)) p
/-! what ndb, pOf and addP leave as it was -/
theorem ndb_2 (σ : Sg) (p : Nat) : (ndb σ p).2 = σ.2 := by unfold ndb; split <;> rfl
theorem ndb_f (σ : Sg) (p f i : Nat) (h1 : f ≠ 339) (h2 : f ≠ 456) : (ndb σ p).1 f i = σ.1 f i := by
  unfold ndb
  split
  · simp [up, h1, h2]
  · rfl
theorem putO_2 (σ : Sg) (p : Nat) (w : Int32) : (putO σ p w).2 = σ.2 := ndb_2 _ p
theorem putO_f (σ : Sg) (p f i : Nat) (w : Int32) (h1 : f ≠ 339) (h2 : f ≠ 456) (h3 : f ≠ 384) (h4 : f ≠ 386) (h5 : f ≠ 334) (h6 : f ≠ 338) : (putO σ p w).1 f i = σ.1 f i := by
  unfold putO
  rw [ndb_f _ _ _ _ h1 h2]
  simp [up, h3, h4, h5, h6]
theorem nBs_2 (σ : Sg) (p t n : Nat) : (nBs σ p t n).2 = σ.2 := by unfold nBs; split <;> rfl
theorem nBs_f (σ : Sg) (p t n f i : Nat) (h1 : f ≠ 332) : (nBs σ p t n).1 f i = σ.1 f i := by
  unfold nBs
  split
  · simp [up, h1]
  · rfl
theorem add8_2 (σ : Sg) (p n g z : Nat) (s : Int32) : (add8 σ p n g z s).2 = σ.2 := rfl
theorem add8_f (σ : Sg) (p n g z f i : Nat) (s : Int32) (h : f ≠ 900) : (add8 σ p n g z s).1 f i = σ.1 f i := by simp [add8, up, h]
theorem addP_2 (σ : Sg) (p n g : Nat) (s : Int32) : (addP σ p n g s).2 = σ.2 := by unfold addP; split <;> rfl
theorem addP_f (σ : Sg) (p n g f i : Nat) (s : Int32) (h : f ≠ 900) (h2 : f ≠ 257) : (addP σ p n g s).1 f i = σ.1 f i := by
  unfold addP
  split
  · rw [up_fne _ _ _ _ h2, add8_f _ _ _ _ _ _ _ _ h]
  · rw [up_fne _ _ _ _ h2]
theorem pOf_2 (σ : Sg) (p : Nat) : (pOf σ p).2 = σ.2 := ndb_2 _ p
theorem pOf_f (σ : Sg) (p f i : Nat) (h1 : f ≠ 339) (h2 : f ≠ 456) (h3 : f ≠ 337) : (pOf σ p).1 f i = σ.1 f i := by
  unfold pOf
  rw [ndb_f _ _ _ _ h1 h2, up_fne _ _ _ _ h3]
theorem recP_2 (σ : Sg) (p q n g : Nat) : (recP σ p q n g).2 = σ.2 := by unfold recP; rw [pOf_2, pOf_2, addP_2]

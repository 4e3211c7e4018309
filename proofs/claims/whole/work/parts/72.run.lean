section RUN
variable {m : Nat} {σ : Sg} {τ : Tu} {p : Nat}
theorem J.start (hm : 2 ≤ m ∧ m ≤ 16) : J m σ0 (τ0 m) := by
  refine ⟨hm, ⟨rfl, rfl, rfl, rfl, rfl, rfl, rfl, rfl, rfl⟩, ⟨fun i _ => rfl, fun k _ => rfl, ⟨0, rfl, Nat.zero_le _⟩, fun p _ x _ _ => ⟨rfl, rfl⟩⟩, fun i _ => ⟨rfl, rfl, rfl, rfl, 0, by omega, rfl⟩, fun p _ => ⟨rfl, rfl, rfl, rfl, rfl⟩, ⟨fun n h1 h2 => ?_, Nat.zero_le _⟩, ⟨[], List.Pairwise.nil, fun n hn => absurd hn List.not_mem_nil, rfl, fun k n h => by simp at h, fun c _ => rfl, fun p _ => rfl⟩, fun p hp => ⟨?_, ?_, ?_⟩⟩
  · have h2 : n ≤ 0 := h2
    omega
  · exact ⟨0, 0, 0, 0, ⟨rfl, rfl, by omega⟩, ⟨rfl, rfl, by omega⟩, rfl, ⟨rfl, Nat.le_refl _, Nat.zero_le _⟩, ⟨rfl, rfl, by omega⟩, Or.inr ⟨0, by omega, rfl⟩, by omega, by omega, by omega, by omega, by omega, by omega, by omega, fun _ => rfl, by omega⟩
  · refine ⟨rfl, fun h => absurd h (show ¬ (0 : Int32) = 2 by decide), fun _ => rfl, ⟨0, by omega, rfl⟩, fun _ => rfl, fun h => absurd h (show ¬ ((0 : Int32) = 11 ∨ (0 : Int32) = 12) by decide), fun h => absurd (Or.inl rfl) h, fun h => absurd h (show ¬ (0 : Int32) = 6 by decide), fun h => absurd h (show ¬ (0 : Int32) = 1 by decide)⟩
  · exact ⟨fun h => absurd h (show ¬ ((0 : Int32) = 5 ∨ (0 : Int32) = 6) by decide), fun h => absurd h (show ¬ (0 : Int32) = 7 by decide), fun h => absurd h (show ¬ (0 : Int32) = 8 by decide)⟩
theorem J.t7 (hJ : J m σ τ) (hp : p < m) : τ 7 p = σ.1 325 p := by
  obtain ⟨ph, g, w, v, a1, -⟩ := hJ.la hp
  rw [a1.1, a1.2.1]
theorem J.runX : ∀ (N : Nat) {σ : Sg} {τ : Tu} (s : Int32), J m σ τ → J m (rnS m N σ s) (rnT m N τ s) := by
  intro N
  induction N with
  | zero => intro σ τ s h; exact h
  | succ N ih =>
    intro σ τ s h
    rw [rnS_succ, rnT_succ]
    refine ih _ ?_
    have hp := pik_lt h.1.1 (lcg s)
    unfold stp1 mrn1
    rw [h.t7 hp]
    by_cases hc : ¬ σ.1 325 (pik m (lcg s)) < 2 ∧ ¬ 11 < σ.1 325 (pik m (lcg s))
    · rw [if_pos hc, if_pos hc]
      exact h.accX hp hc.1 hc.2
    · rw [if_neg hc, if_neg hc]
      exact h
/-! ===== how many entries a run may still publish ===== -/
def pt1 (σ : Sg) (p : Nat) : Nat := if σ.1 325 p = 2 then cN (σ.1 326 p) - cN (σ.1 329 p) else 0
def Pt (m : Nat) (σ : Sg) : Nat := sm (pt1 σ) m
theorem J.pt (hJ : J m σ τ) : Pt m σ ≤ 128 := by
  have hm := hJ.1
  refine Nat.le_trans (sm_bd (c := 8) (fun i hi => ?_)) (by omega)
  obtain ⟨ph, g, w, v, a1, a2, -⟩ := hJ.la hi
  unfold pt1
  rw [a2.1, cN_nI (by omega)]
  split <;> omega
/-- phase, guards and place of the others, and p's guards, are as they were -/
def K3 (σ σ' : Sg) (p : Nat) : Prop := ∀ f r, (f = 325 ∨ f = 326 ∨ f = 329) → (r ≠ p ∨ f = 326) → σ'.1 f r = σ.1 f r
theorem K3.rf : K3 σ σ p := fun _ _ _ _ => rfl
theorem K3.upd {σ' : Sg} {f0 i : Nat} {v : Int32} (h : K3 σ σ' p) (hf : (f0 ≠ 325 ∧ f0 ≠ 326 ∧ f0 ≠ 329) ∨ (i = p ∧ f0 ≠ 326)) : K3 σ (up σ' f0 i v) p := fun f r h1 h2 => by
  show (if f = f0 ∧ r = i then v else σ'.1 f r) = σ.1 f r
  rw [if_neg (by omega)]
  exact h f r h1 h2
theorem K3.wdr {σ' : Sg} (h : K3 σ σ' p) : K3 σ (bWd σ' p) p := h.upd (Or.inr ⟨rfl, by omega⟩)
theorem K3.dbl {σ' : Sg} {t : Nat} (h : K3 σ σ' p) : K3 σ (ndb σ' t) p := by
  unfold ndb
  split
  · exact (h.upd (by omega)).upd (by omega)
  · exact h
end RUN

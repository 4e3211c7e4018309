section POT
variable {m : Nat} {σ σ' : Sg} {τ : Tu} {p : Nat}
theorem K3.put (h : K3 σ σ' p) (w : Int32) : K3 σ (putO σ' p w) p := ((((h.upd (by omega)).upd (by omega)).upd (by omega)).upd (by omega)).dbl
theorem K3.look (h : K3 σ σ' p) (v : Int32) : K3 σ (lkAt σ' p v) p := ((h.upd (Or.inr ⟨rfl, by omega⟩)).upd (by omega)).upd (Or.inr ⟨rfl, by omega⟩)
theorem K3.lkF (h : K3 σ σ' p) : K3 σ (lkFF σ' p) p := by
  unfold lkFF
  split
  · exact h.upd (Or.inr ⟨rfl, by omega⟩)
  · exact h.look _
theorem K3.lkN (h : K3 σ σ' p) : K3 σ (lkNx σ' p) p := by
  unfold lkNx
  split
  · exact h.upd (Or.inr ⟨rfl, by omega⟩)
  · exact h.look _
theorem K3.pub {j c : Nat} : K3 σ (pubB σ p j c) p := fun f r h1 _ => pubB_f _ _ _ _ _ _ (by omega) (by omega)
theorem K3.tN (h : K3 σ σ' p) : K3 σ (tryN σ') p := (h.upd (by omega)).upd (by omega)
theorem K3.tY (h : K3 σ σ' p) (t : Nat) : K3 σ (tryY σ' p t) p := ((h.upd (by omega)).upd (by omega)).upd (by omega)
theorem K3.bs (h : K3 σ σ' p) (t n : Nat) : K3 σ (nBs σ' p t n) p := by
  unfold nBs
  split
  · exact h.upd (by omega)
  · exact h
theorem K3.ad (h : K3 σ σ' p) (n g : Nat) (s : Int32) : K3 σ (addP σ' p n g s) p := fun f r h1 h2 => by rw [addP_f _ _ _ _ _ _ _ (by omega) (by omega)]; exact h f r h1 h2
theorem K3.po (h : K3 σ σ' p) (t : Nat) : K3 σ (pOf σ' t) p := (h.upd (by omega)).dbl
theorem K3.te (h : K3 σ σ' p) (a : Nat) (x c v : Int32) : K3 σ (tell σ' p a x c v) p := (((((((h.upd (by omega)).upd (by omega)).upd (by omega)).upd (by omega)).upd (by omega)).upd (by omega)).upd (by omega))
theorem K3.ph (h : K3 σ σ' p) (v : Int32) : K3 σ (up σ' 325 p v) p := h.upd (Or.inr ⟨rfl, by omega⟩)
theorem K3.aI : K3 σ (acc1 σ p) p := by
  unfold acc1
  split
  · unfold rOut
    split
    · exact (K3.rf.put 3).wdr
    · split
      · exact K3.rf.wdr
      · exact K3.rf
  · unfold phS
    split
    · unfold pubS
      split
      · exact K3.pub.lkF
      · exact K3.pub.upd (Or.inr ⟨rfl, by omega⟩)
    · split
      · unfold lkS
        split
        · exact K3.rf.lkN
        · split
          · exact K3.ph (show K3 σ (uM (up σ 330 p _) p _) p from (K3.rf.upd (by omega) : K3 σ (up σ 330 p _) p)) 4
          · exact K3.rf.upd (by omega)
      · split
        · unfold endL
          split
          · exact K3.rf.wdr
          · split
            · exact K3.rf.ph 10
            · exact (K3.rf.upd (by omega)).lkF
        · split
          · unfold wake
            split
            · exact K3.rf.wdr
            · exact K3.rf
          · split
            · unfold wdS
              exact K3.wdr (K3.upd (show K3 σ (uL σ _ _) p from K3.rf) (by omega))
            · unfold meet
              split
              · unfold clL
                split
                · exact (K3.rf.tY _).ph 5
                · split
                  · exact K3.rf.tN.wdr
                  · exact (K3.rf.tN.bs _ _).ph 3
              · split
                · unfold clH
                  split
                  · exact ((((K3.rf.tY _).ad _ _ _).po _).po _).ph 7
                  · exact ((K3.rf.tN.bs _ _).upd (by omega)).ph 6
                · split
                  · unfold gvB
                    split
                    · exact ((K3.rf.upd (by omega)).upd (by omega)).ph 3
                    · exact ((K3.rf.upd (by omega)).upd (by omega)).wdr
                  · split
                    · exact (K3.rf.te _ _ _ _).ph 8
                    · exact (K3.rf.te _ _ _ _).wdr
theorem K3.aX : K3 σ (acc σ p) p := fun f r h1 h2 => by
  unfold acc
  rw [K3.aI f r h1 h2]
  exact up_fne _ _ _ _ (by omega)
def N2 (σ : Sg) (p : Nat) : Prop := ¬ σ.1 325 p = 2
theorem N2.ph {v : Int32} (h : ¬ v = 2) : N2 (up σ 325 p v) p := by unfold N2; rw [up_same]; exact h
theorem N2.wd : N2 (bWd σ p) p := by
  unfold bWd
  refine N2.ph ?_
  split <;> decide
theorem N2.lkF : N2 (lkFF σ p) p := by
  unfold lkFF
  split
  · exact N2.ph (by decide)
  · exact N2.ph (by decide)
theorem N2.lkN : N2 (lkNx σ p) p := by
  unfold lkNx
  split
  · exact N2.ph (by decide)
  · exact N2.ph (by decide)
theorem N2.aI (h : N2 σ p) : N2 (acc1 σ p) p := by
  unfold acc1
  split
  · unfold rOut
    split
    · exact N2.wd
    · split
      · exact N2.wd
      · exact h
  · unfold phS
    rw [if_neg h]
    split
    · unfold lkS
      split
      · exact N2.lkN
      · split
        · exact N2.ph (by decide)
        · exact h
    · split
      · unfold endL
        split
        · exact N2.wd
        · split
          · exact N2.ph (by decide)
          · exact N2.lkF
      · split
        · unfold wake
          split
          · exact N2.wd
          · exact h
        · split
          · exact N2.wd
          · unfold meet
            split
            · unfold clL
              split
              · exact N2.ph (by decide)
              · split
                · exact N2.wd
                · exact N2.ph (by decide)
            · split
              · unfold clH
                split
                · exact N2.ph (by decide)
                · exact N2.ph (by decide)
              · split
                · unfold gvB
                  split
                  · exact N2.ph (by decide)
                  · exact N2.wd
                · split
                  · exact N2.ph (by decide)
                  · exact N2.wd
theorem pt1_0 (h : N2 σ p) : pt1 σ p = 0 := if_neg h
theorem J.pt_p (hJ : J m σ τ) (hp : p < m) : pt1 (acc σ p) p ≤ pt1 σ p ∧ (σ.1 325 p = 2 → ¬ (¬ σ.1 328 p = -1 ∧ ¬ σ.1 451 0 < σ.1 328 p) → pt1 (acc σ p) p + 1 ≤ pt1 σ p) := by
  have hm := hJ.1
  by_cases h2 : σ.1 325 p = 2
  · obtain ⟨ph, g, w, v, a1, a2, a3, a4, a5, a6, a7, a8, -⟩ := hJ.la hp
    have hph : ph = 2 := phx a1.1 a1.2.2 (b := 2) (by omega) h2
    obtain ⟨j, b1, b2, b3, b4, b5⟩ := a8 (by omega)
    have e0 : pt1 σ p = g - j := by unfold pt1; rw [if_pos h2, a2.1, b2, cN_nI (by omega), cN_nI (by omega)]
    by_cases hd : ¬ σ.1 328 p = -1 ∧ ¬ σ.1 451 0 < σ.1 328 p
    · refine ⟨?_, fun _ h => absurd hd h⟩
      have e : acc σ p = rOut (up σ 452 0 (σ.1 452 0 + 1)) p := by
        unfold acc acc1
        rw [if_pos ⟨hd, Or.inl h2⟩]
      rw [e]
      unfold rOut
      split
      · rw [pt1_0 N2.wd]; exact Nat.zero_le _
      · split
        · rw [pt1_0 N2.wd]; exact Nat.zero_le _
        · exact Nat.le_refl _
    · have e : acc σ p = pubS (up σ 452 0 (σ.1 452 0 + 1)) p (atN (up σ 452 0 (σ.1 452 0 + 1)) p) (chN (up σ 452 0 (σ.1 452 0 + 1)) p) := by
        unfold acc acc1
        rw [if_neg (fun h => hd h.1)]
        unfold phS
        rw [if_pos (show (up σ 452 0 (σ.1 452 0 + 1)).1 325 p = 2 from h2)]
      have key : pt1 (acc σ p) p + 1 ≤ pt1 σ p := by
        rw [e, e0]
        unfold pubS
        split
        · rw [pt1_0 N2.lkF]; omega
        · rename_i i hi
          have hb := fOn_some hi
          have hj1 : cN ((up σ 452 0 (σ.1 452 0 + 1)).1 329 p) = j := by
            rw [up_fne _ _ _ _ (by omega), b2]; exact cN_nI (by omega)
          rw [hj1] at hb
          have hg1 : cN ((pubB (up σ 452 0 (σ.1 452 0 + 1)) p (atN (up σ 452 0 (σ.1 452 0 + 1)) p) (chN (up σ 452 0 (σ.1 452 0 + 1)) p)).1 326 p) = g := by
            rw [pubB_f _ _ _ _ _ _ (by omega) (by omega), up_fne _ _ _ _ (by omega), a2.1]; exact cN_nI (by omega)
          rw [hg1] at hb
          have : pt1 (up (pubB (up σ 452 0 (σ.1 452 0 + 1)) p (atN (up σ 452 0 (σ.1 452 0 + 1)) p) (chN (up σ 452 0 (σ.1 452 0 + 1)) p)) 329 p (nI i)) p = g - i := by
            unfold pt1
            rw [up_fne _ _ _ _ (by omega), up_fne _ _ _ _ (by omega), up_same, hg1, cN_nI (by omega), pubB_f _ _ _ _ _ _ (by omega) (by omega), up_fne _ _ _ _ (by omega), if_pos h2]
          rw [this]
          omega
      exact ⟨by omega, fun _ _ => key⟩
  · refine ⟨?_, fun h => absurd h h2⟩
    have : N2 (acc σ p) p := N2.aI (show N2 (up σ 452 0 (σ.1 452 0 + 1)) p from h2)
    rw [pt1_0 this]
    exact Nat.zero_le _
theorem J.pt_o (p : Nat) (r : Nat) (hr : r ≠ p) : pt1 (acc σ p) r = pt1 σ r := by
  unfold pt1
  rw [K3.aX 325 r (by omega) (Or.inl hr), K3.aX 326 r (by omega) (Or.inl hr), K3.aX 329 r (by omega) (Or.inl hr)]
theorem J.hpt (hJ : J m σ τ) (hp : p < m) : Pt m (acc σ p) ≤ Pt m σ := sm_le (fun r _ => by
  by_cases hr : r = p
  · subst hr; exact (hJ.pt_p hp).1
  · rw [J.pt_o p r hr]; exact Nat.le_refl _)
theorem J.hpq (hJ : J m σ τ) (hp : p < m) (h2 : σ.1 325 p = 2) (hd : ¬ (¬ σ.1 328 p = -1 ∧ ¬ σ.1 451 0 < σ.1 328 p)) : Pt m (acc σ p) + 1 ≤ Pt m σ := sm_lt hp (fun r _ => by
  by_cases hr : r = p
  · subst hr; exact (hJ.pt_p hp).1
  · rw [J.pt_o p r hr]; exact Nat.le_refl _) ((hJ.pt_p hp).2 h2 hd)
end POT

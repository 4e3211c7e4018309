section ACC
variable {m : Nat} {σ : Sg} {τ : Tu} {p : Nat}
theorem off_ph (hJ : J m σ τ) (hp : p < m) (h2 : ¬ σ.1 325 p < 2) (h11 : ¬ 11 < σ.1 325 p) : ∃ ph : Nat, 2 ≤ ph ∧ ph ≤ 11 ∧ σ.1 325 p = nI ph ∧ τ 7 p = nI ph := by
  obtain ⟨ph, g, w, v, a1, -⟩ := hJ.la hp
  refine ⟨ph, ?_, ?_, a1.1, a1.2.1⟩
  · rcases Nat.lt_or_ge ph 2 with q | q
    · exact absurd (by rw [a1.1]; exact nI_lt (b := 2) q (by omega)) h2
    · exact q
  · rcases Nat.lt_or_ge 11 ph with q | q
    · exact absurd (by rw [a1.1]; exact nI_lt (a := 11) q (by omega)) h11
    · exact q
set_option maxHeartbeats 1000000 in
theorem J.accI (hJ : J m σ τ) (hp : p < m) (h2 : ¬ σ.1 325 p < 2) (h11 : ¬ 11 < σ.1 325 p) : J m (acc1 σ p) (mT1 τ p) := by
  have hm := hJ.1
  obtain ⟨ph, hp2, hp11, e325, e7⟩ := off_ph hJ hp h2 h11
  obtain ⟨ph', g, w, v, a1, a2, a3, a4, a5, a6, a7, a8, a9, a10, a11, a12, a13, a14, a15⟩ := hJ.la hp
  obtain rfl : ph = ph' := phx e325 (by omega) a1.2.2 a1.1
  have e14 := a7 hp2
  have e1 : τ 1 0 = σ.1 451 0 := hJ.2.1.2.1
  have e77 : τ 7 p = σ.1 325 p := by rw [e325, e7]
  unfold acc1 mT1
  rw [e14, e1, e77]
  by_cases hd : (¬ σ.1 328 p = -1 ∧ ¬ σ.1 451 0 < σ.1 328 p) ∧ (σ.1 325 p = 2 ∨ σ.1 325 p = 3 ∨ σ.1 325 p = 9 ∨ σ.1 325 p = 10)
  · rw [if_pos hd, if_pos ⟨hd.2, hd.1⟩]
    exact hJ.dueX hp (c := ph) (by omega) e325
  · rw [if_neg hd, if_neg (fun h => hd ⟨h.2, h.1⟩)]
    unfold phS mPh
    rw [e77]
    have at8 : 2 ≤ ph ∧ ph ≤ 8 → ∃ j, j < g ∧ σ.1 329 p = nI j ∧ ¬ σ.1 131 (8 * p + j) = 0 ∧ (ph = 2 → (sPb σ p).length ≤ j) ∧ atN σ p = j ∧ cN (τ 18 p) = j ∧ ∃ c, c < 8 ∧ σ.1 129 (8 * p + j) = nI c ∧ chN σ p = c := fun h => by
      obtain ⟨j, b1, b2, b3, b4, b5⟩ := a8 h
      obtain ⟨c, c1, c2⟩ := (hJ.2.2.2.1 (8 * p + j) (by omega)).2.2.2.2
      have ea : atN σ p = j := by unfold atN; rw [b2]; exact cN_nI (by omega)
      refine ⟨j, b1, b2, b4, b5, ea, by rw [b3]; exact cN_nI (by omega), c, c1, c2, ?_⟩
      unfold chN
      rw [ea, c2]
      exact cN_nI (by omega)
    have me8 : 4 ≤ ph ∧ ph ≤ 8 → ∃ n q, sMet σ p = some n ∧ σ.1 0 n = nI q ∧ q < m ∧ q ≠ p ∧ τ 22 p = σ.1 1 n ∧ τ 23 p = σ.1 4 n ∧ meN σ p = n ∧ cN (σ.1 0 n) = q ∧ cN (τ 21 p) = q := fun h => by
      obtain ⟨n, q, c1, c2, c3, c4, c5, c6, c7, c8, c9⟩ := a12 h
      refine ⟨n, q, c1, c4, c5, c6, c8, c9, ?_, ?_, ?_⟩
      · unfold meN; rw [c1]; rfl
      · rw [c4]; exact cN_nI (by omega)
      · rw [c7]; exact cN_nI (by omega)
    have nq : ∀ k : Nat, k ≤ 12 → ph ≠ k → ¬ σ.1 325 p = nI k := fun k hk hne h => hne (phx e325 (by omega) hk h)
    have hc : ph = 2 ∨ ph = 3 ∨ ph = 4 ∨ ph = 5 ∨ ph = 6 ∨ ph = 7 ∨ ph = 8 ∨ ph = 9 ∨ ph = 10 ∨ ph = 11 := by omega
    rcases hc with rfl | rfl | rfl | rfl | rfl | rfl | rfl | rfl | rfl | rfl
    · obtain ⟨j, j1, j2, j3, j4, j5, j6, c, c1, c2, c3⟩ := at8 (by omega)
      rw [if_pos (show σ.1 325 p = 2 from e325), if_pos (show σ.1 325 p = 2 from e325), j5, j6, c3]
      exact hJ.pubX hp e325 a2.1 a2.2.2 j2 j1 j3 (j4 rfl) c2 c1
    · obtain ⟨j, j1, j2, j3, j4, j5, j6, c, c1, c2, c3⟩ := at8 (by omega)
      rw [if_neg (show ¬ σ.1 325 p = 2 from nq 2 (by omega) (by omega)), if_pos (show σ.1 325 p = 3 from e325), if_neg (show ¬ σ.1 325 p = 2 from nq 2 (by omega) (by omega)), if_pos (show σ.1 325 p = 3 from e325), j5, j6, c3]
      exact hJ.lookX hp e325 j2 (by omega) c2 c1 (a9 (by omega))
    · obtain ⟨n, q, n1, n2, n3, n4, n5, n6, n7, n8, n9⟩ := me8 (by omega)
      rw [if_neg (show ¬ σ.1 325 p = 2 from nq 2 (by omega) (by omega)), if_neg (show ¬ σ.1 325 p = 3 from nq 3 (by omega) (by omega)), if_neg (show ¬ σ.1 325 p = 9 from nq 9 (by omega) (by omega)), if_neg (show ¬ σ.1 325 p = 10 from nq 10 (by omega) (by omega)), if_neg (show ¬ σ.1 325 p = 11 from nq 11 (by omega) (by omega)), if_neg (show ¬ σ.1 325 p = 2 from nq 2 (by omega) (by omega)), if_neg (show ¬ σ.1 325 p = 3 from nq 3 (by omega) (by omega)), if_pos (show σ.1 325 p = 4 from e325), n7, n8, n9]
      unfold meet
      rw [if_pos (show σ.1 325 p = 4 from e325)]
      exact hJ.clX hp e325 n1 n2 n3 n5
    · obtain ⟨n, q, n1, n2, n3, n4, n5, n6, n7, n8, n9⟩ := me8 (by omega)
      obtain ⟨j, j1, j2, j3, j4, j5, j6, -⟩ := at8 (by omega)
      rw [if_neg (show ¬ σ.1 325 p = 2 from nq 2 (by omega) (by omega)), if_neg (show ¬ σ.1 325 p = 3 from nq 3 (by omega) (by omega)), if_neg (show ¬ σ.1 325 p = 9 from nq 9 (by omega) (by omega)), if_neg (show ¬ σ.1 325 p = 10 from nq 10 (by omega) (by omega)), if_neg (show ¬ σ.1 325 p = 11 from nq 11 (by omega) (by omega)), if_neg (show ¬ σ.1 325 p = 2 from nq 2 (by omega) (by omega)), if_neg (show ¬ σ.1 325 p = 3 from nq 3 (by omega) (by omega)), if_neg (show ¬ σ.1 325 p = 4 from nq 4 (by omega) (by omega)), if_pos (show σ.1 325 p = 5 from e325), n7, n8, n9, j5, j6]
      unfold meet
      rw [if_neg (show ¬ σ.1 325 p = 4 from nq 4 (by omega) (by omega)), if_pos (show σ.1 325 p = 5 from e325)]
      exact hJ.secX hp e325 n1 n2 n3 n4 (by omega) n5 n6
    · obtain ⟨n, q, n1, n2, n3, n4, n5, n6, n7, n8, n9⟩ := me8 (by omega)
      rw [if_neg (show ¬ σ.1 325 p = 2 from nq 2 (by omega) (by omega)), if_neg (show ¬ σ.1 325 p = 3 from nq 3 (by omega) (by omega)), if_neg (show ¬ σ.1 325 p = 9 from nq 9 (by omega) (by omega)), if_neg (show ¬ σ.1 325 p = 10 from nq 10 (by omega) (by omega)), if_neg (show ¬ σ.1 325 p = 11 from nq 11 (by omega) (by omega)), if_neg (show ¬ σ.1 325 p = 2 from nq 2 (by omega) (by omega)), if_neg (show ¬ σ.1 325 p = 3 from nq 3 (by omega) (by omega)), if_neg (show ¬ σ.1 325 p = 4 from nq 4 (by omega) (by omega)), if_neg (show ¬ σ.1 325 p = 5 from nq 5 (by omega) (by omega)), if_pos (show σ.1 325 p = 6 from e325), n7, n8, n9]
      unfold meet
      rw [if_neg (show ¬ σ.1 325 p = 4 from nq 4 (by omega) (by omega)), if_neg (show ¬ σ.1 325 p = 5 from nq 5 (by omega) (by omega)), if_pos (show σ.1 325 p = 6 from e325)]
      exact hJ.gvX hp e325 n1 n2 n3
    · obtain ⟨n, q, n1, n2, n3, n4, n5, n6, n7, n8, n9⟩ := me8 (by omega)
      obtain ⟨j, j1, j2, j3, j4, j5, j6, -⟩ := at8 (by omega)
      rw [if_neg (show ¬ σ.1 325 p = 2 from nq 2 (by omega) (by omega)), if_neg (show ¬ σ.1 325 p = 3 from nq 3 (by omega) (by omega)), if_neg (show ¬ σ.1 325 p = 9 from nq 9 (by omega) (by omega)), if_neg (show ¬ σ.1 325 p = 10 from nq 10 (by omega) (by omega)), if_neg (show ¬ σ.1 325 p = 11 from nq 11 (by omega) (by omega)), if_neg (show ¬ σ.1 325 p = 2 from nq 2 (by omega) (by omega)), if_neg (show ¬ σ.1 325 p = 3 from nq 3 (by omega) (by omega)), if_neg (show ¬ σ.1 325 p = 4 from nq 4 (by omega) (by omega)), if_neg (show ¬ σ.1 325 p = 5 from nq 5 (by omega) (by omega)), if_neg (show ¬ σ.1 325 p = 6 from nq 6 (by omega) (by omega)), if_pos (show σ.1 325 p = 7 from e325), n7, n8, n9, j5, j6]
      unfold meet
      rw [if_neg (show ¬ σ.1 325 p = 4 from nq 4 (by omega) (by omega)), if_neg (show ¬ σ.1 325 p = 5 from nq 5 (by omega) (by omega)), if_neg (show ¬ σ.1 325 p = 6 from nq 6 (by omega) (by omega)), if_pos (show σ.1 325 p = 7 from e325)]
      exact hJ.telX hp e325 n1 n2 n3 n4 (by omega)
    · obtain ⟨n, q, n1, n2, n3, n4, n5, n6, n7, n8, n9⟩ := me8 (by omega)
      obtain ⟨j, j1, j2, j3, j4, j5, j6, -⟩ := at8 (by omega)
      rw [if_neg (show ¬ σ.1 325 p = 2 from nq 2 (by omega) (by omega)), if_neg (show ¬ σ.1 325 p = 3 from nq 3 (by omega) (by omega)), if_neg (show ¬ σ.1 325 p = 9 from nq 9 (by omega) (by omega)), if_neg (show ¬ σ.1 325 p = 10 from nq 10 (by omega) (by omega)), if_neg (show ¬ σ.1 325 p = 11 from nq 11 (by omega) (by omega)), if_neg (show ¬ σ.1 325 p = 2 from nq 2 (by omega) (by omega)), if_neg (show ¬ σ.1 325 p = 3 from nq 3 (by omega) (by omega)), if_neg (show ¬ σ.1 325 p = 4 from nq 4 (by omega) (by omega)), if_neg (show ¬ σ.1 325 p = 5 from nq 5 (by omega) (by omega)), if_neg (show ¬ σ.1 325 p = 6 from nq 6 (by omega) (by omega)), if_neg (show ¬ σ.1 325 p = 7 from nq 7 (by omega) (by omega)), if_pos (show σ.1 325 p = 8 from e325), n7, n8, n9, j5, j6]
      unfold meet
      rw [if_neg (show ¬ σ.1 325 p = 4 from nq 4 (by omega) (by omega)), if_neg (show ¬ σ.1 325 p = 5 from nq 5 (by omega) (by omega)), if_neg (show ¬ σ.1 325 p = 6 from nq 6 (by omega) (by omega)), if_neg (show ¬ σ.1 325 p = 7 from nq 7 (by omega) (by omega))]
      exact hJ.ownX hp e325 n2 n6 (by omega)
    · rw [if_neg (show ¬ σ.1 325 p = 2 from nq 2 (by omega) (by omega)), if_neg (show ¬ σ.1 325 p = 3 from nq 3 (by omega) (by omega)), if_pos (show σ.1 325 p = 9 from e325), if_neg (show ¬ σ.1 325 p = 2 from nq 2 (by omega) (by omega)), if_neg (show ¬ σ.1 325 p = 3 from nq 3 (by omega) (by omega)), if_neg (show ¬ σ.1 325 p = 4 from nq 4 (by omega) (by omega)), if_neg (show ¬ σ.1 325 p = 5 from nq 5 (by omega) (by omega)), if_neg (show ¬ σ.1 325 p = 6 from nq 6 (by omega) (by omega)), if_neg (show ¬ σ.1 325 p = 7 from nq 7 (by omega) (by omega)), if_neg (show ¬ σ.1 325 p = 8 from nq 8 (by omega) (by omega))]
      exact hJ.endX hp e325
    · rw [if_neg (show ¬ σ.1 325 p = 2 from nq 2 (by omega) (by omega)), if_neg (show ¬ σ.1 325 p = 3 from nq 3 (by omega) (by omega)), if_neg (show ¬ σ.1 325 p = 9 from nq 9 (by omega) (by omega)), if_pos (show σ.1 325 p = 10 from e325), if_neg (show ¬ σ.1 325 p = 2 from nq 2 (by omega) (by omega)), if_neg (show ¬ σ.1 325 p = 3 from nq 3 (by omega) (by omega)), if_neg (show ¬ σ.1 325 p = 4 from nq 4 (by omega) (by omega)), if_neg (show ¬ σ.1 325 p = 5 from nq 5 (by omega) (by omega)), if_neg (show ¬ σ.1 325 p = 6 from nq 6 (by omega) (by omega)), if_neg (show ¬ σ.1 325 p = 7 from nq 7 (by omega) (by omega)), if_neg (show ¬ σ.1 325 p = 8 from nq 8 (by omega) (by omega))]
      exact hJ.wakeX hp e325
    · rw [if_neg (show ¬ σ.1 325 p = 2 from nq 2 (by omega) (by omega)), if_neg (show ¬ σ.1 325 p = 3 from nq 3 (by omega) (by omega)), if_neg (show ¬ σ.1 325 p = 9 from nq 9 (by omega) (by omega)), if_neg (show ¬ σ.1 325 p = 10 from nq 10 (by omega) (by omega)), if_pos (show σ.1 325 p = 11 from e325), if_neg (show ¬ σ.1 325 p = 2 from nq 2 (by omega) (by omega)), if_neg (show ¬ σ.1 325 p = 3 from nq 3 (by omega) (by omega)), if_neg (show ¬ σ.1 325 p = 4 from nq 4 (by omega) (by omega)), if_neg (show ¬ σ.1 325 p = 5 from nq 5 (by omega) (by omega)), if_neg (show ¬ σ.1 325 p = 6 from nq 6 (by omega) (by omega)), if_neg (show ¬ σ.1 325 p = 7 from nq 7 (by omega) (by omega)), if_neg (show ¬ σ.1 325 p = 8 from nq 8 (by omega) (by omega))]
      have hwl := a15 rfl
      have hf : fE σ p = some ((sPb σ p)[w]) := by
        unfold fE
        rw [a4.1, cN_nI (by omega), List.getElem?_eq_getElem hwl]
      rw [hf]
      exact hJ.wdX hp e325 hf
theorem J.accX (hJ : J m σ τ) (hp : p < m) (h2 : ¬ σ.1 325 p < 2) (h11 : ¬ 11 < σ.1 325 p) : J m (acc σ p) (mTrn τ p) := by
  have e2 : τ 2 0 = σ.1 452 0 := hJ.2.1.2.2.1
  have h := hJ.glob (f := 452) (k := 2) (by omega) (σ.1 452 0 + 1)
  unfold acc mTrn
  rw [e2]
  exact h.accI hp h2 h11
theorem J.ao (hJ : J m σ τ) (hp : p < m) : AO m σ p := by
  have hm := hJ.1
  obtain ⟨EL, hE⟩ := hJ.2.2.2.2.2.2.1
  have hel := hJ.el hE
  obtain ⟨ph, g, w, v, a1, a2, a3, a4, a5, a6, a7, a8, a9, a10, a11, a12, a13, a14, a15⟩ := hJ.la hp
  obtain ⟨z, z1, z2, z3, z4⟩ := hJ.zb
  have hvd : ∀ c, c < 8 → vdL σ c := fun c hc n hn => by
    rw [hE.2.2.2.2.1 c hc] at hn
    exact hE.2.1 n (List.mem_filter.mp hn).1
  have r1 : ∀ a b : Nat, a ≤ 12 → b ≤ 12 → ¬ nI a < nI b → b ≤ a := fun a b ha hb h => by
    rcases Nat.lt_or_ge a b with q | q
    · exact absurd (nI_lt q (by omega)) h
    · exact q
  refine ⟨g, w, z, ⟨a2.1, a2.2.2⟩, ⟨a4.1, a4.2.1⟩, ⟨z1, by omega⟩, hJ.2.1.2.2.2.2.2.2.2.2, fun h => ?_, fun h => ?_, fun h => ?_⟩
  · rw [a1.1] at h
    have q1 := r1 ph 2 a1.2.2 (by omega) h.1
    have q2 := r1 8 ph (by omega) a1.2.2 h.2
    obtain ⟨j, b1, b2, b3, b4, b5⟩ := a8 ⟨q1, q2⟩
    obtain ⟨c, c1, c2⟩ := (hJ.2.2.2.1 (8 * p + j) (by omega)).2.2.2.2
    refine ⟨j, c, b1, b2, c2, c1, hvd c c1, fun h2 => ?_⟩
    have hph2 : ph = 2 := phx a1.1 a1.2.2 (b := 2) (by omega) h2
    have hlj := b5 hph2
    refine ⟨?_, by omega⟩
    have hb : sm (fun p => (sPb σ p).length) m + 1 ≤ sm (fun _ => 8) m := sm_lt hp (fun i hi => by
      obtain ⟨ph, g, w, v, a1, a2, a3, a4, -⟩ := hJ.la hi
      exact a4.2.2) (by show (sPb σ p).length + 1 ≤ 8; omega)
    have hb2 : sm (fun _ => 8) m ≤ 8 * m := sm_bd (fun i _ => Nat.le_refl _)
    rw [hE.2.2.2.2.1 c c1]
    have := List.length_filter_le (fun n => decide (σ.1 3 n = nI c)) EL
    omega
  · rw [a1.1] at h
    have q1 := r1 ph 4 a1.2.2 (by omega) h.1
    have q2 := r1 8 ph (by omega) a1.2.2 h.2
    obtain ⟨n, q, c1, c2, c3, c4, c5, -⟩ := a12 ⟨q1, q2⟩
    exact ⟨n, q, c1, ⟨c2, c3⟩, c4, c5⟩
  · have hph : ph = 11 := phx a1.1 a1.2.2 (b := 11) (by omega) h
    have hwl := a15 hph
    have hmem : (sPb σ p)[w] ∈ EL := by
      have h6 := hE.2.2.2.2.2 p hp
      rw [a4.1, cN_nI (by omega)] at h6
      have : (sPb σ p)[w] ∈ (sPb σ p).drop w := by
        rw [List.drop_eq_getElem_cons hwl]; exact List.mem_cons_self
      rw [h6] at this
      exact (List.mem_filter.mp this).1
    have hn := hE.2.1 _ hmem
    obtain ⟨-, ⟨c, c1, c2⟩, -⟩ := hJ.2.2.2.2.2.1.1 _ hn.1 hn.2
    exact ⟨(sPb σ p)[w], c, List.getElem?_eq_getElem hwl, hn, c2, c1, hvd c c1⟩
theorem J.mo (hJ : J m σ τ) (hp : p < m) : MO m τ p := by
  have hm := hJ.1
  obtain ⟨EL, hE⟩ := hJ.2.2.2.2.2.2.1
  have hel := hJ.el hE
  have hen := hJ.en hE
  obtain ⟨ph, g, w, v, a1, a2, a3, a4, a5, a6, a7, a8, a9, a10, a11, a12, a13, a14, a15⟩ := hJ.la hp
  obtain ⟨z, z1, z2, z3, z4⟩ := hJ.zb
  have r1 : ∀ a b : Nat, a ≤ 12 → b ≤ 12 → ¬ nI a < nI b → b ≤ a := fun a b ha hb h => by
    rcases Nat.lt_or_ge a b with q | q
    · exact absurd (nI_lt q (by omega)) h
    · exact q
  refine ⟨g, EL.length, v, z, ⟨a2.2.1, a2.2.2⟩, ⟨hE.2.2.1, by omega⟩, ⟨a5.2.1, a5.2.2⟩, ⟨z2, by omega⟩, fun h => ?_, a6, fun h => ?_, fun h => ?_, fun h => ?_⟩
  · rw [a1.2.1] at h
    have q1 := r1 ph 2 a1.2.2 (by omega) h.1
    have q2 := r1 8 ph (by omega) a1.2.2 h.2
    obtain ⟨j, b1, b2, b3, -⟩ := a8 ⟨q1, q2⟩
    exact ⟨j, by omega, b3⟩
  · rw [a1.2.1] at h
    have q1 := r1 ph 4 a1.2.2 (by omega) h.1
    have q2 := r1 8 ph (by omega) a1.2.2 h.2
    obtain ⟨n, q, c1, c2, c3, c4, c5, c6, c7, c8, c9⟩ := a12 ⟨q1, q2⟩
    obtain ⟨-, -, ⟨x, x1, x2⟩⟩ := hJ.2.2.2.2.2.1.1 n c2 c3
    exact ⟨q, x, c5, c7, c6, by rw [c8, x2], x1⟩
  · have hph : ph = 11 := phx a1.2.1 a1.2.2 (b := 11) (by omega) h
    have hwl := a15 hph
    have hf : fE σ p = some ((sPb σ p)[w]) := by
      unfold fE
      rw [a4.1, cN_nI (by omega), List.getElem?_eq_getElem hwl]
    obtain ⟨k, -, hk⟩ := (hJ.own hp hE).2 _ hf
    exact ⟨k, hk⟩
  · omega
end ACC

section LISTS
variable {E : Ev} {m : Nat} {σ : Sg} {τ : Tu} {h : Hp}
theorem aLA_inj {c d : Nat} (h : aLA E m c = aLA E m d) : c = d := by simp only [aLA] at h; omega
theorem aLs_inj {c d : Nat} (h : aLs E m c = aLs E m d) : c = d := by simp only [aLs] at h; omega
/-- the list c is another one: its array holds it, and its size is written -/
theorem RR.relist (hR : RR E m σ τ h) {c : Nat} (hc : c < 8) {l : List Nat} (hl : l.length ≤ 128) {A1 : Nat → Nat → Option Nat} (hA : ∀ b, b ≠ aLA E m c → A1 b = h.2.2.2.1 b) (hj : ∀ j, j < l.length → A1 (aLA E m c) j = (l[j]?).map (aE E m)) :
    RR E m (uL σ c l) τ (sI (h.1, h.2.1, h.2.2.1, A1, h.2.2.2.2) 65 (aLs E m c) (nI l.length)) := by
  obtain ⟨hL, ⟨s1, s2, s3, s4, s5, s6, s7⟩, ⟨c1, c2, c3, c4, c5, c6, c7, c8⟩, ⟨m1, m2⟩⟩ := hR
  have key : ∀ f a, f ≠ 65 → (if f = 65 ∧ a = aLs E m c then nI l.length else h.1 f a) = h.1 f a := fun f a hf => if_neg (fun q => hf q.1)
  refine ⟨hL, ⟨s1, fun p hp => ?_, s3, fun p j hp hj8 => ?_, fun d hd => ⟨?_, (s5 d hd).2⟩, s6, s7⟩, ⟨c1, fun ci k i hv hk => ?_, c3, fun p hp => ?_, fun n h1 h2 => ?_, c6, fun d hd => ?_, fun p hp => ⟨(c8 p hp).1, ?_, fun j hjl => ?_⟩⟩, ⟨fun k hk => ?_, m2⟩⟩
  · show A1 (aPA E) p = _
    rw [hA _ (by simp only [aPA, aLA]; omega)]; exact s2 p hp
  · show A1 (aGA E p) j = _
    rw [hA _ (by simp only [aGA, aLA]; omega)]; exact s4 p j hp hj8
  · show A1 (aLL E m) d = _
    rw [hA _ (by simp only [aLL, aLA]; omega)]; exact (s5 d hd).1
  · obtain ⟨-, -, -, -, -, -, o7, -, -⟩ := okf_lt hk
    show (if 64 * ci + k = 65 ∧ _ then _ else h.1 (64 * ci + k) (ad E m ci i)) = _
    rw [key _ _ o7]; exact c2 ci k i hv hk
  · exact c4 p hp
  · exact c5 n h1 h2
  · by_cases hdc : d = c
    · subst hdc
      show (if d = d then l else σ.2.2.1 d).length ≤ 128 ∧ (if 65 = 65 ∧ aLs E m d = aLs E m d then nI l.length else h.1 65 (aLs E m d)) = nI (if d = d then l else σ.2.2.1 d).length ∧ ∀ j, j < (if d = d then l else σ.2.2.1 d).length → A1 (aLA E m d) j = ((if d = d then l else σ.2.2.1 d)[j]?).map (aE E m)
      rw [if_pos rfl, if_pos ⟨rfl, rfl⟩]
      exact ⟨hl, rfl, hj⟩
    · show (if d = c then l else σ.2.2.1 d).length ≤ 128 ∧ (if 65 = 65 ∧ aLs E m d = aLs E m c then nI l.length else h.1 65 (aLs E m d)) = nI (if d = c then l else σ.2.2.1 d).length ∧ ∀ j, j < (if d = c then l else σ.2.2.1 d).length → A1 (aLA E m d) j = ((if d = c then l else σ.2.2.1 d)[j]?).map (aE E m)
      rw [if_neg hdc, if_neg (fun q => hdc (aLs_inj q.2)), hA _ (fun q => hdc (aLA_inj q))]
      exact c7 d hd
  · exact (c8 p hp).2.1
  · show A1 (aOA E p) j = _
    rw [hA _ (by simp only [aOA, aLA]; omega)]; exact (c8 p hp).2.2 j hjl
  · show (if 512 + k = 65 ∧ _ then _ else h.1 (512 + k) (aM E m)) = _
    rw [key _ _ (by omega)]; exact m1 k hk
theorem sI_id {h : Hp} {f a : Nat} {v : Int32} (hv : h.1 f a = v) : sI h f a v = h := by
  have : (fun g b => if g = f ∧ b = a then v else h.1 g b) = h.1 := by
    funext g b
    by_cases q : g = f ∧ b = a
    · rw [if_pos q, q.1, q.2, hv]
    · rw [if_neg q]
  unfold sI
  rw [this]
/-- a place of the list c is written -/
theorem RR.setL (hR : RR E m σ τ h) {c k n : Nat} (hc : c < 8) (hk : k < (sLs σ c).length) : RR E m (uL σ c ((sLs σ c).set k n)) τ (sQ h (aLA E m c) k (some (aE E m n))) := by
  have c7 := hR.2.2.1.2.2.2.2.2.2.1 c hc
  have h1 := hR.relist (l := (sLs σ c).set k n) (A1 := fun b j => if b = aLA E m c ∧ j = k then some (aE E m n) else h.2.2.2.1 b j) hc (by rw [List.length_set]; exact c7.1) (fun b hb => by funext j; rw [if_neg (fun q => hb q.1)]) (fun j hj => by
    rw [List.length_set] at hj
    by_cases hjk : j = k
    · subst hjk
      rw [if_pos ⟨rfl, rfl⟩, List.getElem?_set_self hj]; rfl
    · rw [if_neg (fun q => hjk q.2), List.getElem?_set_ne (Ne.symm hjk)]
      exact c7.2.2 j hj)
  rw [sI_id (by rw [List.length_set]; exact c7.2.1)] at h1
  exact h1
/-- behind an aastore at the list's end: with the size written it is one longer -/
theorem RR.appL (hR : RR E m σ τ h) {c n : Nat} (hc : c < 8) (hl : (sLs σ c).length < 128) : RR E m (uL σ c (sLs σ c ++ [n])) τ (sI (sQ h (aLA E m c) (sLs σ c).length (some (aE E m n))) 65 (aLs E m c) (nI ((sLs σ c).length + 1))) := by
  have c7 := hR.2.2.1.2.2.2.2.2.2.1 c hc
  have h1 := hR.relist (l := sLs σ c ++ [n]) (A1 := fun b j => if b = aLA E m c ∧ j = (sLs σ c).length then some (aE E m n) else h.2.2.2.1 b j) hc (by simp; omega) (fun b hb => by funext j; rw [if_neg (fun q => hb q.1)]) (fun j hj => by
    rw [List.length_append] at hj
    by_cases hjk : j = (sLs σ c).length
    · subst hjk
      rw [if_pos ⟨rfl, rfl⟩, List.getElem?_append_right (Nat.le_refl _)]
      simp
    · have hj2 : j < (sLs σ c).length := by simp at hj; omega
      rw [if_neg (fun q => hjk q.2), List.getElem?_append_left hj2]
      exact c7.2.2 j hj2)
  rw [List.length_append] at h1
  exact h1
/-- the same for what a process published -/
theorem RR.keep (hR : RR E m σ τ h) {p n : Nat} (hp : p < m) (hl : (sPb σ p).length < 8) : RR E m (uP σ p (sPb σ p ++ [n])) τ (sI (sQ h (aOA E p) (sPb σ p).length (some (aE E m n))) 335 (aP E p) (nI ((sPb σ p).length + 1))) := by
  obtain ⟨hL, ⟨s1, s2, s3, s4, s5, s6, s7⟩, ⟨c1, c2, c3, c4, c5, c6, c7, c8⟩, ⟨m1, m2⟩⟩ := hR
  have key : ∀ f a, f ≠ 335 → (if f = 335 ∧ a = aP E p then nI ((sPb σ p).length + 1) else h.1 f a) = h.1 f a := fun f a hf => if_neg (fun q => hf q.1)
  have kq : ∀ b j, b ≠ aOA E p → (if b = aOA E p ∧ j = (sPb σ p).length then some (aE E m n) else h.2.2.2.1 b j) = h.2.2.2.1 b j := fun b j hb => if_neg (fun q => hb q.1)
  refine ⟨hL, ⟨s1, fun q hq => ?_, s3, fun q j hq hj8 => ?_, fun d hd => ⟨?_, (s5 d hd).2⟩, s6, s7⟩, ⟨c1, fun ci k i hv hk => ?_, c3, fun q hq => ?_, fun n' h1 h2 => ?_, c6, fun d hd => ⟨(c7 d hd).1, ?_, fun j hj => ?_⟩, fun q hq => ?_⟩, ⟨fun k hk => ?_, m2⟩⟩
  · show (if aPA E = aOA E p ∧ _ then _ else h.2.2.2.1 (aPA E) q) = _
    rw [kq _ _ (by simp only [aPA, aOA]; omega)]; exact s2 q hq
  · show (if aGA E q = aOA E p ∧ _ then _ else h.2.2.2.1 (aGA E q) j) = _
    rw [kq _ _ (by simp only [aGA, aOA]; omega)]; exact s4 q j hq hj8
  · show (if aLL E m = aOA E p ∧ _ then _ else h.2.2.2.1 (aLL E m) d) = _
    rw [kq _ _ (by simp only [aLL, aOA]; omega)]; exact (s5 d hd).1
  · obtain ⟨-, -, -, -, -, -, -, o8, -⟩ := okf_lt hk
    show (if 64 * ci + k = 335 ∧ _ then _ else h.1 (64 * ci + k) (ad E m ci i)) = _
    rw [key _ _ o8]; exact c2 ci k i hv hk
  · exact c4 q hq
  · exact c5 n' h1 h2
  · exact (c7 d hd).2.1
  · show (if aLA E m d = aOA E p ∧ _ then _ else h.2.2.2.1 (aLA E m d) j) = _
    rw [kq _ _ (by simp only [aLA, aOA]; omega)]; exact (c7 d hd).2.2 j hj
  · by_cases hqp : q = p
    · subst hqp
      show (if q = q then sPb σ q ++ [n] else sPb σ q).length ≤ 8 ∧ (if 335 = 335 ∧ aP E q = aP E q then nI ((sPb σ q).length + 1) else h.1 335 (aP E q)) = nI (if q = q then sPb σ q ++ [n] else sPb σ q).length ∧ ∀ j, j < (if q = q then sPb σ q ++ [n] else sPb σ q).length → (if aOA E q = aOA E q ∧ j = (sPb σ q).length then some (aE E m n) else h.2.2.2.1 (aOA E q) j) = ((if q = q then sPb σ q ++ [n] else sPb σ q)[j]?).map (aE E m)
      rw [if_pos rfl, if_pos ⟨rfl, rfl⟩, List.length_append]
      refine ⟨by simp; omega, rfl, fun j hj => ?_⟩
      by_cases hjk : j = (sPb σ q).length
      · subst hjk
        rw [if_pos ⟨rfl, rfl⟩, List.getElem?_append_right (Nat.le_refl _)]
        simp
      · have hj2 : j < (sPb σ q).length := by simp at hj; omega
        rw [if_neg (fun z => hjk z.2), List.getElem?_append_left hj2]
        exact (c8 q hq).2.2 j hj2
    · show (if q = p then sPb σ p ++ [n] else sPb σ q).length ≤ 8 ∧ (if 335 = 335 ∧ aP E q = aP E p then _ else h.1 335 (aP E q)) = nI (if q = p then sPb σ p ++ [n] else sPb σ q).length ∧ ∀ j, j < (if q = p then sPb σ p ++ [n] else sPb σ q).length → (if aOA E q = aOA E p ∧ j = (sPb σ p).length then some (aE E m n) else h.2.2.2.1 (aOA E q) j) = ((if q = p then sPb σ p ++ [n] else sPb σ q)[j]?).map (aE E m)
      rw [if_neg hqp, if_neg (fun z => hqp (aP_inj z.2))]
      refine ⟨(c8 q hq).1, (c8 q hq).2.1, fun j hj => ?_⟩
      rw [kq _ _ (by simp only [aOA]; omega)]
      exact (c8 q hq).2.2 j hj
  · show (if 512 + k = 335 ∧ _ then _ else h.1 (512 + k) (aM E m)) = _
    rw [key _ _ (by omega)]; exact m1 k hk
/-- a process has published nothing yet -/
theorem RR.pub0 (hR : RR E m σ τ h) {p : Nat} (hp : p < m) : RR E m (uP σ p []) τ (sI h 335 (aP E p) 0) := by
  obtain ⟨hL, hS, ⟨c1, c2, c3, c4, c5, c6, c7, c8⟩, ⟨m1, m2⟩⟩ := hR
  have key : ∀ f a, f ≠ 335 → (if f = 335 ∧ a = aP E p then (0 : Int32) else h.1 f a) = h.1 f a := fun f a hf => if_neg (fun q => hf q.1)
  refine ⟨hL, hS, ⟨c1, fun ci k i hv hk => ?_, c3, fun q hq => ?_, fun n' h1 h2 => ?_, c6, fun d hd => ⟨(c7 d hd).1, ?_, (c7 d hd).2.2⟩, fun q hq => ?_⟩, ⟨fun k hk => ?_, m2⟩⟩
  · obtain ⟨-, -, -, -, -, -, -, o8, -⟩ := okf_lt hk
    show (if 64 * ci + k = 335 ∧ _ then _ else h.1 (64 * ci + k) (ad E m ci i)) = _
    rw [key _ _ o8]; exact c2 ci k i hv hk
  · exact c4 q hq
  · exact c5 n' h1 h2
  · exact (c7 d hd).2.1
  · by_cases hqp : q = p
    · subst hqp
      show (if q = q then [] else sPb σ q).length ≤ 8 ∧ (if 335 = 335 ∧ aP E q = aP E q then (0 : Int32) else h.1 335 (aP E q)) = nI (if q = q then [] else sPb σ q).length ∧ ∀ j, j < (if q = q then [] else sPb σ q).length → _
      rw [if_pos rfl, if_pos ⟨rfl, rfl⟩]
      exact ⟨by simp, rfl, fun j hj => by simp at hj⟩
    · show (if q = p then [] else sPb σ q).length ≤ 8 ∧ (if 335 = 335 ∧ aP E q = aP E p then (0 : Int32) else h.1 335 (aP E q)) = nI (if q = p then [] else sPb σ q).length ∧ ∀ j, j < (if q = p then [] else sPb σ q).length → h.2.2.2.1 (aOA E q) j = ((if q = p then [] else sPb σ q)[j]?).map (aE E m)
      rw [if_neg hqp, if_neg (fun z => hqp (aP_inj z.2))]
      exact c8 q hq
  · show (if 512 + k = 335 ∧ _ then _ else h.1 (512 + k) (aM E m)) = _
    rw [key _ _ (by omega)]; exact m1 k hk
end LISTS

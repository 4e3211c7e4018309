/-! ===== THE LAYOUT of the cells that the law makes: m processes ===== -/
def aX (E : Ev) : Nat := eB E
def aPA (E : Ev) : Nat := eB E + 1
def aP (E : Ev) (p : Nat) : Nat := eB E + 2 + 13 * p
def aW (E : Ev) (p : Nat) : Nat := eB E + 3 + 13 * p
def aT (E : Ev) (p : Nat) : Nat := eB E + 4 + 13 * p
def aGA (E : Ev) (p : Nat) : Nat := eB E + 5 + 13 * p
def aOA (E : Ev) (p : Nat) : Nat := eB E + 6 + 13 * p
def aG (E : Ev) (g : Nat) : Nat := eB E + 7 + 13 * (g / 8) + g % 8
def aLL (E : Ev) (m : Nat) : Nat := eB E + 2 + 13 * m
def aLs (E : Ev) (m c : Nat) : Nat := eB E + 3 + 13 * m + 2 * c
def aLA (E : Ev) (m c : Nat) : Nat := eB E + 4 + 13 * m + 2 * c
def aPL (E : Ev) (m : Nat) : Nat := eB E + 19 + 13 * m
def aPP (E : Ev) (m : Nat) : Nat := eB E + 20 + 13 * m
def aM (E : Ev) (m : Nat) : Nat := eB E + 21 + 13 * m
/-- the model's array that its field k holds -/
def aMA (E : Ev) (m k : Nat) : Nat := aM E m + (if k ≤ 30 then k - 6 else k - 7)
/-- the entry with the number n (1, 2, ..) -/
def aE (E : Ev) (m n : Nat) : Nat := eB E + 54 + 13 * m + n
/-- what the model's array of field k is: kind and length -/
def mKd (k : Nat) : Nat := if k = 12 ∨ k = 20 ∨ k = 24 ∨ k = 25 ∨ k = 26 ∨ k = 40 then 10 else 9
def mLn (k : Nat) : Nat := if k = 9 ∨ k = 10 ∨ k = 11 ∨ k = 12 then 128 else if k ≤ 30 then 16 else if k ≤ 37 then 130 else if k = 38 then 1600 else 16016
def isMA (k : Nat) : Prop := (7 ≤ k ∧ k ≤ 30) ∨ (32 ≤ k ∧ k ≤ 40)
def ad (E : Ev) (m ci i : Nat) : Nat := match ci with
  | 0 => aE E m i | 1 => aLs E m i | 2 => aG E i | 3 => aT E i | 4 => aPL E m | 5 => aP E i | 6 => aW E i | 7 => aX E | _ => aM E m
def vd (m np ci i : Nat) : Prop := match ci with
  | 0 => 1 ≤ i ∧ i ≤ np | 1 => i < 8 | 2 => i < 8 * m | 3 => i < m | 4 => i = 0 | 5 => i < m | 6 => i < m | 7 => i = 0 | 8 => i = 0 | _ => False
/-- the int fields that the states hold -/
def okf (ci k : Nat) : Bool := match ci with
  | 0 => Nat.blt k 5 | 1 => false | 2 => Nat.blt k 4 | 3 => Nat.blt k 5 | 4 => k == 1
  | 5 => (Nat.ble 5 k && Nat.blt k 20) && !(k == 11) && !(k == 15)
  | 6 => Nat.blt k 3 | 7 => Nat.ble 3 k && Nat.blt k 9 | _ => false
/-- kinds and lengths -/
def LY (E : Ev) (m : Nat) : Prop :=
  (2 ≤ m ∧ m ≤ 16) ∧ (∀ ci i np, ci < 9 → vd m np ci i → eK E (ad E m ci i) = ci) ∧ (eK E (aPA E) = 14 ∧ eN E (aPA E) = m) ∧
  (∀ p, p < m → (eK E (aGA E p) = 13 ∧ eN E (aGA E p) = 8) ∧ (eK E (aOA E p) = 11 ∧ eN E (aOA E p) = 8)) ∧
  (eK E (aLL E m) = 12 ∧ eN E (aLL E m) = 8) ∧ (∀ c, c < 8 → eK E (aLA E m c) = 11 ∧ eN E (aLA E m c) = 128) ∧
  (eK E (aPP E m) = 9 ∧ eN E (aPP E m) = 1600) ∧ (∀ k, isMA k → eK E (aMA E m k) = mKd k ∧ eN E (aMA E m k) = mLn k)
/-- the references that never change -/
def SR (E : Ev) (m : Nat) (h : Hp) : Prop :=
  (h.2.1 448 (aX E) = some (aPA E) ∧ h.2.1 449 (aX E) = some (aLL E m) ∧ h.2.1 450 (aX E) = some (aPL E m)) ∧
  (∀ p, p < m → h.2.2.2.1 (aPA E) p = some (aP E p)) ∧
  (∀ p, p < m → h.2.1 321 (aP E p) = some (aW E p) ∧ h.2.1 322 (aP E p) = some (aT E p) ∧ h.2.1 323 (aP E p) = some (aGA E p) ∧ h.2.1 324 (aP E p) = some (aOA E p)) ∧
  (∀ p j, p < m → j < 8 → h.2.2.2.1 (aGA E p) j = some (aG E (8 * p + j))) ∧
  (∀ c, c < 8 → h.2.2.2.1 (aLL E m) c = some (aLs E m c) ∧ h.2.1 64 (aLs E m c) = some (aLA E m c)) ∧
  h.2.1 256 (aPL E m) = some (aPP E m) ∧ (∀ k, isMA k → h.2.1 (512 + k) (aM E m) = some (aMA E m k))
/-! ===== THE STATES. The class's: ints by (field number, place), what each process met, the lists, what each published, how many were published. The model's: ints by (field, place) ===== -/
abbrev Sg : Type := (Nat → Nat → Int32) × (Nat → Option Nat) × (Nat → List Nat) × (Nat → List Nat) × Nat
abbrev Tu : Type := Nat → Nat → Int32
abbrev sMet (σ : Sg) : Nat → Option Nat := σ.2.1
abbrev sLs (σ : Sg) : Nat → List Nat := σ.2.2.1
abbrev sPb (σ : Sg) : Nat → List Nat := σ.2.2.2.1
abbrev sNp (σ : Sg) : Nat := σ.2.2.2.2
def up (σ : Sg) (f i : Nat) (v : Int32) : Sg := (fun g j => if g = f ∧ j = i then v else σ.1 g j, σ.2)
def uM (σ : Sg) (p : Nat) (v : Option Nat) : Sg := (σ.1, fun q => if q = p then v else σ.2.1 q, σ.2.2)
def uL (σ : Sg) (c : Nat) (l : List Nat) : Sg := (σ.1, σ.2.1, fun q => if q = c then l else σ.2.2.1 q, σ.2.2.2)
def uP (σ : Sg) (p : Nat) (l : List Nat) : Sg := (σ.1, σ.2.1, σ.2.2.1, fun q => if q = p then l else σ.2.2.2.1 q, σ.2.2.2.2)
def ut (τ : Tu) (k i : Nat) (v : Int32) : Tu := fun g j => if g = k ∧ j = i then v else τ g j
def RC (E : Ev) (m : Nat) (σ : Sg) (h : Hp) : Prop :=
  hn h = aE E m (sNp σ + 1) ∧
  (∀ ci k i, vd m (sNp σ) ci i → okf ci k = true → h.1 (64 * ci + k) (ad E m ci i) = σ.1 (64 * ci + k) i) ∧
  (∀ i, i < 1600 → h.2.2.1 (aPP E m) i = σ.1 900 i) ∧
  (∀ p, p < m → h.1 320 (aP E p) = nI p) ∧ (∀ n, 1 ≤ n → n ≤ sNp σ → h.1 5 (aE E m n) = nI n) ∧
  (∀ p, p < m → h.2.1 331 (aP E p) = (sMet σ p).map (aE E m)) ∧
  (∀ c, c < 8 → (sLs σ c).length ≤ 128 ∧ h.1 65 (aLs E m c) = nI (sLs σ c).length ∧ ∀ j, j < (sLs σ c).length → h.2.2.2.1 (aLA E m c) j = ((sLs σ c)[j]?).map (aE E m)) ∧
  (∀ p, p < m → (sPb σ p).length ≤ 8 ∧ h.1 335 (aP E p) = nI (sPb σ p).length ∧ ∀ j, j < (sPb σ p).length → h.2.2.2.1 (aOA E p) j = ((sPb σ p)[j]?).map (aE E m))
def RM (E : Ev) (m : Nat) (τ : Tu) (h : Hp) : Prop :=
  (∀ k, k < 7 ∨ k = 31 → h.1 (512 + k) (aM E m) = τ k 0) ∧ (∀ k i, isMA k → i < mLn k → h.2.2.1 (aMA E m k) i = τ k i)
def RR (E : Ev) (m : Nat) (σ : Sg) (τ : Tu) (h : Hp) : Prop := LY E m ∧ SR E m h ∧ RC E m σ h ∧ RM E m τ h
theorem ad_inj {E : Ev} {m np ci i j : Nat} (h1 : vd m np ci i) (h2 : vd m np ci j) (h : ad E m ci i = ad E m ci j) : i = j := by
  unfold ad at h
  unfold vd at h1 h2
  rcases ci with _ | _ | _ | _ | _ | _ | _ | _ | _ | n
  · simp only [aE] at h; omega
  · simp only [aLs] at h; omega
  · simp only [aG] at h; omega
  · simp only [aT] at h; omega
  · exact h1.trans h2.symm
  · simp only [aP] at h; omega
  · simp only [aW] at h; omega
  · exact h1.trans h2.symm
  · exact h1.trans h2.symm
  · exact h1.elim
theorem ad_in {E : Ev} {m : Nat} {σ : Sg} {h : Hp} (hR : RC E m σ h) {ci i : Nat} (hv : vd m (sNp σ) ci i) : eB E ≤ ad E m ci i ∧ ad E m ci i < hn h := by
  rw [hR.1]
  rcases ci with _ | _ | _ | _ | _ | _ | _ | _ | _ | n
  · have hv : 1 ≤ i ∧ i ≤ sNp σ := hv
    simp only [ad, aE]; omega
  · have hv : i < 8 := hv
    simp only [ad, aLs, aE]; omega
  · have hv : i < 8 * m := hv
    simp only [ad, aG, aE]; omega
  · have hv : i < m := hv
    simp only [ad, aT, aE]; omega
  · simp only [ad, aPL, aE]; omega
  · have hv : i < m := hv
    simp only [ad, aP, aE]; omega
  · have hv : i < m := hv
    simp only [ad, aW, aE]; omega
  · simp only [ad, aX, aE]; omega
  · simp only [ad, aM, aE]; omega
  · exact hv.elim
theorem RR.ob {E : Ev} {m : Nat} {σ : Sg} {τ : Tu} {h : Hp} (hR : RR E m σ τ h) {ci i : Nat} (hc : ci < 9) (hv : vd m (sNp σ) ci i) : Ob E h ci (ad E m ci i) := ⟨hR.1.2.1 ci i _ hc hv, (ad_in hR.2.2.1 hv).1, (ad_in hR.2.2.1 hv).2⟩
theorem okf_lt {ci k : Nat} (h : okf ci k = true) : ci < 9 ∧ k < nfl ci ∧ isRf ci k = false ∧ k < 64 ∧ 64 * ci + k ≠ 320 ∧ 64 * ci + k ≠ 5 ∧ 64 * ci + k ≠ 65 ∧ 64 * ci + k ≠ 335 ∧ 64 * ci + k < 512 := by
  unfold okf at h
  rcases ci with _ | _ | _ | _ | _ | _ | _ | _ | n
  · have : k < 5 := by simpa using h
    exact ⟨by omega, by show k < 6; omega, rfl, by omega, by omega, by omega, by omega, by omega, by omega⟩
  · simp at h
  · have : k < 4 := by simpa using h
    exact ⟨by omega, by show k < 4; omega, rfl, by omega, by omega, by omega, by omega, by omega, by omega⟩
  · have : k < 5 := by simpa using h
    exact ⟨by omega, by show k < 5; omega, rfl, by omega, by omega, by omega, by omega, by omega, by omega⟩
  · have : k = 1 := by simpa using h
    subst this
    decide
  · simp at h
    obtain ⟨⟨⟨h1, h2⟩, h3⟩, h4⟩ := h
    refine ⟨by omega, by show k < 20; omega, ?_, by omega, by omega, by omega, by omega, by omega, by omega⟩
    simp [isRf]
    omega
  · have : k < 3 := by simpa using h
    exact ⟨by omega, by show k < 3; omega, rfl, by omega, by omega, by omega, by omega, by omega, by omega⟩
  · simp at h
    refine ⟨by omega, by show k < 9; omega, ?_, by omega, by omega, by omega, by omega, by omega, by omega⟩
    simp [isRf]
    omega
  · simp at h
/-- an int of the class's state is written -/
theorem RR.put {E : Ev} {m : Nat} {σ : Sg} {τ : Tu} {h : Hp} (hR : RR E m σ τ h) {ci k i : Nat} (hv : vd m (sNp σ) ci i) (hk : okf ci k = true) (v : Int32) : RR E m (up σ (64 * ci + k) i v) τ (sI h (64 * ci + k) (ad E m ci i) v) := by
  obtain ⟨hL, hS, ⟨c1, c2, c3, c4, c5, c6, c7, c8⟩, ⟨m1, m2⟩⟩ := hR
  obtain ⟨o1, o2, o3, o4, o5, o6, o7, o8, o9⟩ := okf_lt hk
  refine ⟨hL, hS, ⟨c1, fun ci' k' i' hv' hk' => ?_, fun i' hi' => ?_, fun p hp => ?_, fun n h1 h2 => ?_, c6, fun c hc => ⟨(c7 c hc).1, ?_, (c7 c hc).2.2⟩, fun p hp => ⟨(c8 p hp).1, ?_, (c8 p hp).2.2⟩⟩, ⟨fun k' hk' => ?_, m2⟩⟩
  · obtain ⟨-, -, -, q4, -⟩ := okf_lt hk'
    show (if 64 * ci' + k' = 64 * ci + k ∧ ad E m ci' i' = ad E m ci i then v else h.1 (64 * ci' + k') (ad E m ci' i')) = if 64 * ci' + k' = 64 * ci + k ∧ i' = i then v else σ.1 (64 * ci' + k') i'
    by_cases hf : 64 * ci' + k' = 64 * ci + k
    · have e1 : ci' = ci := by omega
      have e2 : k' = k := by omega
      subst e1; subst e2
      by_cases hi : i' = i
      · subst hi; simp
      · rw [if_neg (fun q => hi (ad_inj hv' hv q.2)), if_neg (fun q => hi q.2)]
        exact c2 _ _ _ hv' hk'
    · rw [if_neg (fun q => hf q.1), if_neg (fun q => hf q.1)]
      exact c2 _ _ _ hv' hk'
  · show h.2.2.1 (aPP E m) i' = if 900 = 64 * ci + k ∧ i' = i then v else σ.1 900 i'
    rw [if_neg (by omega)]
    exact c3 i' hi'
  · show (if 320 = 64 * ci + k ∧ _ then v else h.1 320 (aP E p)) = _
    rw [if_neg (fun q => o5 q.1.symm)]
    exact c4 p hp
  · show (if 5 = 64 * ci + k ∧ _ then v else h.1 5 (aE E m n)) = _
    rw [if_neg (fun q => o6 q.1.symm)]
    exact c5 n h1 h2
  · show (if 65 = 64 * ci + k ∧ _ then v else h.1 65 (aLs E m c)) = _
    rw [if_neg (fun q => o7 q.1.symm)]
    exact (c7 c hc).2.1
  · show (if 335 = 64 * ci + k ∧ _ then v else h.1 335 (aP E p)) = _
    rw [if_neg (fun q => o8 q.1.symm)]
    exact (c8 p hp).2.1
  · show (if 512 + k' = 64 * ci + k ∧ _ then v else h.1 (512 + k') (aM E m)) = _
    rw [if_neg (by omega)]
    exact m1 k' hk'
section SRULES
variable {E : Ev} {M : MD} {R : Room} {Post : Option Value → Hp → Prop} {pc : Nat} {L : List (Option Value)} {st : List Value} {h : Hp} {ac as : Nat} {m : Nat} {σ : Sg} {τ : Tu}
theorem G_gI (pc' : Nat) (hp : pc + 3 = pc') (hR : RR E m σ τ h) {idx ci k i : Nat} (hf : FL M.1 idx ci k) (hv : vd m (sNp σ) ci i) (hk : okf ci k = true) {a : Nat} (ha : a = ad E m ci i) (hd : decode M.2.2.1 pc = .ok (.getfield idx, 3)) (kk : G E M R Post pc' L (.int (σ.1 (64 * ci + k) i) :: st) h ac as) : G E M R Post pc L (.ref a :: st) h ac as := by
  subst ha
  refine G_getI pc' hp hf (okf_lt hk).2.2.1 (hR.ob (okf_lt hk).1 hv) hd ?_
  rw [hR.2.2.1.2.1 ci k i hv hk]
  exact kk
theorem G_pI (pc' : Nat) (hp : pc + 3 = pc') (hR : RR E m σ τ h) {idx ci k i : Nat} {v : Int32} (hf : FL M.1 idx ci k) (hv : vd m (sNp σ) ci i) (hk : okf ci k = true) (hty : tyF ci k = .int ∧ ((cT ci).2.1 k).2.2.2 = false) {a : Nat} (ha : a = ad E m ci i) (hd : decode M.2.2.1 pc = .ok (.putfield idx, 3)) (kk : ∀ h', RR E m (up σ (64 * ci + k) i v) τ h' → G E M R Post pc' L st h' ac as) : G E M R Post pc L (.int v :: .ref a :: st) h ac as := by
  subst ha
  exact G_putI pc' hp hf ⟨(okf_lt hk).2.2.1, hty⟩ (hR.ob (okf_lt hk).1 hv) hd (kk _ (hR.put hv hk v))
theorem G_pZ (pc' : Nat) (hp : pc + 3 = pc') (hR : RR E m σ τ h) {idx ci k i : Nat} {v : Int32} (hf : FL M.1 idx ci k) (hv : vd m (sNp σ) ci i) (hk : okf ci k = true) (hty : tyF ci k = .boolean ∧ ((cT ci).2.1 k).2.2.2 = false) (h01 : v = 0 ∨ v = 1) {a : Nat} (ha : a = ad E m ci i) (hd : decode M.2.2.1 pc = .ok (.putfield idx, 3)) (kk : ∀ h', RR E m (up σ (64 * ci + k) i v) τ h' → G E M R Post pc' L st h' ac as) : G E M R Post pc L (.int v :: .ref a :: st) h ac as := by
  subst ha
  exact G_putZ pc' hp hf ⟨(okf_lt hk).2.2.1, hty⟩ h01 (hR.ob (okf_lt hk).1 hv) hd (kk _ (hR.put hv hk v))
end SRULES

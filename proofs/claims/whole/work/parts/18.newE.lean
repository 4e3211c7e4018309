section NEWE
variable {E : Ev} {m : Nat} {σ : Sg} {τ : Tu} {h : Hp}
/-- an entry more: its ints are v 0 .. v 4 -/
def eNw (σ : Sg) (v : Nat → Int32) : Sg := (fun g j => if g < 5 ∧ j = sNp σ + 1 then v g else σ.1 g j, σ.2.1, σ.2.2.1, σ.2.2.2.1, sNp σ + 1)
theorem RR.grow (hR : RR E m σ τ h) {h' : Hp} {v : Nat → Int32} (e1 : ∀ f b, b ≠ hn h → h'.1 f b = h.1 f b) (e2 : ∀ f b, b ≠ hn h → h'.2.1 f b = h.2.1 f b) (e3 : ∀ b, b ≠ hn h → h'.2.2.1 b = h.2.2.1 b) (e4 : ∀ b, b ≠ hn h → h'.2.2.2.1 b = h.2.2.2.1 b) (e5 : hn h' = hn h + 1) (e6 : ∀ f, f < 5 → h'.1 f (hn h) = v f) (e7 : h'.1 5 (hn h) = nI (sNp σ + 1)) : RR E m (eNw σ v) τ h' := by
  have hn0 := hR.2.2.1.1
  have lt := fun {ci i : Nat} (hv : vd m (sNp σ) ci i) => (ad_in hR.2.2.1 hv).2
  obtain ⟨hL, ⟨s1, s2, s3, s4, s5, s6, s7⟩, ⟨c1, c2, c3, c4, c5, c6, c7, c8⟩, ⟨m1, m2⟩⟩ := hR
  have nX : aX E ≠ hn h := by rw [hn0]; simp only [aX, aE]; omega
  have nPA : aPA E ≠ hn h := by rw [hn0]; simp only [aPA, aE]; omega
  have nLL : aLL E m ≠ hn h := by rw [hn0]; simp only [aLL, aE]; omega
  have nPL : aPL E m ≠ hn h := by rw [hn0]; simp only [aPL, aE]; omega
  have nPP : aPP E m ≠ hn h := by rw [hn0]; simp only [aPP, aE]; omega
  have nM : aM E m ≠ hn h := by rw [hn0]; simp only [aM, aE]; omega
  have nP : ∀ p, p < m → aP E p ≠ hn h := fun p hp => by rw [hn0]; simp only [aP, aE]; omega
  have nGA : ∀ p, p < m → aGA E p ≠ hn h := fun p hp => by rw [hn0]; simp only [aGA, aE]; omega
  have nOA : ∀ p, p < m → aOA E p ≠ hn h := fun p hp => by rw [hn0]; simp only [aOA, aE]; omega
  have nLs : ∀ c, c < 8 → aLs E m c ≠ hn h := fun c hc => by rw [hn0]; simp only [aLs, aE]; omega
  have nLA : ∀ c, c < 8 → aLA E m c ≠ hn h := fun c hc => by rw [hn0]; simp only [aLA, aE]; omega
  have nMA : ∀ k, isMA k → aMA E m k ≠ hn h := fun k hk => by
    rw [hn0]; unfold isMA at hk; simp only [aMA, aM, aE]; split <;> omega
  refine ⟨hL, ⟨?_, fun p hp => ?_, fun p hp => ?_, fun p j hp hj => ?_, fun c hc => ?_, ?_, fun k hk => ?_⟩, ⟨?_, fun ci k i hv hk => ?_, fun i hi => ?_, fun p hp => ?_, fun n h1 h2 => ?_, fun p hp => ?_, fun c hc => ?_, fun p hp => ?_⟩, ⟨fun k hk => ?_, fun k i hk hi => ?_⟩⟩
  · rw [e2 _ _ nX, e2 _ _ nX, e2 _ _ nX]; exact s1
  · rw [e4 _ nPA]; exact s2 p hp
  · rw [e2 _ _ (nP p hp), e2 _ _ (nP p hp), e2 _ _ (nP p hp), e2 _ _ (nP p hp)]; exact s3 p hp
  · rw [e4 _ (nGA p hp)]; exact s4 p j hp hj
  · rw [e4 _ nLL, e2 _ _ (nLs c hc)]; exact s5 c hc
  · rw [e2 _ _ nPL]; exact s6
  · rw [e2 _ _ nM]; exact s7 k hk
  · rw [e5, hn0]; simp only [aE, eNw, sNp]; omega
  · obtain ⟨o1, o2, -, o4, -⟩ := okf_lt hk
    show h'.1 (64 * ci + k) (ad E m ci i) = if 64 * ci + k < 5 ∧ i = sNp σ + 1 then v (64 * ci + k) else σ.1 (64 * ci + k) i
    by_cases h0 : ci = 0 ∧ i = sNp σ + 1
    · obtain ⟨rfl, rfl⟩ := h0
      have hk5 : k < 5 := by simpa [okf] using hk
      rw [if_pos ⟨by omega, rfl⟩, show ad E m 0 (sNp σ + 1) = hn h from hn0.symm]
      exact e6 _ (by omega)
    · have hv' : vd m (sNp σ) ci i := by
        rcases ci with _ | _ | _ | _ | _ | _ | _ | _ | _ | ci
        · have hv : 1 ≤ i ∧ i ≤ sNp σ + 1 := hv
          exact ⟨hv.1, by omega⟩
        all_goals exact hv
      rw [if_neg (by
        rintro ⟨q1, q2⟩
        rcases ci with _ | ci
        · exact h0 ⟨rfl, q2⟩
        · omega), e1 _ _ (Nat.ne_of_lt (lt hv'))]
      exact c2 ci k i hv' hk
  · rw [e3 _ nPP]; exact c3 i hi
  · rw [e1 _ _ (nP p hp)]; exact c4 p hp
  · by_cases hnn : n = sNp σ + 1
    · subst hnn
      rw [show aE E m (sNp σ + 1) = hn h from hn0.symm]; exact e7
    · have h2' : n ≤ sNp σ := by
        have : n ≤ sNp σ + 1 := h2
        omega
      rw [e1 _ _ (by rw [hn0]; simp only [aE]; omega)]; exact c5 n h1 h2'
  · rw [e2 _ _ (nP p hp)]; exact c6 p hp
  · rw [e1 _ _ (nLs c hc), e4 _ (nLA c hc)]; exact c7 c hc
  · rw [e1 _ _ (nP p hp), e4 _ (nOA p hp)]; exact c8 p hp
  · rw [e1 _ _ nM]; exact m1 k hk
  · rw [e3 _ (nMA k hk)]; exact m2 k i hk hi
/-- Entry(..) at a new cell: what the six fields are behind it -/
def iE (h : Hp) (a g : Nat) (x y z : Int32) : Hp := sI (sI (sI (sI (sI (sI h 0 a x) 1 a y) 2 a (h.1 128 g)) 3 a (h.1 129 g)) 4 a (h.1 130 g)) 5 a z
set_option maxHeartbeats 4000000 in
set_option maxRecDepth 100000 in
theorem c_X0_init {a g : Nat} (ho : Ob E h 0 a) (hg : Ob E h 2 g) (x y z : Int32) : Cn E mX0_init (rk 1 0 0) h [.ref a, .int x, .int y, .ref g, .int z] (fun v h' => v = none ∧ h' = iE h a g x y z) := by
  refine Cn_of (by decide) rfl (by simp [Value.category]) (Nat.le_of_ble_eq_true rfl) ?_
  refine G_aload_n 1 rfl rfl dX0_init_0 ?_
  refine G_objInit 4 rfl ml_X0_3 w_oi1 w_oi2 (Nat.le_of_ble_eq_true rfl) ⟨by decide, by decide⟩ dX0_init_1 ?_
  refine G_aload_n 5 rfl rfl dX0_init_4 ?_
  refine G_iload_n 6 rfl rfl dX0_init_5 ?_
  refine G_putFI 9 rfl (ci := 0) (k := 0) fl_X0_9 ⟨rfl, rfl, rfl⟩ ⟨rfl, rfl⟩ ho dX0_init_6 ?_
  refine G_aload_n 10 rfl rfl dX0_init_9 ?_
  refine G_iload_n 11 rfl rfl dX0_init_10 ?_
  refine G_putFI 14 rfl (ci := 0) (k := 1) fl_X0_15 ⟨rfl, rfl, rfl⟩ ⟨rfl, rfl⟩ ho dX0_init_11 ?_
  refine G_aload_n 15 rfl rfl dX0_init_14 ?_
  refine G_aload_n 16 rfl rfl dX0_init_15 ?_
  refine G_getI 19 rfl (ci := 2) (k := 0) fl_X0_18 rfl hg dX0_init_16 ?_
  refine G_putFI 22 rfl (ci := 0) (k := 2) fl_X0_23 ⟨rfl, rfl, rfl⟩ ⟨rfl, rfl⟩ ho dX0_init_19 ?_
  refine G_aload_n 23 rfl rfl dX0_init_22 ?_
  refine G_aload_n 24 rfl rfl dX0_init_23 ?_
  refine G_getI 27 rfl (ci := 2) (k := 1) fl_X0_24 rfl hg dX0_init_24 ?_
  refine G_putFI 30 rfl (ci := 0) (k := 3) fl_X0_27 ⟨rfl, rfl, rfl⟩ ⟨rfl, rfl⟩ ho dX0_init_27 ?_
  refine G_aload_n 31 rfl rfl dX0_init_30 ?_
  refine G_aload_n 32 rfl rfl dX0_init_31 ?_
  refine G_getI 35 rfl (ci := 2) (k := 2) fl_X0_28 rfl hg dX0_init_32 ?_
  refine G_putFI 38 rfl (ci := 0) (k := 4) fl_X0_31 ⟨rfl, rfl, rfl⟩ ⟨rfl, rfl⟩ ho dX0_init_35 ?_
  refine G_aload_n 39 rfl rfl dX0_init_38 ?_
  refine G_iload 41 rfl rfl dX0_init_39 ?_
  refine G_putFI 44 rfl (ci := 0) (k := 5) fl_X0_32 ⟨rfl, rfl, rfl⟩ ⟨rfl, rfl⟩ ho dX0_init_41 ?_
  refine G_ret rfl ?_ dX0_init_44
  exact ⟨rfl, rfl⟩
theorem sN_1 {f b : Nat} (hb : b ≠ hn h) : (sN h).1 f b = h.1 f b := by simp [sN, hb]
theorem sN_2 {f b : Nat} (hb : b ≠ hn h) : (sN h).2.1 f b = h.2.1 f b := by simp [sN, hb]
theorem RR.newE (hR : RR E m σ τ h) {g : Nat} (hg : g < 8 * m) (x y : Int32) : RR E m (eNw σ (fun k => if k = 0 then x else if k = 1 then y else if k = 2 then σ.1 128 g else if k = 3 then σ.1 129 g else σ.1 130 g)) τ (iE (sN h) (hn h) (aG E g) x y (nI (sNp σ + 1))) := by
  have hlt := (ad_in hR.2.2.1 (ci := 2) (i := g) hg).2
  have hne : aG E g ≠ hn h := Nat.ne_of_lt hlt
  have g0 : h.1 128 (aG E g) = σ.1 128 g := hR.2.2.1.2.1 2 0 g hg rfl
  have g1 : h.1 129 (aG E g) = σ.1 129 g := hR.2.2.1.2.1 2 1 g hg rfl
  have g2 : h.1 130 (aG E g) = σ.1 130 g := hR.2.2.1.2.1 2 2 g hg rfl
  refine hR.grow (fun f b hb => ?_) (fun f b hb => ?_) (fun b hb => ?_) (fun b hb => ?_) rfl (fun f hf => ?_) ?_
  · simp [iE, sI, sN, hb]
  · simp [iE, sI, sN, hb]
  · funext j; simp [iE, sI, sN, hb]
  · funext j; simp [iE, sI, sN, hb]
  · rcases f with _ | _ | _ | _ | _ | f
    · simp [iE, sI]
    · simp [iE, sI]
    · simp [iE, sI, sN, hne, g0]
    · simp [iE, sI, sN, hne, g1]
    · simp [iE, sI, sN, hne, g2]
    · omega
  · simp [iE, sI]
end NEWE

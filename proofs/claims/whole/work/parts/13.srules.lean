section SRULES2
variable {E : Ev} {M : MD} {R : Room} {Post : Option Value → Hp → Prop} {pc : Nat} {L : List (Option Value)} {st : List Value} {h : Hp} {ac as : Nat} {m : Nat} {σ : Sg} {τ : Tu}
/-! ===== constants on the stack: the branch that is taken is known ===== -/
theorem G_ifT_eq (tgt : Nat) {x : Int32} {off : Int} (hx : x = 0) (ht : (pc : Int) + off = (tgt : Int)) (hd : decode M.2.2.1 pc = .ok (.ifCond .eq off, 3)) (kt : G E M R Post tgt L st h ac as) : G E M R Post pc L (.int x :: st) h ac as := G_if_eq tgt (pc + 3) rfl ht hd (fun _ => kt) (fun q => absurd hx q)
theorem G_ifF_eq (pc' : Nat) (hp : pc + 3 = pc') {x : Int32} {off : Int} (hx : ¬ x = 0) (ht : ∃ tgt : Nat, (pc : Int) + off = (tgt : Int)) (hd : decode M.2.2.1 pc = .ok (.ifCond .eq off, 3)) (kf : G E M R Post pc' L st h ac as) : G E M R Post pc L (.int x :: st) h ac as := by
  obtain ⟨tgt, ht⟩ := ht
  exact G_if_eq tgt pc' hp ht hd (fun q => absurd q hx) (fun _ => kf)
theorem G_icmpT_eq (tgt : Nat) {x y : Int32} {off : Int} (hx : x = y) (ht : (pc : Int) + off = (tgt : Int)) (hd : decode M.2.2.1 pc = .ok (.if_icmp .eq off, 3)) (kt : G E M R Post tgt L st h ac as) : G E M R Post pc L (.int y :: .int x :: st) h ac as := G_icmp_eq tgt (pc + 3) rfl ht hd (fun _ => kt) (fun q => absurd hx q)
theorem G_icmpF_eq (pc' : Nat) (hp : pc + 3 = pc') {x y : Int32} {off : Int} (hx : ¬ x = y) (ht : ∃ tgt : Nat, (pc : Int) + off = (tgt : Int)) (hd : decode M.2.2.1 pc = .ok (.if_icmp .eq off, 3)) (kf : G E M R Post pc' L st h ac as) : G E M R Post pc L (.int y :: .int x :: st) h ac as := by
  obtain ⟨tgt, ht⟩ := ht
  exact G_icmp_eq tgt pc' hp ht hd (fun q => absurd q hx) (fun _ => kf)
theorem G_ifT_ne (tgt : Nat) {x : Int32} {off : Int} (hx : ¬ x = 0) (ht : (pc : Int) + off = (tgt : Int)) (hd : decode M.2.2.1 pc = .ok (.ifCond .ne off, 3)) (kt : G E M R Post tgt L st h ac as) : G E M R Post pc L (.int x :: st) h ac as := G_if_ne tgt (pc + 3) rfl ht hd (fun _ => kt) (fun q => absurd hx (fun z => z q))
theorem G_ifF_ne (pc' : Nat) (hp : pc + 3 = pc') {x : Int32} {off : Int} (hx : x = 0) (ht : ∃ tgt : Nat, (pc : Int) + off = (tgt : Int)) (hd : decode M.2.2.1 pc = .ok (.ifCond .ne off, 3)) (kf : G E M R Post pc' L st h ac as) : G E M R Post pc L (.int x :: st) h ac as := by
  obtain ⟨tgt, ht⟩ := ht
  exact G_if_ne tgt pc' hp ht hd (fun q => absurd q (fun z => z hx)) (fun _ => kf)
theorem G_icmpT_ne (tgt : Nat) {x y : Int32} {off : Int} (hx : ¬ x = y) (ht : (pc : Int) + off = (tgt : Int)) (hd : decode M.2.2.1 pc = .ok (.if_icmp .ne off, 3)) (kt : G E M R Post tgt L st h ac as) : G E M R Post pc L (.int y :: .int x :: st) h ac as := G_icmp_ne tgt (pc + 3) rfl ht hd (fun _ => kt) (fun q => absurd hx (fun z => z q))
theorem G_icmpF_ne (pc' : Nat) (hp : pc + 3 = pc') {x y : Int32} {off : Int} (hx : x = y) (ht : ∃ tgt : Nat, (pc : Int) + off = (tgt : Int)) (hd : decode M.2.2.1 pc = .ok (.if_icmp .ne off, 3)) (kf : G E M R Post pc' L st h ac as) : G E M R Post pc L (.int y :: .int x :: st) h ac as := by
  obtain ⟨tgt, ht⟩ := ht
  exact G_icmp_ne tgt pc' hp ht hd (fun q => absurd q (fun z => z hx)) (fun _ => kf)
theorem G_ifT_lt (tgt : Nat) {x : Int32} {off : Int} (hx : x < 0) (ht : (pc : Int) + off = (tgt : Int)) (hd : decode M.2.2.1 pc = .ok (.ifCond .lt off, 3)) (kt : G E M R Post tgt L st h ac as) : G E M R Post pc L (.int x :: st) h ac as := G_if_lt tgt (pc + 3) rfl ht hd (fun _ => kt) (fun q => absurd hx q)
theorem G_ifF_lt (pc' : Nat) (hp : pc + 3 = pc') {x : Int32} {off : Int} (hx : ¬ x < 0) (ht : ∃ tgt : Nat, (pc : Int) + off = (tgt : Int)) (hd : decode M.2.2.1 pc = .ok (.ifCond .lt off, 3)) (kf : G E M R Post pc' L st h ac as) : G E M R Post pc L (.int x :: st) h ac as := by
  obtain ⟨tgt, ht⟩ := ht
  exact G_if_lt tgt pc' hp ht hd (fun q => absurd q hx) (fun _ => kf)
theorem G_icmpT_lt (tgt : Nat) {x y : Int32} {off : Int} (hx : x < y) (ht : (pc : Int) + off = (tgt : Int)) (hd : decode M.2.2.1 pc = .ok (.if_icmp .lt off, 3)) (kt : G E M R Post tgt L st h ac as) : G E M R Post pc L (.int y :: .int x :: st) h ac as := G_icmp_lt tgt (pc + 3) rfl ht hd (fun _ => kt) (fun q => absurd hx q)
theorem G_icmpF_lt (pc' : Nat) (hp : pc + 3 = pc') {x y : Int32} {off : Int} (hx : ¬ x < y) (ht : ∃ tgt : Nat, (pc : Int) + off = (tgt : Int)) (hd : decode M.2.2.1 pc = .ok (.if_icmp .lt off, 3)) (kf : G E M R Post pc' L st h ac as) : G E M R Post pc L (.int y :: .int x :: st) h ac as := by
  obtain ⟨tgt, ht⟩ := ht
  exact G_icmp_lt tgt pc' hp ht hd (fun q => absurd q hx) (fun _ => kf)
theorem G_ifT_ge (tgt : Nat) {x : Int32} {off : Int} (hx : 0 ≤ x) (ht : (pc : Int) + off = (tgt : Int)) (hd : decode M.2.2.1 pc = .ok (.ifCond .ge off, 3)) (kt : G E M R Post tgt L st h ac as) : G E M R Post pc L (.int x :: st) h ac as := G_if_ge tgt (pc + 3) rfl ht hd (fun _ => kt) (fun q => absurd hx q)
theorem G_ifF_ge (pc' : Nat) (hp : pc + 3 = pc') {x : Int32} {off : Int} (hx : ¬ 0 ≤ x) (ht : ∃ tgt : Nat, (pc : Int) + off = (tgt : Int)) (hd : decode M.2.2.1 pc = .ok (.ifCond .ge off, 3)) (kf : G E M R Post pc' L st h ac as) : G E M R Post pc L (.int x :: st) h ac as := by
  obtain ⟨tgt, ht⟩ := ht
  exact G_if_ge tgt pc' hp ht hd (fun q => absurd q hx) (fun _ => kf)
theorem G_icmpT_ge (tgt : Nat) {x y : Int32} {off : Int} (hx : y ≤ x) (ht : (pc : Int) + off = (tgt : Int)) (hd : decode M.2.2.1 pc = .ok (.if_icmp .ge off, 3)) (kt : G E M R Post tgt L st h ac as) : G E M R Post pc L (.int y :: .int x :: st) h ac as := G_icmp_ge tgt (pc + 3) rfl ht hd (fun _ => kt) (fun q => absurd hx q)
theorem G_icmpF_ge (pc' : Nat) (hp : pc + 3 = pc') {x y : Int32} {off : Int} (hx : ¬ y ≤ x) (ht : ∃ tgt : Nat, (pc : Int) + off = (tgt : Int)) (hd : decode M.2.2.1 pc = .ok (.if_icmp .ge off, 3)) (kf : G E M R Post pc' L st h ac as) : G E M R Post pc L (.int y :: .int x :: st) h ac as := by
  obtain ⟨tgt, ht⟩ := ht
  exact G_icmp_ge tgt pc' hp ht hd (fun q => absurd q hx) (fun _ => kf)
theorem G_ifT_gt (tgt : Nat) {x : Int32} {off : Int} (hx : 0 < x) (ht : (pc : Int) + off = (tgt : Int)) (hd : decode M.2.2.1 pc = .ok (.ifCond .gt off, 3)) (kt : G E M R Post tgt L st h ac as) : G E M R Post pc L (.int x :: st) h ac as := G_if_gt tgt (pc + 3) rfl ht hd (fun _ => kt) (fun q => absurd hx q)
theorem G_ifF_gt (pc' : Nat) (hp : pc + 3 = pc') {x : Int32} {off : Int} (hx : ¬ 0 < x) (ht : ∃ tgt : Nat, (pc : Int) + off = (tgt : Int)) (hd : decode M.2.2.1 pc = .ok (.ifCond .gt off, 3)) (kf : G E M R Post pc' L st h ac as) : G E M R Post pc L (.int x :: st) h ac as := by
  obtain ⟨tgt, ht⟩ := ht
  exact G_if_gt tgt pc' hp ht hd (fun q => absurd q hx) (fun _ => kf)
theorem G_icmpT_gt (tgt : Nat) {x y : Int32} {off : Int} (hx : y < x) (ht : (pc : Int) + off = (tgt : Int)) (hd : decode M.2.2.1 pc = .ok (.if_icmp .gt off, 3)) (kt : G E M R Post tgt L st h ac as) : G E M R Post pc L (.int y :: .int x :: st) h ac as := G_icmp_gt tgt (pc + 3) rfl ht hd (fun _ => kt) (fun q => absurd hx q)
theorem G_icmpF_gt (pc' : Nat) (hp : pc + 3 = pc') {x y : Int32} {off : Int} (hx : ¬ y < x) (ht : ∃ tgt : Nat, (pc : Int) + off = (tgt : Int)) (hd : decode M.2.2.1 pc = .ok (.if_icmp .gt off, 3)) (kf : G E M R Post pc' L st h ac as) : G E M R Post pc L (.int y :: .int x :: st) h ac as := by
  obtain ⟨tgt, ht⟩ := ht
  exact G_icmp_gt tgt pc' hp ht hd (fun q => absurd q hx) (fun _ => kf)
theorem G_ifT_le (tgt : Nat) {x : Int32} {off : Int} (hx : x ≤ 0) (ht : (pc : Int) + off = (tgt : Int)) (hd : decode M.2.2.1 pc = .ok (.ifCond .le off, 3)) (kt : G E M R Post tgt L st h ac as) : G E M R Post pc L (.int x :: st) h ac as := G_if_le tgt (pc + 3) rfl ht hd (fun _ => kt) (fun q => absurd hx q)
theorem G_ifF_le (pc' : Nat) (hp : pc + 3 = pc') {x : Int32} {off : Int} (hx : ¬ x ≤ 0) (ht : ∃ tgt : Nat, (pc : Int) + off = (tgt : Int)) (hd : decode M.2.2.1 pc = .ok (.ifCond .le off, 3)) (kf : G E M R Post pc' L st h ac as) : G E M R Post pc L (.int x :: st) h ac as := by
  obtain ⟨tgt, ht⟩ := ht
  exact G_if_le tgt pc' hp ht hd (fun q => absurd q hx) (fun _ => kf)
theorem G_icmpT_le (tgt : Nat) {x y : Int32} {off : Int} (hx : x ≤ y) (ht : (pc : Int) + off = (tgt : Int)) (hd : decode M.2.2.1 pc = .ok (.if_icmp .le off, 3)) (kt : G E M R Post tgt L st h ac as) : G E M R Post pc L (.int y :: .int x :: st) h ac as := G_icmp_le tgt (pc + 3) rfl ht hd (fun _ => kt) (fun q => absurd hx q)
theorem G_icmpF_le (pc' : Nat) (hp : pc + 3 = pc') {x y : Int32} {off : Int} (hx : ¬ x ≤ y) (ht : ∃ tgt : Nat, (pc : Int) + off = (tgt : Int)) (hd : decode M.2.2.1 pc = .ok (.if_icmp .le off, 3)) (kf : G E M R Post pc' L st h ac as) : G E M R Post pc L (.int y :: .int x :: st) h ac as := by
  obtain ⟨tgt, ht⟩ := ht
  exact G_icmp_le tgt pc' hp ht hd (fun q => absurd q hx) (fun _ => kf)
/-! ===== the class's references ===== -/
theorem RR.obPA (hR : RR E m σ τ h) : Ob E h 14 (aPA E) := ⟨hR.1.2.2.1.1, by simp only [aPA]; omega, by rw [hR.2.2.1.1]; simp only [aPA, aE]; omega⟩
theorem RR.obGA (hR : RR E m σ τ h) {p : Nat} (hp : p < m) : Ob E h 13 (aGA E p) := ⟨(hR.1.2.2.2.1 p hp).1.1, by simp only [aGA]; omega, by rw [hR.2.2.1.1]; simp only [aGA, aE]; omega⟩
theorem RR.obOA (hR : RR E m σ τ h) {p : Nat} (hp : p < m) : Ob E h 11 (aOA E p) := ⟨(hR.1.2.2.2.1 p hp).2.1, by simp only [aOA]; omega, by rw [hR.2.2.1.1]; simp only [aOA, aE]; omega⟩
theorem RR.obLL (hR : RR E m σ τ h) : Ob E h 12 (aLL E m) := ⟨hR.1.2.2.2.2.1.1, by simp only [aLL]; omega, by rw [hR.2.2.1.1]; simp only [aLL, aE]; omega⟩
theorem RR.obLA (hR : RR E m σ τ h) {c : Nat} (hc : c < 8) : Ob E h 11 (aLA E m c) := ⟨(hR.1.2.2.2.2.2.1 c hc).1, by simp only [aLA]; omega, by rw [hR.2.2.1.1]; simp only [aLA, aE]; omega⟩
theorem RR.obPP (hR : RR E m σ τ h) : Ob E h 9 (aPP E m) := ⟨hR.1.2.2.2.2.2.2.1.1, by simp only [aPP]; omega, by rw [hR.2.2.1.1]; simp only [aPP, aE]; omega⟩
theorem RR.obMA (hR : RR E m σ τ h) {k : Nat} (hk : isMA k) : Ob E h (mKd k) (aMA E m k) := ⟨(hR.1.2.2.2.2.2.2.2 k hk).1, by simp only [aMA, aM]; omega, by
  rw [hR.2.2.1.1]
  simp only [aMA, aM, aE]
  unfold isMA at hk
  split <;> omega⟩
theorem RR.lnMA (hR : RR E m σ τ h) {k : Nat} (hk : isMA k) : eN E (aMA E m k) = mLn k := (hR.1.2.2.2.2.2.2.2 k hk).2
theorem G_x0 (pc' : Nat) (hp : pc + 3 = pc') (hR : RR E m σ τ h) {idx : Nat} (hf : FL M.1 idx 7 0) (hd : decode M.2.2.1 pc = .ok (.getfield idx, 3)) (kk : G E M R Post pc' L (.ref (aPA E) :: st) h ac as) : G E M R Post pc L (.ref (aX E) :: st) h ac as := G_getR pc' hp hf rfl (hR.ob (ci := 7) (i := 0) (by omega) rfl) hR.2.1.1.1 hd kk
theorem G_x1 (pc' : Nat) (hp : pc + 3 = pc') (hR : RR E m σ τ h) {idx : Nat} (hf : FL M.1 idx 7 1) (hd : decode M.2.2.1 pc = .ok (.getfield idx, 3)) (kk : G E M R Post pc' L (.ref (aLL E m) :: st) h ac as) : G E M R Post pc L (.ref (aX E) :: st) h ac as := G_getR pc' hp hf rfl (hR.ob (ci := 7) (i := 0) (by omega) rfl) hR.2.1.1.2.1 hd kk
theorem G_x2 (pc' : Nat) (hp : pc + 3 = pc') (hR : RR E m σ τ h) {idx : Nat} (hf : FL M.1 idx 7 2) (hd : decode M.2.2.1 pc = .ok (.getfield idx, 3)) (kk : G E M R Post pc' L (.ref (aPL E m) :: st) h ac as) : G E M R Post pc L (.ref (aX E) :: st) h ac as := G_getR pc' hp hf rfl (hR.ob (ci := 7) (i := 0) (by omega) rfl) hR.2.1.1.2.2 hd kk
theorem G_procs (pc' : Nat) (hp : pc + 1 = pc') (hR : RR E m σ τ h) {i : Int32} {p : Nat} (hi : i = nI p) (hpm : p < m) (hd : decode M.2.2.1 pc = .ok (.aaload, 1)) (kk : G E M R Post pc' L (.ref (aP E p) :: st) h ac as) : G E M R Post pc L (.int i :: .ref (aPA E) :: st) h ac as :=
  G_aaloadR pc' hp p hi hR.obPA (by omega) (by omega) (by rw [hR.1.2.2.1.2]; exact hpm) (by have := hR.1.1; omega) (hR.2.1.2.1 p hpm) hd kk
theorem G_lists (pc' : Nat) (hp : pc + 1 = pc') (hR : RR E m σ τ h) {i : Int32} {c : Nat} (hi : i = nI c) (hc : c < 8) (hd : decode M.2.2.1 pc = .ok (.aaload, 1)) (kk : G E M R Post pc' L (.ref (aLs E m c) :: st) h ac as) : G E M R Post pc L (.int i :: .ref (aLL E m) :: st) h ac as :=
  G_aaloadR pc' hp c hi hR.obLL (by omega) (by omega) (by rw [hR.1.2.2.2.2.1.2]; exact hc) (by omega) (hR.2.1.2.2.2.2.1 c hc).1 hd kk
theorem G_guards (pc' : Nat) (hp : pc + 1 = pc') (hR : RR E m σ τ h) {i : Int32} {p j : Nat} (hi : i = nI j) (hpm : p < m) (hj : j < 8) (hd : decode M.2.2.1 pc = .ok (.aaload, 1)) (kk : G E M R Post pc' L (.ref (aG E (8 * p + j)) :: st) h ac as) : G E M R Post pc L (.int i :: .ref (aGA E p) :: st) h ac as :=
  G_aaloadR pc' hp j hi (hR.obGA hpm) (by omega) (by omega) (by rw [(hR.1.2.2.2.1 p hpm).1.2]; exact hj) (by omega) (hR.2.1.2.2.2.1 p j hpm hj) hd kk
theorem G_p1 (pc' : Nat) (hp : pc + 3 = pc') (hR : RR E m σ τ h) {idx p : Nat} (hf : FL M.1 idx 5 1) (hpm : p < m) (hd : decode M.2.2.1 pc = .ok (.getfield idx, 3)) (kk : G E M R Post pc' L (.ref (aW E p) :: st) h ac as) : G E M R Post pc L (.ref (aP E p) :: st) h ac as := G_getR pc' hp hf rfl (hR.ob (ci := 5) (i := p) (by omega) hpm) (hR.2.1.2.2.1 p hpm).1 hd kk
theorem G_p2 (pc' : Nat) (hp : pc + 3 = pc') (hR : RR E m σ τ h) {idx p : Nat} (hf : FL M.1 idx 5 2) (hpm : p < m) (hd : decode M.2.2.1 pc = .ok (.getfield idx, 3)) (kk : G E M R Post pc' L (.ref (aT E p) :: st) h ac as) : G E M R Post pc L (.ref (aP E p) :: st) h ac as := G_getR pc' hp hf rfl (hR.ob (ci := 5) (i := p) (by omega) hpm) (hR.2.1.2.2.1 p hpm).2.1 hd kk
theorem G_p3 (pc' : Nat) (hp : pc + 3 = pc') (hR : RR E m σ τ h) {idx p : Nat} (hf : FL M.1 idx 5 3) (hpm : p < m) (hd : decode M.2.2.1 pc = .ok (.getfield idx, 3)) (kk : G E M R Post pc' L (.ref (aGA E p) :: st) h ac as) : G E M R Post pc L (.ref (aP E p) :: st) h ac as := G_getR pc' hp hf rfl (hR.ob (ci := 5) (i := p) (by omega) hpm) (hR.2.1.2.2.1 p hpm).2.2.1 hd kk
theorem G_p4 (pc' : Nat) (hp : pc + 3 = pc') (hR : RR E m σ τ h) {idx p : Nat} (hf : FL M.1 idx 5 4) (hpm : p < m) (hd : decode M.2.2.1 pc = .ok (.getfield idx, 3)) (kk : G E M R Post pc' L (.ref (aOA E p) :: st) h ac as) : G E M R Post pc L (.ref (aP E p) :: st) h ac as := G_getR pc' hp hf rfl (hR.ob (ci := 5) (i := p) (by omega) hpm) (hR.2.1.2.2.1 p hpm).2.2.2 hd kk
theorem G_p0 (pc' : Nat) (hp : pc + 3 = pc') (hR : RR E m σ τ h) {idx p : Nat} (hf : FL M.1 idx 5 0) (hpm : p < m) (hd : decode M.2.2.1 pc = .ok (.getfield idx, 3)) (kk : G E M R Post pc' L (.int (nI p) :: st) h ac as) : G E M R Post pc L (.ref (aP E p) :: st) h ac as := by
  refine G_getI pc' hp hf rfl (hR.ob (ci := 5) (i := p) (by omega) hpm) hd ?_
  rw [show h.1 (64 * 5 + 0) (aP E p) = nI p from hR.2.2.1.2.2.2.1 p hpm]
  exact kk
theorem G_e5 (pc' : Nat) (hp : pc + 3 = pc') (hR : RR E m σ τ h) {idx n : Nat} (hf : FL M.1 idx 0 5) (hn1 : 1 ≤ n ∧ n ≤ sNp σ) (hd : decode M.2.2.1 pc = .ok (.getfield idx, 3)) (kk : G E M R Post pc' L (.int (nI n) :: st) h ac as) : G E M R Post pc L (.ref (aE E m n) :: st) h ac as := by
  refine G_getI pc' hp hf rfl (hR.ob (ci := 0) (i := n) (by omega) hn1) hd ?_
  rw [show h.1 (64 * 0 + 5) (aE E m n) = nI n from hR.2.2.1.2.2.2.2.1 n hn1.1 hn1.2]
  exact kk
theorem G_p15 (pc' : Nat) (hp : pc + 3 = pc') (hR : RR E m σ τ h) {idx p : Nat} (hf : FL M.1 idx 5 15) (hpm : p < m) (hd : decode M.2.2.1 pc = .ok (.getfield idx, 3)) (kk : G E M R Post pc' L (.int (nI (sPb σ p).length) :: st) h ac as) : G E M R Post pc L (.ref (aP E p) :: st) h ac as := by
  refine G_getI pc' hp hf rfl (hR.ob (ci := 5) (i := p) (by omega) hpm) hd ?_
  rw [show h.1 (64 * 5 + 15) (aP E p) = nI (sPb σ p).length from (hR.2.2.1.2.2.2.2.2.2.2 p hpm).2.1]
  exact kk
theorem G_l1 (pc' : Nat) (hp : pc + 3 = pc') (hR : RR E m σ τ h) {idx c : Nat} (hf : FL M.1 idx 1 1) (hc : c < 8) (hd : decode M.2.2.1 pc = .ok (.getfield idx, 3)) (kk : G E M R Post pc' L (.int (nI (sLs σ c).length) :: st) h ac as) : G E M R Post pc L (.ref (aLs E m c) :: st) h ac as := by
  refine G_getI pc' hp hf rfl (hR.ob (ci := 1) (i := c) (by omega) hc) hd ?_
  rw [show h.1 (64 * 1 + 1) (aLs E m c) = nI (sLs σ c).length from (hR.2.2.1.2.2.2.2.2.2.1 c hc).2.1]
  exact kk
theorem G_l0 (pc' : Nat) (hp : pc + 3 = pc') (hR : RR E m σ τ h) {idx c : Nat} (hf : FL M.1 idx 1 0) (hc : c < 8) (hd : decode M.2.2.1 pc = .ok (.getfield idx, 3)) (kk : G E M R Post pc' L (.ref (aLA E m c) :: st) h ac as) : G E M R Post pc L (.ref (aLs E m c) :: st) h ac as := G_getR pc' hp hf rfl (hR.ob (ci := 1) (i := c) (by omega) hc) (hR.2.1.2.2.2.2.1 c hc).2 hd kk
theorem G_g0 (pc' : Nat) (hp : pc + 3 = pc') (hR : RR E m σ τ h) {idx : Nat} (hf : FL M.1 idx 4 0) (hd : decode M.2.2.1 pc = .ok (.getfield idx, 3)) (kk : G E M R Post pc' L (.ref (aPP E m) :: st) h ac as) : G E M R Post pc L (.ref (aPL E m) :: st) h ac as := G_getR pc' hp hf rfl (hR.ob (ci := 4) (i := 0) (by omega) rfl) hR.2.1.2.2.2.2.2.1 hd kk
theorem G_met (pc' : Nat) (hp : pc + 3 = pc') (hR : RR E m σ τ h) {idx p : Nat} (hf : FL M.1 idx 5 11) (hpm : p < m) (hd : decode M.2.2.1 pc = .ok (.getfield idx, 3)) (kk : G E M R Post pc' L (va_rf ((sMet σ p).map (aE E m)) :: st) h ac as) : G E M R Post pc L (.ref (aP E p) :: st) h ac as := by
  refine G_getQ pc' hp hf rfl (hR.ob (ci := 5) (i := p) (by omega) hpm) hd ?_
  rw [show h.2.1 (64 * 5 + 11) (aP E p) = _ from hR.2.2.1.2.2.2.2.2.1 p hpm]
  exact kk
theorem aP_inj {E : Ev} {p q : Nat} (h : aP E p = aP E q) : p = q := by simp only [aP] at h; omega
theorem RR.putMet (hR : RR E m σ τ h) {p : Nat} (hpm : p < m) (v : Option Nat) : RR E m (uM σ p v) τ (sR h 331 (aP E p) (v.map (aE E m))) := by
  obtain ⟨hL, ⟨s1, s2, s3, s4, s5, s6, s7⟩, ⟨c1, c2, c3, c4, c5, c6, c7, c8⟩, hM⟩ := hR
  have key : ∀ f a, f ≠ 331 → (sR h 331 (aP E p) (v.map (aE E m))).2.1 f a = h.2.1 f a := fun f a hf => by
    show (if f = 331 ∧ a = aP E p then _ else h.2.1 f a) = _
    rw [if_neg (fun q => hf q.1)]
  refine ⟨hL, ⟨⟨?_, ?_, ?_⟩, s2, fun q hq => ⟨?_, ?_, ?_, ?_⟩, s4, fun c hc => ⟨(s5 c hc).1, ?_⟩, ?_, fun k hk => ?_⟩, ⟨c1, c2, c3, c4, c5, fun q hq => ?_, c7, c8⟩, hM⟩
  · rw [key _ _ (by omega)]; exact s1.1
  · rw [key _ _ (by omega)]; exact s1.2.1
  · rw [key _ _ (by omega)]; exact s1.2.2
  · rw [key _ _ (by omega)]; exact (s3 q hq).1
  · rw [key _ _ (by omega)]; exact (s3 q hq).2.1
  · rw [key _ _ (by omega)]; exact (s3 q hq).2.2.1
  · rw [key _ _ (by omega)]; exact (s3 q hq).2.2.2
  · rw [key _ _ (by omega)]; exact (s5 c hc).2
  · rw [key _ _ (by omega)]; exact s6
  · rw [key _ _ (by omega)]; exact s7 k hk
  · show (if 331 = 331 ∧ aP E q = aP E p then v.map (aE E m) else h.2.1 331 (aP E q)) = (if q = p then v else σ.2.1 q).map (aE E m)
    by_cases hqp : q = p
    · subst hqp; simp
    · rw [if_neg (fun z => hqp (aP_inj z.2)), if_neg hqp]
      exact c6 q hq
theorem G_putMet (pc' : Nat) (hp : pc + 3 = pc') (hR : RR E m σ τ h) {idx p n : Nat} (hf : FL M.1 idx 5 11) (hpm : p < m) (hd : decode M.2.2.1 pc = .ok (.putfield idx, 3)) (kk : ∀ h', RR E m (uM σ p (some n)) τ h' → G E M R Post pc' L st h' ac as) : G E M R Post pc L (.ref (aE E m n) :: .ref (aP E p) :: st) h ac as :=
  G_putR pc' hp hf ⟨rfl, rfl, rfl⟩ (hR.ob (ci := 5) (i := p) (by omega) hpm) hd (kk _ (hR.putMet hpm (some n)))
theorem G_putMetN (pc' : Nat) (hp : pc + 3 = pc') (hR : RR E m σ τ h) {idx p : Nat} (hf : FL M.1 idx 5 11) (hpm : p < m) (hd : decode M.2.2.1 pc = .ok (.putfield idx, 3)) (kk : ∀ h', RR E m (uM σ p none) τ h' → G E M R Post pc' L st h' ac as) : G E M R Post pc L (.null :: .ref (aP E p) :: st) h ac as :=
  G_putN pc' hp hf ⟨rfl, rfl, rfl⟩ (hR.ob (ci := 5) (i := p) (by omega) hpm) hd (kk _ (hR.putMet hpm none))
/-! ===== lists, what was published, pairs ===== -/
theorem G_oAt (pc' : Nat) (hp : pc + 1 = pc') (hR : RR E m σ τ h) {i : Int32} {p j n : Nat} (hi : i = nI j) (hpm : p < m) (hj : (sPb σ p)[j]? = some n) (hd : decode M.2.2.1 pc = .ok (.aaload, 1)) (kk : G E M R Post pc' L (.ref (aE E m n) :: st) h ac as) : G E M R Post pc L (.int i :: .ref (aOA E p) :: st) h ac as := by
  have c8 := hR.2.2.1.2.2.2.2.2.2.2 p hpm
  have hl : j < (sPb σ p).length := (List.getElem?_eq_some_iff.mp hj).1
  refine G_aaloadR pc' hp j hi (hR.obOA hpm) (by omega) (by omega) (by rw [(hR.1.2.2.2.1 p hpm).2.2]; have := c8.1; omega) (by have := c8.1; omega) (b := aE E m n) ?_ hd kk
  rw [c8.2.2 j hl, hj]
  rfl
theorem G_ppGet (pc' : Nat) (hp : pc + 1 = pc') (hR : RR E m σ τ h) {i : Int32} {j : Nat} (hi : i = nI j) (hj : j < 1600) (hd : decode M.2.2.1 pc = .ok (.iaload, 1)) (kk : G E M R Post pc' L (.int (σ.1 900 j) :: st) h ac as) : G E M R Post pc L (.int i :: .ref (aPP E m) :: st) h ac as := by
  refine G_iaload pc' hp j hi hR.obPP (by rw [hR.1.2.2.2.2.2.2.1.2]; exact hj) (by omega) hd ?_
  rw [hR.2.2.1.2.2.1 j hj]
  exact kk
theorem aPP_ne {E : Ev} {m k : Nat} (hk : isMA k) : aMA E m k ≠ aPP E m := by
  unfold isMA at hk
  simp only [aMA, aPP, aM]
  split <;> omega
theorem RR.putPP (hR : RR E m σ τ h) {j : Nat} (v : Int32) : RR E m (up σ 900 j v) τ (sA h (aPP E m) j v) := by
  obtain ⟨hL, hS, ⟨c1, c2, c3, c4, c5, c6, c7, c8⟩, ⟨m1, m2⟩⟩ := hR
  refine ⟨hL, hS, ⟨c1, fun ci k i hv hk => ?_, fun i hi => ?_, c4, c5, c6, c7, c8⟩, ⟨m1, fun k i hk hi => ?_⟩⟩
  · show h.1 _ _ = if 64 * ci + k = 900 ∧ i = j then v else σ.1 (64 * ci + k) i
    obtain ⟨-, -, -, -, -, -, -, -, o9⟩ := okf_lt hk
    rw [if_neg (by omega)]
    exact c2 ci k i hv hk
  · show (if aPP E m = aPP E m ∧ i = j then v else h.2.2.1 (aPP E m) i) = if 900 = 900 ∧ i = j then v else σ.1 900 i
    by_cases hij : i = j
    · simp [hij]
    · rw [if_neg (fun q => hij q.2), if_neg (fun q => hij q.2)]
      exact c3 i hi
  · show (if aMA E m k = aPP E m ∧ i = j then v else h.2.2.1 (aMA E m k) i) = _
    rw [if_neg (fun q => aPP_ne hk q.1)]
    exact m2 k i hk hi
theorem G_ppPut (pc' : Nat) (hp : pc + 1 = pc') (hR : RR E m σ τ h) {i v : Int32} {j : Nat} (hi : i = nI j) (hj : j < 1600) (hd : decode M.2.2.1 pc = .ok (.iastore, 1)) (kk : ∀ h', RR E m (up σ 900 j v) τ h' → G E M R Post pc' L st h' ac as) : G E M R Post pc L (.int v :: .int i :: .ref (aPP E m) :: st) h ac as :=
  G_iastore pc' hp j hi hR.obPP (by rw [hR.1.2.2.2.2.2.2.1.2]; exact hj) (by omega) hd (kk _ (hR.putPP v))
/-! ===== the model's ===== -/
theorem G_mI (pc' : Nat) (hp : pc + 3 = pc') (hR : RR E m σ τ h) {idx k : Nat} (hf : FL M.1 idx 8 k) (hk : k < 7 ∨ k = 31) (hi : isRf 8 k = false) (hd : decode M.2.2.1 pc = .ok (.getfield idx, 3)) (kk : G E M R Post pc' L (.int (τ k 0) :: st) h ac as) : G E M R Post pc L (.ref (aM E m) :: st) h ac as := by
  refine G_getI pc' hp hf hi (hR.ob (ci := 8) (i := 0) (by omega) rfl) hd ?_
  rw [show h.1 (64 * 8 + k) (aM E m) = τ k 0 from hR.2.2.2.1 k hk]
  exact kk
theorem G_mR (pc' : Nat) (hp : pc + 3 = pc') (hR : RR E m σ τ h) {idx k : Nat} (hf : FL M.1 idx 8 k) (hk : isMA k) (hi : isRf 8 k = true) (hd : decode M.2.2.1 pc = .ok (.getfield idx, 3)) (kk : G E M R Post pc' L (.ref (aMA E m k) :: st) h ac as) : G E M R Post pc L (.ref (aM E m) :: st) h ac as :=
  G_getR pc' hp hf hi (hR.ob (ci := 8) (i := 0) (by omega) rfl) (show h.2.1 (64 * 8 + k) (aM E m) = _ from hR.2.1.2.2.2.2.2.2 k hk) hd kk
theorem ad_ne_M {E : Ev} {m np ci i : Nat} (hv : vd m np ci i) (hc : ci < 8) : ad E m ci i ≠ aM E m := by
  rcases ci with _ | _ | _ | _ | _ | _ | _ | _ | n
  · simp only [ad, aE, aM]; omega
  · have hv : i < 8 := hv
    simp only [ad, aLs, aM]; omega
  · have hv : i < 8 * m := hv
    simp only [ad, aG, aM]; omega
  · have hv : i < m := hv
    simp only [ad, aT, aM]; omega
  · simp only [ad, aPL, aM]; omega
  · have hv : i < m := hv
    simp only [ad, aP, aM]; omega
  · have hv : i < m := hv
    simp only [ad, aW, aM]; omega
  · simp only [ad, aX, aM]; omega
  · omega
theorem RR.putM (hR : RR E m σ τ h) {k : Nat} (v : Int32) (hk : k < 7 ∨ k = 31) : RR E m σ (ut τ k 0 v) (sI h (512 + k) (aM E m) v) := by
  obtain ⟨hL, hS, ⟨c1, c2, c3, c4, c5, c6, c7, c8⟩, ⟨m1, m2⟩⟩ := hR
  refine ⟨hL, hS, ⟨c1, fun ci k' i hv' hk' => ?_, c3, fun p hp => ?_, fun n h1 h2 => ?_, c6, fun c hc => ⟨(c7 c hc).1, ?_, (c7 c hc).2.2⟩, fun p hp => ⟨(c8 p hp).1, ?_, (c8 p hp).2.2⟩⟩, ⟨fun k' hk' => ?_, fun k' i hk' hi => ?_⟩⟩
  · obtain ⟨-, -, -, -, -, -, -, -, o9⟩ := okf_lt hk'
    show (if 64 * ci + k' = 512 + k ∧ _ then v else h.1 _ _) = _
    rw [if_neg (by omega)]
    exact c2 _ _ _ hv' hk'
  · show (if 320 = 512 + k ∧ _ then v else h.1 320 (aP E p)) = _
    rw [if_neg (by omega)]; exact c4 p hp
  · show (if 5 = 512 + k ∧ _ then v else h.1 5 (aE E m n)) = _
    rw [if_neg (by omega)]; exact c5 n h1 h2
  · show (if 65 = 512 + k ∧ _ then v else h.1 65 (aLs E m c)) = _
    rw [if_neg (by omega)]; exact (c7 c hc).2.1
  · show (if 335 = 512 + k ∧ _ then v else h.1 335 (aP E p)) = _
    rw [if_neg (by omega)]; exact (c8 p hp).2.1
  · show (if 512 + k' = 512 + k ∧ aM E m = aM E m then v else h.1 (512 + k') (aM E m)) = if k' = k ∧ 0 = 0 then v else τ k' 0
    by_cases q : k' = k
    · simp [q]
    · rw [if_neg (by omega), if_neg (by omega)]; exact m1 k' hk'
  · show h.2.2.1 (aMA E m k') i = if k' = k ∧ i = 0 then v else τ k' i
    rw [if_neg (by unfold isMA at hk'; omega)]
    exact m2 k' i hk' hi
theorem G_pM (pc' : Nat) (hp : pc + 3 = pc') (hR : RR E m σ τ h) {idx k : Nat} {v : Int32} (hf : FL M.1 idx 8 k) (hk : k < 7 ∨ k = 31) (hi : isRf 8 k = false ∧ tyF 8 k = .int ∧ ((cT 8).2.1 k).2.2.2 = false) (hd : decode M.2.2.1 pc = .ok (.putfield idx, 3)) (kk : ∀ h', RR E m σ (ut τ k 0 v) h' → G E M R Post pc' L st h' ac as) : G E M R Post pc L (.int v :: .ref (aM E m) :: st) h ac as :=
  G_putI pc' hp hf hi (hR.ob (ci := 8) (i := 0) (by omega) rfl) hd (kk _ (hR.putM v hk))
theorem aMA_inj {E : Ev} {m k k' : Nat} (h1 : isMA k) (h2 : isMA k') (h : aMA E m k = aMA E m k') : k = k' := by
  unfold isMA at h1 h2
  simp only [aMA] at h
  split at h <;> split at h <;> omega
theorem RR.putMA (hR : RR E m σ τ h) {k j : Nat} (v : Int32) (hk : isMA k) : RR E m σ (ut τ k j v) (sA h (aMA E m k) j v) := by
  obtain ⟨hL, hS, ⟨c1, c2, c3, c4, c5, c6, c7, c8⟩, ⟨m1, m2⟩⟩ := hR
  refine ⟨hL, hS, ⟨c1, c2, fun i hi => ?_, c4, c5, c6, c7, c8⟩, ⟨fun k' hk' => ?_, fun k' i hk' hi => ?_⟩⟩
  · show (if aPP E m = aMA E m k ∧ i = j then v else h.2.2.1 (aPP E m) i) = _
    rw [if_neg (fun q => aPP_ne hk q.1.symm)]
    exact c3 i hi
  · show h.1 (512 + k') (aM E m) = if k' = k ∧ 0 = j then v else τ k' 0
    rw [if_neg (by unfold isMA at hk; omega)]
    exact m1 k' hk'
  · show (if aMA E m k' = aMA E m k ∧ i = j then v else h.2.2.1 (aMA E m k') i) = if k' = k ∧ i = j then v else τ k' i
    by_cases q : k' = k ∧ i = j
    · obtain ⟨rfl, rfl⟩ := q; simp
    · rw [if_neg (fun z => q ⟨aMA_inj hk' hk z.1, z.2⟩), if_neg q]
      exact m2 k' i hk' hi
theorem G_mld (pc' : Nat) (hp : pc + 1 = pc') (hR : RR E m σ τ h) {i : Int32} {k : Nat} (j : Nat) (hi : i = nI j) (hk : isMA k) (hkd : mKd k = 9) (hj : j < mLn k) (hd : decode M.2.2.1 pc = .ok (.iaload, 1)) (kk : G E M R Post pc' L (.int (τ k j) :: st) h ac as) : G E M R Post pc L (.int i :: .ref (aMA E m k) :: st) h ac as := by
  have hl : mLn k ≤ 16016 := by unfold mLn; repeat' split
                                all_goals omega
  refine G_iaload pc' hp j hi (by have := hR.obMA hk; rw [hkd] at this; exact this) (by rw [hR.lnMA hk]; exact hj) (by omega) hd ?_
  rw [hR.2.2.2.2 k j hk hj]
  exact kk
theorem G_mldZ (pc' : Nat) (hp : pc + 1 = pc') (hR : RR E m σ τ h) {i : Int32} {k : Nat} (j : Nat) (hi : i = nI j) (hk : isMA k) (hkd : mKd k = 10) (hj : j < mLn k) (hd : decode M.2.2.1 pc = .ok (.baload, 1)) (kk : G E M R Post pc' L (.int (τ k j) :: st) h ac as) : G E M R Post pc L (.int i :: .ref (aMA E m k) :: st) h ac as := by
  have hl : mLn k ≤ 16016 := by unfold mLn; repeat' split
                                all_goals omega
  refine G_baload pc' hp j hi (by have := hR.obMA hk; rw [hkd] at this; exact this) (by rw [hR.lnMA hk]; exact hj) (by omega) hd ?_
  rw [hR.2.2.2.2 k j hk hj]
  exact kk
theorem G_mst (pc' : Nat) (hp : pc + 1 = pc') (hR : RR E m σ τ h) {i v : Int32} {k : Nat} (j : Nat) (hi : i = nI j) (hk : isMA k) (hkd : mKd k = 9) (hj : j < mLn k) (hd : decode M.2.2.1 pc = .ok (.iastore, 1)) (kk : ∀ h', RR E m σ (ut τ k j v) h' → G E M R Post pc' L st h' ac as) : G E M R Post pc L (.int v :: .int i :: .ref (aMA E m k) :: st) h ac as := by
  have hl : mLn k ≤ 16016 := by unfold mLn; repeat' split
                                all_goals omega
  exact G_iastore pc' hp j hi (by have := hR.obMA hk; rw [hkd] at this; exact this) (by rw [hR.lnMA hk]; exact hj) (by omega) hd (kk _ (hR.putMA v hk))
theorem G_mstZ (pc' : Nat) (hp : pc + 1 = pc') (hR : RR E m σ τ h) {i v : Int32} {k : Nat} (j : Nat) (hi : i = nI j) (hk : isMA k) (hkd : mKd k = 10) (hj : j < mLn k) (h01 : v = 0 ∨ v = 1) (hd : decode M.2.2.1 pc = .ok (.bastore, 1)) (kk : ∀ h', RR E m σ (ut τ k j v) h' → G E M R Post pc' L st h' ac as) : G E M R Post pc L (.int v :: .int i :: .ref (aMA E m k) :: st) h ac as := by
  have hl : mLn k ≤ 16016 := by unfold mLn; repeat' split
                                all_goals omega
  exact G_bastore pc' hp j hi (by have := hR.obMA hk; rw [hkd] at this; exact this) (by rw [hR.lnMA hk]; exact hj) (by omega) h01 hd (kk _ (hR.putMA v hk))
end SRULES2

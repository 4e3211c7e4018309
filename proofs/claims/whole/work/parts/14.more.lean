section MORE
variable {E : Ev} {M : MD} {R : Room} {Post : Option Value → Hp → Prop} {pc : Nat} {L : List (Option Value)} {st : List Value} {h : Hp} {ac as : Nat} {m : Nat} {σ : Sg} {τ : Tu}
theorem tb_out {x : Int32} {n : Nat} (hn : n < 2 ^ 31) (h : ∀ j, j ≤ n → x ≠ nI j) : x.toInt < 0 ∨ (n : Int) < x.toInt := by
  by_cases h1 : x.toInt < 0
  · exact Or.inl h1
  · by_cases h2 : (n : Int) < x.toInt
    · exact Or.inr h2
    · exfalso
      have h3 : vp_in x (n + 1) := vp_in_iff.mpr ⟨by omega, by push_cast; omega⟩
      by_cases h4 : n + 1 < 2 ^ 31
      · obtain ⟨j, hj, e⟩ := vp_in_of h3 h4
        exact h j (by omega) e
      · have e : x.toInt.toNat ≤ n := by omega
        refine h _ e ?_
        apply Int32.toInt_inj.mp
        rw [nI_toInt (by omega)]
        omega
theorem up_same (σ : Sg) (f i : Nat) (v : Int32) : (up σ f i v).1 f i = v := by simp [up]
theorem up_fne (σ : Sg) {f g : Nat} (i j : Nat) (v : Int32) (h : g ≠ f) : (up σ f i v).1 g j = σ.1 g j := by simp [up, h]
theorem up_ine (σ : Sg) (f g : Nat) {i j : Nat} (v : Int32) (h : j ≠ i) : (up σ f i v).1 g j = σ.1 g j := by simp [up, h]
theorem ut_same (τ : Tu) (f i : Nat) (v : Int32) : ut τ f i v f i = v := by simp [ut]
theorem ut_fne (τ : Tu) {f g : Nat} (i j : Nat) (v : Int32) (h : g ≠ f) : ut τ f i v g j = τ g j := by simp [ut, h]
theorem ut_ine (τ : Tu) (f g : Nat) {i j : Nat} (v : Int32) (h : j ≠ i) : ut τ f i v g j = τ g j := by simp [ut, h]
theorem G_gi (pc' : Nat) (hp : pc + 3 = pc') (hR : RR E m σ τ h) (ci k i f : Nat) (v : Int32) {idx : Nat} (hf : FL M.1 idx ci k) (hv : vd m (sNp σ) ci i) (hk : okf ci k = true) {a : Nat} (ha : a = ad E m ci i) (he : 64 * ci + k = f) (hv2 : σ.1 f i = v) (hd : decode M.2.2.1 pc = .ok (.getfield idx, 3)) (kk : G E M R Post pc' L (.int v :: st) h ac as) : G E M R Post pc L (.ref a :: st) h ac as := by
  subst he; subst hv2
  exact G_gI pc' hp hR hf hv hk ha hd kk
theorem G_pi (pc' : Nat) (hp : pc + 3 = pc') (hR : RR E m σ τ h) (ci k i f : Nat) {v : Int32} {idx : Nat} (hf : FL M.1 idx ci k) (hv : vd m (sNp σ) ci i) (hk : okf ci k = true) (hty : tyF ci k = .int ∧ ((cT ci).2.1 k).2.2.2 = false) {a : Nat} (ha : a = ad E m ci i) (he : 64 * ci + k = f) (hd : decode M.2.2.1 pc = .ok (.putfield idx, 3)) (kk : ∀ h', RR E m (up σ f i v) τ h' → G E M R Post pc' L st h' ac as) : G E M R Post pc L (.int v :: .ref a :: st) h ac as := by
  subst he
  exact G_pI pc' hp hR hf hv hk hty ha hd kk
theorem G_pz (pc' : Nat) (hp : pc + 3 = pc') (hR : RR E m σ τ h) (ci k i f : Nat) {v : Int32} {idx : Nat} (hf : FL M.1 idx ci k) (hv : vd m (sNp σ) ci i) (hk : okf ci k = true) (hty : tyF ci k = .boolean ∧ ((cT ci).2.1 k).2.2.2 = false) (h01 : v = 0 ∨ v = 1) {a : Nat} (ha : a = ad E m ci i) (he : 64 * ci + k = f) (hd : decode M.2.2.1 pc = .ok (.putfield idx, 3)) (kk : ∀ h', RR E m (up σ f i v) τ h' → G E M R Post pc' L st h' ac as) : G E M R Post pc L (.int v :: .ref a :: st) h ac as := by
  subst he
  exact G_pZ pc' hp hR hf hv hk hty h01 ha hd kk
theorem G_metS (pc' : Nat) (hp : pc + 3 = pc') (hR : RR E m σ τ h) {idx p n : Nat} (hm : sMet σ p = some n) (hf : FL M.1 idx 5 11) (hpm : p < m) (hd : decode M.2.2.1 pc = .ok (.getfield idx, 3)) (kk : G E M R Post pc' L (.ref (aE E m n) :: st) h ac as) : G E M R Post pc L (.ref (aP E p) :: st) h ac as := by
  refine G_met pc' hp hR hf hpm hd ?_
  rw [hm]
  exact kk
theorem G_metN (pc' : Nat) (hp : pc + 3 = pc') (hR : RR E m σ τ h) {idx p : Nat} (hm : sMet σ p = none) (hf : FL M.1 idx 5 11) (hpm : p < m) (hd : decode M.2.2.1 pc = .ok (.getfield idx, 3)) (kk : G E M R Post pc' L (.null :: st) h ac as) : G E M R Post pc L (.ref (aP E p) :: st) h ac as := by
  refine G_met pc' hp hR hf hpm hd ?_
  rw [hm]
  exact kk
theorem G_lAtS (pc' : Nat) (hp : pc + 1 = pc') (hR : RR E m σ τ h) {i : Int32} {c j n : Nat} (hi : i = nI j) (hc : c < 8) (hn : (sLs σ c)[j]? = some n) (hd : decode M.2.2.1 pc = .ok (.aaload, 1)) (kk : G E M R Post pc' L (.ref (aE E m n) :: st) h ac as) : G E M R Post pc L (.int i :: .ref (aLA E m c) :: st) h ac as := by
  have c7 := hR.2.2.1.2.2.2.2.2.2.1 c hc
  have hl : j < (sLs σ c).length := (List.getElem?_eq_some_iff.mp hn).1
  refine G_aaloadR pc' hp j hi (hR.obLA hc) (by omega) (by omega) (by rw [(hR.1.2.2.2.2.2.1 c hc).2]; have := c7.1; omega) (by have := c7.1; omega) (b := aE E m n) ?_ hd kk
  rw [c7.2.2 j hl, hn]
  rfl
/-- fewer locals are known -/
theorem G_lw (L' : List (Option Value)) (hL' : ∀ (k : Nat) (v : Value), L'[k]? = some (some v) → L[k]? = some (some v)) (kk : G E M R Post pc L' st h ac as) : G E M R Post pc L st h ac as := by
  intro p e s m args below meth c H locs cells slots ls C hH hS hL h1 h2
  exact kk p e s m args below meth c H locs cells slots ls C hH hS ⟨hL.1, hL.2.1, fun k v hk => hL.2.2 k v (hL' k v hk)⟩ h1 h2
theorem G_lenPA (pc' : Nat) (hp : pc + 1 = pc') (hR : RR E m σ τ h) (hd : decode M.2.2.1 pc = .ok (.arraylength, 1)) (kk : G E M R Post pc' L (.int (nI m) :: st) h ac as) : G E M R Post pc L (.ref (aPA E) :: st) h ac as := by
  refine G_alen pc' hp hR.obPA (by omega) (by omega) hd ?_
  rw [hR.1.2.2.1.2]; exact kk
theorem G_lenLL (pc' : Nat) (hp : pc + 1 = pc') (hR : RR E m σ τ h) (hd : decode M.2.2.1 pc = .ok (.arraylength, 1)) (kk : G E M R Post pc' L (.int 8 :: st) h ac as) : G E M R Post pc L (.ref (aLL E m) :: st) h ac as := by
  refine G_alen pc' hp hR.obLL (by omega) (by omega) hd ?_
  rw [hR.1.2.2.2.2.1.2]; exact kk
theorem G_lenGA (pc' : Nat) (hp : pc + 1 = pc') (hR : RR E m σ τ h) {p : Nat} (hpm : p < m) (hd : decode M.2.2.1 pc = .ok (.arraylength, 1)) (kk : G E M R Post pc' L (.int 8 :: st) h ac as) : G E M R Post pc L (.ref (aGA E p) :: st) h ac as := by
  refine G_alen pc' hp (hR.obGA hpm) (by omega) (by omega) hd ?_
  rw [(hR.1.2.2.2.1 p hpm).1.2]; exact kk
theorem G_lenOA (pc' : Nat) (hp : pc + 1 = pc') (hR : RR E m σ τ h) {p : Nat} (hpm : p < m) (hd : decode M.2.2.1 pc = .ok (.arraylength, 1)) (kk : G E M R Post pc' L (.int 8 :: st) h ac as) : G E M R Post pc L (.ref (aOA E p) :: st) h ac as := by
  refine G_alen pc' hp (hR.obOA hpm) (by omega) (by omega) hd ?_
  rw [(hR.1.2.2.2.1 p hpm).2.2]; exact kk
theorem G_lenLA (pc' : Nat) (hp : pc + 1 = pc') (hR : RR E m σ τ h) {c : Nat} (hc : c < 8) (hd : decode M.2.2.1 pc = .ok (.arraylength, 1)) (kk : G E M R Post pc' L (.int 128 :: st) h ac as) : G E M R Post pc L (.ref (aLA E m c) :: st) h ac as := by
  refine G_alen pc' hp (hR.obLA hc) (by omega) (by omega) hd ?_
  rw [(hR.1.2.2.2.2.2.1 c hc).2]; exact kk
theorem G_mi (pc' : Nat) (hp : pc + 3 = pc') (hR : RR E m σ τ h) {idx k : Nat} {v : Int32} (hv : τ k 0 = v) (hf : FL M.1 idx 8 k) (hk : k < 7 ∨ k = 31) (hi : isRf 8 k = false) (hd : decode M.2.2.1 pc = .ok (.getfield idx, 3)) (kk : G E M R Post pc' L (.int v :: st) h ac as) : G E M R Post pc L (.ref (aM E m) :: st) h ac as := by
  subst hv
  exact G_mI pc' hp hR hf hk hi hd kk
theorem G_mldV (pc' : Nat) (hp : pc + 1 = pc') (hR : RR E m σ τ h) {i : Int32} {k : Nat} (j : Nat) {v : Int32} (hv : τ k j = v) (hi : i = nI j) (hk : isMA k) (hkd : mKd k = 9) (hj : j < mLn k) (hd : decode M.2.2.1 pc = .ok (.iaload, 1)) (kk : G E M R Post pc' L (.int v :: st) h ac as) : G E M R Post pc L (.int i :: .ref (aMA E m k) :: st) h ac as := by
  subst hv
  exact G_mld pc' hp hR j hi hk hkd hj hd kk
theorem G_mldZV (pc' : Nat) (hp : pc + 1 = pc') (hR : RR E m σ τ h) {i : Int32} {k : Nat} (j : Nat) {v : Int32} (hv : τ k j = v) (hi : i = nI j) (hk : isMA k) (hkd : mKd k = 10) (hj : j < mLn k) (hd : decode M.2.2.1 pc = .ok (.baload, 1)) (kk : G E M R Post pc' L (.int v :: st) h ac as) : G E M R Post pc L (.int i :: .ref (aMA E m k) :: st) h ac as := by
  subst hv
  exact G_mldZ pc' hp hR j hi hk hkd hj hd kk
theorem gvd {p j : Nat} (hp : p < m) (hj : j < 8) : 8 * p + j < 8 * m := by omega
end MORE
theorem toInt_ne {x : Int32} {n : Int} (y : Int32) (hy : y.toInt = n) (h : ¬ x = y) : x.toInt ≠ n := fun q => h (Int32.toInt_inj.mp (q.trans hy.symm))
theorem look_out {x : Int32} (h0 : ¬ x = 0) (h1 : ¬ x = 1) (h10 : ¬ x = 10) (h12 : ¬ x = 12) : Op.lookupswitch.offset [(0, 44), (1, 46), (10, 48), (12, 50)] 70 x.toInt = 70 := by
  have e0 : x.toInt ≠ 0 := toInt_ne 0 (by decide) h0
  have e1 : x.toInt ≠ 1 := toInt_ne 1 (by decide) h1
  have e2 : x.toInt ≠ 10 := toInt_ne 10 (by decide) h10
  have e3 : x.toInt ≠ 12 := toInt_ne 12 (by decide) h12
  simp [Op.lookupswitch.offset, Ne.symm e0, Ne.symm e1, Ne.symm e2, Ne.symm e3, e0, e1, e2, e3]
theorem w_max_c : Cond.code Lib.Math.max.name Lib.Math.max.code 2 (some .int) ∈ lw_good := gm 71 (by decide +kernel) rfl
theorem w_max_s : Cond.static Lib.Math.max.name ∈ lw_good := gm 70 (by decide +kernel) rfl
theorem w_max_lX5 : Cond.methodLink RX5 106 Lib.Math.max.name ∈ lw_good := gm 346 (by decide +kernel) rfl
theorem w_max_lX7 : Cond.methodLink RX7 15 Lib.Math.max.name ∈ lw_good := gm 69 (by decide +kernel) rfl
theorem w_min_c : Cond.code Lib.Math.min.name Lib.Math.min.code 2 (some .int) ∈ lw_good := gm 68 (by decide +kernel) rfl
theorem w_min_s : Cond.static Lib.Math.min.name ∈ lw_good := gm 67 (by decide +kernel) rfl
theorem w_min_lX7 : Cond.methodLink RX7 9 Lib.Math.min.name ∈ lw_good := gm 66 (by decide +kernel) rfl
theorem w_math : Cond.initialized "java/lang/Math" ∈ lw_good := gm 49 (by decide +kernel) rfl
theorem G_mmax {E : Ev} {M : MD} {R : Room} {Post : Option Value → Hp → Prop} {pc : Nat} {L : List (Option Value)} {st : List Value} {h : Hp} {ac as : Nat} (pc' : Nat) (hp : pc + 3 = pc') {x y : Int32} {idx : Nat} (hw : Cond.methodLink M.1 idx Lib.Math.max.name ∈ lw_good) (hR : 1 ≤ R.frames ∧ 21 ≤ R.locals) (hs8 : (st.map fun v => v.category).sum ≤ 8) (hd : decode M.2.2.1 pc = .ok (.invokestatic idx, 3)) (k : G E M R Post pc' L (.int (if x < y then y else x) :: st) h ac as) : G E M R Post pc L (.int y :: .int x :: st) h ac as := by
  subst hp
  intro p e s m args below meth c H locs cells slots ls C hH hS hL h1 h2
  have hts := C.2.2.2.2.1
  exact va_mmax C.1 C.2.1 (C.2.2.1.trans hL.1.symm) C.2.2.2.1 (hts _ (List.mem_cons_of_mem _ hw)) (hts _ (List.mem_cons_of_mem _ w_max_s)) (hts _ (List.mem_cons_of_mem _ w_math)) (hts _ (List.mem_cons_of_mem _ w_max_c)) hR.1 (by omega) (by omega) (by omega) hd (k p e s m args below meth c H locs cells slots ls C hH hS hL h1 h2)
theorem G_mmin {E : Ev} {M : MD} {R : Room} {Post : Option Value → Hp → Prop} {pc : Nat} {L : List (Option Value)} {st : List Value} {h : Hp} {ac as : Nat} (pc' : Nat) (hp : pc + 3 = pc') {x y : Int32} {idx : Nat} (hw : Cond.methodLink M.1 idx Lib.Math.min.name ∈ lw_good) (hR : 1 ≤ R.frames ∧ 21 ≤ R.locals) (hs8 : (st.map fun v => v.category).sum ≤ 8) (hd : decode M.2.2.1 pc = .ok (.invokestatic idx, 3)) (k : G E M R Post pc' L (.int (if y < x then y else x) :: st) h ac as) : G E M R Post pc L (.int y :: .int x :: st) h ac as := by
  subst hp
  intro p e s m args below meth c H locs cells slots ls C hH hS hL h1 h2
  have hts := C.2.2.2.2.1
  exact va_mmin C.1 C.2.1 (C.2.2.1.trans hL.1.symm) C.2.2.2.1 (hts _ (List.mem_cons_of_mem _ hw)) (hts _ (List.mem_cons_of_mem _ w_min_s)) (hts _ (List.mem_cons_of_mem _ w_math)) (hts _ (List.mem_cons_of_mem _ w_min_c)) hR.1 (by omega) (by omega) (by omega) hd (k p e s m args below meth c H locs cells slots ls C hH hS hL h1 h2)

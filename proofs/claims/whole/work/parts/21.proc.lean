set_option maxHeartbeats 4000000 in
set_option maxRecDepth 100000 in
theorem lp_X5_nextOn {E : Ev} {m : Nat} {σ : Sg} {τ : Tu} {h : Hp} (hR : RR E m σ τ h) {p : Nat} (hp : p < m) {g : Nat} (hg : σ.1 326 p = nI g) (hg8 : g ≤ 8) (a0 : Nat) : ∀ (n a : Nat), a + n = g → fOn (fun j => σ.1 131 (8 * p + j)) (g - a0) a0 = fOn (fun j => σ.1 131 (8 * p + j)) n a → G E mX5_nextOn (rk 1 0 0) (fun v h' => v = some (.int (oI (fOn (fun j => σ.1 131 (8 * p + j)) (g - a0) a0))) ∧ h' = h) 6 [some (.ref (aP E p)), some (.int (nI a0)), some (.int (nI a))] [] h 0 0 := by
  intro n
  induction n with
  | zero =>
    intro a ha hb
    refine G_iload_n 7 rfl rfl dX5_nextOn_6 ?_
    refine G_aload_n 8 rfl rfl dX5_nextOn_7 ?_
    refine G_gi 11 rfl hR 5 6 p 326 (σ.1 326 p) fl_X5_48 hp rfl rfl rfl rfl dX5_nextOn_8 ?_
    refine G_icmpT_ge 43 (by rw [hg]; exact nI_le (by omega) (by omega)) (by decide) dX5_nextOn_11 ?_
    refine G_iconst 44 rfl (-1) (by decide) dX5_nextOn_43 ?_
    refine G_iret (ty := .int) rfl rfl ?_ dX5_nextOn_44
    exact ⟨by rw [hb]; first | rfl | (rw [fOn_succ, if_neg c32]; rfl), rfl⟩
  | succ n ih =>
    intro a ha hb
    refine G_iload_n 7 rfl rfl dX5_nextOn_6 ?_
    refine G_aload_n 8 rfl rfl dX5_nextOn_7 ?_
    refine G_gi 11 rfl hR 5 6 p 326 (σ.1 326 p) fl_X5_48 hp rfl rfl rfl rfl dX5_nextOn_8 ?_
    refine G_icmpF_ge 14 rfl (by rw [hg]; exact nI_ge (by omega) (by omega)) ⟨43, by decide⟩ dX5_nextOn_11 ?_
    refine G_iload_n 15 rfl rfl dX5_nextOn_14 ?_
    refine G_aload_n 16 rfl rfl dX5_nextOn_15 ?_
    refine G_p3 19 rfl hR fl_X5_27 hp dX5_nextOn_16 ?_
    refine G_lenGA 20 rfl hR hp dX5_nextOn_19 ?_
    refine G_icmpF_ge 23 rfl (nI_ge (b := 8) (by omega) (by omega)) ⟨43, by decide⟩ dX5_nextOn_20 ?_
    refine G_aload_n 24 rfl rfl dX5_nextOn_23 ?_
    refine G_p3 27 rfl hR fl_X5_27 hp dX5_nextOn_24 ?_
    refine G_iload_n 28 rfl rfl dX5_nextOn_27 ?_
    refine G_guards 29 rfl hR (p := p) (j := a) rfl hp (by omega) dX5_nextOn_28 ?_
    refine G_gi 32 rfl hR 2 3 (8 * p + a) 131 (σ.1 131 (8 * p + a)) fl_X5_63 (gvd hp (by omega)) rfl rfl rfl rfl dX5_nextOn_29 ?_
    refine G_if_eq 37 35 rfl (by decide) dX5_nextOn_32 (fun c32 => ?_) (fun c32 => ?_)
    · skip
      refine G_iinc 40 rfl (nI (a + 1)) rfl (inc1 a) (by decide) dX5_nextOn_37 ?_
      refine G_goto 6 (by decide) dX5_nextOn_40 ?_
      exact ih (a + 1) (by omega) (by rw [hb, fOn_succ, if_pos c32])
    · skip
      refine G_iload_n 36 rfl rfl dX5_nextOn_35 ?_
      refine G_iret (ty := .int) rfl rfl ?_ dX5_nextOn_36
      exact ⟨by rw [hb]; first | rfl | (rw [fOn_succ, if_neg c32]; rfl), rfl⟩

set_option maxHeartbeats 4000000 in
set_option maxRecDepth 100000 in
theorem c_X5_nextOn {E : Ev} {m : Nat} {σ : Sg} {τ : Tu} {h : Hp} (hR : RR E m σ τ h) {p : Nat} (hp : p < m) {g : Nat} (hg : σ.1 326 p = nI g) (hg8 : g ≤ 8) (a0 : Nat) (ha0 : a0 ≤ 9) : Cn E mX5_nextOn (rk 1 0 0) h [.ref (aP E p), .int (nI a0)] (fun v h' => v = some (.int (oI (fOn (fun j => σ.1 131 (8 * p + j)) (g - a0) a0))) ∧ h' = h) := by
  refine Cn_of (by decide) rfl (by simp [Value.category]) (Nat.le_of_ble_eq_true rfl) ?_
  refine G_iload_n 1 rfl rfl dX5_nextOn_0 ?_
  refine G_iconst 2 rfl (0) (by decide) dX5_nextOn_1 ?_
  refine G_mmax 5 rfl w_max_lX5 ⟨by decide, by decide⟩ (Nat.le_of_ble_eq_true rfl) dX5_nextOn_2 ?_
  rw [if_neg (nI_pos (by omega))]
  refine G_istore_n 6 rfl (by decide) dX5_nextOn_5 ?_
  by_cases q : a0 ≤ g
  · exact lp_X5_nextOn hR hp hg hg8 a0 (g - a0) a0 (by omega) rfl
  · have e0 : g - a0 = 0 := by omega
    refine G_iload_n 7 rfl rfl dX5_nextOn_6 ?_
    refine G_aload_n 8 rfl rfl dX5_nextOn_7 ?_
    refine G_gi 11 rfl hR 5 6 p 326 (σ.1 326 p) fl_X5_48 hp rfl rfl rfl rfl dX5_nextOn_8 ?_
    refine G_icmpT_ge 43 (by rw [hg]; exact nI_le (by omega) (by omega)) (by decide) dX5_nextOn_11 ?_
    refine G_iconst 44 rfl (-1) (by decide) dX5_nextOn_43 ?_
    refine G_iret (ty := .int) rfl rfl ?_ dX5_nextOn_44
    rw [e0]
    exact ⟨rfl, rfl⟩

set_option maxHeartbeats 4000000 in
set_option maxRecDepth 100000 in
theorem c_X5_currentGuard {E : Ev} {m : Nat} {σ : Sg} {τ : Tu} {h : Hp} (hR : RR E m σ τ h) {p : Nat} (hp : p < m) {g : Nat} (hg : σ.1 326 p = nI g) (hg8 : g ≤ 8) {j : Nat} (hj : σ.1 329 p = nI j) (hjg : j < g) : Cn E mX5_currentGuard (rk 0 0 0) h [.ref (aP E p)] (fun v h' => v = some (.ref (aG E (8 * p + j))) ∧ h' = h) := by
  refine Cn_of (by decide) rfl (by simp [Value.category]) (Nat.le_of_ble_eq_true rfl) ?_
  refine G_aload_n 1 rfl rfl dX5_currentGuard_0 ?_
  refine G_gi 4 rfl hR 5 9 p 329 (σ.1 329 p) fl_X5_112 hp rfl rfl rfl rfl dX5_currentGuard_1 ?_
  refine G_ifF_lt 7 rfl (by rw [hj]; exact nI_pos (by omega)) ⟨42, by decide⟩ dX5_currentGuard_4 ?_
  refine G_aload_n 8 rfl rfl dX5_currentGuard_7 ?_
  refine G_gi 11 rfl hR 5 9 p 329 (σ.1 329 p) fl_X5_112 hp rfl rfl rfl rfl dX5_currentGuard_8 ?_
  refine G_aload_n 12 rfl rfl dX5_currentGuard_11 ?_
  refine G_gi 15 rfl hR 5 6 p 326 (σ.1 326 p) fl_X5_48 hp rfl rfl rfl rfl dX5_currentGuard_12 ?_
  refine G_icmpF_ge 18 rfl (by rw [hg, hj]; exact nI_ge (by omega) (by omega)) ⟨42, by decide⟩ dX5_currentGuard_15 ?_
  refine G_aload_n 19 rfl rfl dX5_currentGuard_18 ?_
  refine G_gi 22 rfl hR 5 9 p 329 (σ.1 329 p) fl_X5_112 hp rfl rfl rfl rfl dX5_currentGuard_19 ?_
  refine G_aload_n 23 rfl rfl dX5_currentGuard_22 ?_
  refine G_p3 26 rfl hR fl_X5_27 hp dX5_currentGuard_23 ?_
  refine G_lenGA 27 rfl hR hp dX5_currentGuard_26 ?_
  refine G_icmpF_ge 30 rfl (by rw [hj]; exact nI_ge (b := 8) (by omega) (by omega)) ⟨42, by decide⟩ dX5_currentGuard_27 ?_
  refine G_aload_n 31 rfl rfl dX5_currentGuard_30 ?_
  refine G_p3 34 rfl hR fl_X5_27 hp dX5_currentGuard_31 ?_
  refine G_aload_n 35 rfl rfl dX5_currentGuard_34 ?_
  refine G_gi 38 rfl hR 5 9 p 329 (σ.1 329 p) fl_X5_112 hp rfl rfl rfl rfl dX5_currentGuard_35 ?_
  refine G_guards 39 rfl hR (p := p) (j := j) hj hp (by omega) dX5_currentGuard_38 ?_
  refine G_goto 43 (by decide) dX5_currentGuard_39 ?_
  refine G_aret rfl (Or.inr ⟨_, rfl⟩) ?_ dX5_currentGuard_43
  exact ⟨rfl, rfl⟩

set_option maxHeartbeats 4000000 in
set_option maxRecDepth 100000 in
theorem c_X5_lookFromFirst {E : Ev} {m : Nat} {σ : Sg} {τ : Tu} {h : Hp} (hR : RR E m σ τ h) {p : Nat} (hp : p < m) {g : Nat} (hg : σ.1 326 p = nI g) (hg8 : g ≤ 8) : Cn E mX5_lookFromFirst (rk 2 0 0) h [.ref (aP E p)] (fun v h' => v = none ∧ RR E m (lkFF σ p) τ h') := by
  refine Cn_of (by decide) rfl (by simp [Value.category]) (Nat.le_of_ble_eq_true rfl) ?_
  refine G_aload_n 1 rfl rfl dX5_lookFromFirst_0 ?_
  refine G_iconst 2 rfl (0) (by decide) dX5_lookFromFirst_1 ?_
  refine G_callV 5 rfl [.int 0] (c_X5_nextOn hR hp hg hg8 0 (by omega)) ok_X5_nextOn ov_X5_nextOn ml_X5_102 (hR.ob (ci := 5) (i := p) (by decide) hp) ⟨by decide, rfl⟩ rfl ⟨by decide, by decide⟩ rfl rfl (Nat.le_of_ble_eq_true rfl) rfl dX5_lookFromFirst_2 ?_
  rintro v h' ⟨rfl, rfl⟩
  rcases hn : fOn (fun j => σ.1 131 (8 * p + j)) (g - 0) 0 with _ | j
  · skip
    refine G_istore_n 6 rfl (by decide) dX5_lookFromFirst_5 ?_
    refine G_iload_n 7 rfl rfl dX5_lookFromFirst_6 ?_
    refine G_iconst 8 rfl (-1) (by decide) dX5_lookFromFirst_7 ?_
    refine G_icmpF_ne 11 rfl rfl ⟨18, by decide⟩ dX5_lookFromFirst_8 ?_
    refine G_aload_n 12 rfl rfl dX5_lookFromFirst_11 ?_
    refine G_bipush 14 rfl (10) (by decide) dX5_lookFromFirst_12 ?_
    refine G_pi 17 rfl hR 5 5 p 325 fl_X5_37 hp rfl ⟨rfl, rfl⟩ rfl rfl dX5_lookFromFirst_14 (fun h hR => ?_)
    refine G_ret rfl ?_ dX5_lookFromFirst_17
    refine ⟨rfl, ?_⟩
    unfold lkFF nxt
    rw [hg, cN_nI (by omega), hn]
    exact hR
  · skip
    have hb := fOn_some hn
    refine G_istore_n 6 rfl (by decide) dX5_lookFromFirst_5 ?_
    refine G_iload_n 7 rfl rfl dX5_lookFromFirst_6 ?_
    refine G_iconst 8 rfl (-1) (by decide) dX5_lookFromFirst_7 ?_
    refine G_icmpT_ne 18 (oI_m1 (by omega)) (by decide) dX5_lookFromFirst_8 ?_
    refine G_aload_n 19 rfl rfl dX5_lookFromFirst_18 ?_
    refine G_iload_n 20 rfl rfl dX5_lookFromFirst_19 ?_
    refine G_callV 23 rfl [.int (oI (some j))] (c_X5_lookAt hR hp (nI j)) ok_X5_lookAt ov_X5_lookAt ml_X5_116 (hR.ob (ci := 5) (i := p) (by decide) hp) ⟨by decide, rfl⟩ rfl ⟨by decide, by decide⟩ rfl rfl (Nat.le_of_ble_eq_true rfl) rfl dX5_lookFromFirst_20 ?_
    rintro v h ⟨rfl, hR⟩
    refine G_ret rfl ?_ dX5_lookFromFirst_23
    refine ⟨rfl, ?_⟩
    unfold lkFF nxt
    rw [hg, cN_nI (by omega), hn]
    exact hR

set_option maxHeartbeats 4000000 in
set_option maxRecDepth 100000 in
theorem c_X5_lookAtNext {E : Ev} {m : Nat} {σ : Sg} {τ : Tu} {h : Hp} (hR : RR E m σ τ h) {p : Nat} (hp : p < m) {g : Nat} (hg : σ.1 326 p = nI g) (hg8 : g ≤ 8) {i : Nat} (hj : σ.1 329 p = nI i) (hi8 : i < 8) : Cn E mX5_lookAtNext (rk 2 0 0) h [.ref (aP E p)] (fun v h' => v = none ∧ RR E m (lkNx σ p) τ h') := by
  refine Cn_of (by decide) rfl (by simp [Value.category]) (Nat.le_of_ble_eq_true rfl) ?_
  refine G_aload_n 1 rfl rfl dX5_lookAtNext_0 ?_
  refine G_aload_n 2 rfl rfl dX5_lookAtNext_1 ?_
  refine G_gi 5 rfl hR 5 9 p 329 (σ.1 329 p) fl_X5_112 hp rfl rfl rfl rfl dX5_lookAtNext_2 ?_
  refine G_iconst 6 rfl (1) (by decide) dX5_lookAtNext_5 ?_
  refine G_iadd 7 rfl dX5_lookAtNext_6 ?_
  rw [show σ.1 329 p + 1 = nI (i + 1) by rw [hj]; exact nI_1 i]
  refine G_callV 10 rfl [.int (nI (i + 1))] (c_X5_nextOn hR hp hg hg8 (i + 1) (by omega)) ok_X5_nextOn ov_X5_nextOn ml_X5_102 (hR.ob (ci := 5) (i := p) (by decide) hp) ⟨by decide, rfl⟩ rfl ⟨by decide, by decide⟩ rfl rfl (Nat.le_of_ble_eq_true rfl) rfl dX5_lookAtNext_7 ?_
  rintro v h' ⟨rfl, rfl⟩
  rcases hn : fOn (fun j => σ.1 131 (8 * p + j)) (g - (i + 1)) (i + 1) with _ | j
  · skip
    refine G_istore_n 11 rfl (by decide) dX5_lookAtNext_10 ?_
    refine G_iload_n 12 rfl rfl dX5_lookAtNext_11 ?_
    refine G_iconst 13 rfl (-1) (by decide) dX5_lookAtNext_12 ?_
    refine G_icmpF_ne 16 rfl rfl ⟨23, by decide⟩ dX5_lookAtNext_13 ?_
    refine G_aload_n 17 rfl rfl dX5_lookAtNext_16 ?_
    refine G_bipush 19 rfl (9) (by decide) dX5_lookAtNext_17 ?_
    refine G_pi 22 rfl hR 5 5 p 325 fl_X5_37 hp rfl ⟨rfl, rfl⟩ rfl rfl dX5_lookAtNext_19 (fun h hR => ?_)
    refine G_ret rfl ?_ dX5_lookAtNext_22
    refine ⟨rfl, ?_⟩
    unfold lkNx nxt
    rw [hg, cN_nI (by omega), hj, cN_nI (by omega), hn]
    exact hR
  · skip
    have hb := fOn_some hn
    refine G_istore_n 11 rfl (by decide) dX5_lookAtNext_10 ?_
    refine G_iload_n 12 rfl rfl dX5_lookAtNext_11 ?_
    refine G_iconst 13 rfl (-1) (by decide) dX5_lookAtNext_12 ?_
    refine G_icmpT_ne 23 (oI_m1 (by omega)) (by decide) dX5_lookAtNext_13 ?_
    refine G_aload_n 24 rfl rfl dX5_lookAtNext_23 ?_
    refine G_iload_n 25 rfl rfl dX5_lookAtNext_24 ?_
    refine G_callV 28 rfl [.int (oI (some j))] (c_X5_lookAt hR hp (nI j)) ok_X5_lookAt ov_X5_lookAt ml_X5_116 (hR.ob (ci := 5) (i := p) (by decide) hp) ⟨by decide, rfl⟩ rfl ⟨by decide, by decide⟩ rfl rfl (Nat.le_of_ble_eq_true rfl) rfl dX5_lookAtNext_25 ?_
    rintro v h ⟨rfl, hR⟩
    refine G_ret rfl ?_ dX5_lookAtNext_28
    refine ⟨rfl, ?_⟩
    unfold lkNx nxt
    rw [hg, cN_nI (by omega), hj, cN_nI (by omega), hn]
    exact hR

set_option maxHeartbeats 4000000 in
set_option maxRecDepth 100000 in
theorem c_X5_firstEntry {E : Ev} {m : Nat} {σ : Sg} {τ : Tu} {h : Hp} (hR : RR E m σ τ h) {p : Nat} (hp : p < m) {w : Nat} (hw : σ.1 336 p = nI w) (hwl : w ≤ (sPb σ p).length) : Cn E mX5_firstEntry (rk 0 0 0) h [.ref (aP E p)] (fun v h' => v = some (va_rf ((fE σ p).map (aE E m))) ∧ h' = h) := by
  refine Cn_of (by decide) rfl (by simp [Value.category]) (Nat.le_of_ble_eq_true rfl) ?_
  have hl8 := (hR.2.2.1.2.2.2.2.2.2.2 p hp).1
  refine G_aload_n 1 rfl rfl dX5_firstEntry_0 ?_
  refine G_gi 4 rfl hR 5 16 p 336 (σ.1 336 p) fl_X5_90 hp rfl rfl rfl rfl dX5_firstEntry_1 ?_
  refine G_ifF_lt 7 rfl (by rw [hw]; exact nI_pos (by omega)) ⟨42, by decide⟩ dX5_firstEntry_4 ?_
  refine G_aload_n 8 rfl rfl dX5_firstEntry_7 ?_
  refine G_gi 11 rfl hR 5 16 p 336 (σ.1 336 p) fl_X5_90 hp rfl rfl rfl rfl dX5_firstEntry_8 ?_
  refine G_aload_n 12 rfl rfl dX5_firstEntry_11 ?_
  refine G_p15 15 rfl hR fl_X5_87 hp dX5_firstEntry_12 ?_
  by_cases hlt : w < (sPb σ p).length
  · skip
    obtain ⟨n, hn⟩ : ∃ n, (sPb σ p)[w]? = some n := ⟨_, List.getElem?_eq_getElem hlt⟩
    refine G_icmpF_ge 18 rfl (by rw [hw]; exact nI_ge (by omega) (by omega)) ⟨42, by decide⟩ dX5_firstEntry_15 ?_
    refine G_aload_n 19 rfl rfl dX5_firstEntry_18 ?_
    refine G_gi 22 rfl hR 5 16 p 336 (σ.1 336 p) fl_X5_90 hp rfl rfl rfl rfl dX5_firstEntry_19 ?_
    refine G_aload_n 23 rfl rfl dX5_firstEntry_22 ?_
    refine G_p4 26 rfl hR fl_X5_33 hp dX5_firstEntry_23 ?_
    refine G_lenOA 27 rfl hR hp dX5_firstEntry_26 ?_
    refine G_icmpF_ge 30 rfl (by rw [hw]; exact nI_ge (b := 8) (by omega) (by omega)) ⟨42, by decide⟩ dX5_firstEntry_27 ?_
    refine G_aload_n 31 rfl rfl dX5_firstEntry_30 ?_
    refine G_p4 34 rfl hR fl_X5_33 hp dX5_firstEntry_31 ?_
    refine G_aload_n 35 rfl rfl dX5_firstEntry_34 ?_
    refine G_gi 38 rfl hR 5 16 p 336 (σ.1 336 p) fl_X5_90 hp rfl rfl rfl rfl dX5_firstEntry_35 ?_
    refine G_oAt 39 rfl hR (j := w) hw hp hn dX5_firstEntry_38 ?_
    refine G_goto 43 (by decide) dX5_firstEntry_39 ?_
    refine G_aret rfl (Or.inr ⟨_, rfl⟩) ?_ dX5_firstEntry_43
    exact ⟨by unfold fE; rw [hw, cN_nI (by omega), hn]; rfl, rfl⟩
  · skip
    refine G_icmpT_ge 42 (by rw [hw]; exact nI_le (by omega) (by omega)) (by decide) dX5_firstEntry_15 ?_
    refine G_null 43 rfl dX5_firstEntry_42 ?_
    refine G_aret rfl (Or.inl rfl) ?_ dX5_firstEntry_43
    exact ⟨by unfold fE; rw [hw, cN_nI (by omega), List.getElem?_eq_none (by omega)]; rfl, rfl⟩

set_option maxHeartbeats 4000000 in
set_option maxRecDepth 100000 in
theorem c_X5_beginWithdraw {E : Ev} {m : Nat} {σ : Sg} {τ : Tu} {h : Hp} (hR : RR E m σ τ h) {p : Nat} (hp : p < m) {w : Nat} (hw : σ.1 336 p = nI w) (hwl : w ≤ (sPb σ p).length) : Cn E mX5_beginWithdraw (rk 1 0 0) h [.ref (aP E p)] (fun v h' => v = none ∧ RR E m (bWd σ p) τ h') := by
  refine Cn_of (by decide) rfl (by simp [Value.category]) (Nat.le_of_ble_eq_true rfl) ?_
  refine G_aload_n 1 rfl rfl dX5_beginWithdraw_0 ?_
  refine G_aload_n 2 rfl rfl dX5_beginWithdraw_1 ?_
  refine G_callV 5 rfl [] (c_X5_firstEntry hR hp hw hwl) ok_X5_firstEntry ov_X5_firstEntry ml_X5_132 (hR.ob (ci := 5) (i := p) (by decide) hp) ⟨by decide, rfl⟩ rfl ⟨by decide, by decide⟩ rfl rfl (Nat.le_of_ble_eq_true rfl) rfl dX5_beginWithdraw_2 ?_
  rintro v h' ⟨rfl, rfl⟩
  rcases hn : fE σ p with _ | n
  · skip
    refine G_ifnonnullN 8 rfl dX5_beginWithdraw_5 ?_
    refine G_bipush 10 rfl (12) (by decide) dX5_beginWithdraw_8 ?_
    refine G_goto 15 (by decide) dX5_beginWithdraw_10 ?_
    refine G_pi 18 rfl hR 5 5 p 325 fl_X5_37 hp rfl ⟨rfl, rfl⟩ rfl rfl dX5_beginWithdraw_15 (fun h hR => ?_)
    refine G_ret rfl ?_ dX5_beginWithdraw_18
    refine ⟨rfl, ?_⟩
    unfold bWd
    rw [hn]
    exact hR
  · skip
    refine G_ifnonnull 13 (by decide) dX5_beginWithdraw_5 ?_
    refine G_bipush 15 rfl (11) (by decide) dX5_beginWithdraw_13 ?_
    refine G_pi 18 rfl hR 5 5 p 325 fl_X5_37 hp rfl ⟨rfl, rfl⟩ rfl rfl dX5_beginWithdraw_15 (fun h hR => ?_)
    refine G_ret rfl ?_ dX5_beginWithdraw_18
    refine ⟨rfl, ?_⟩
    unfold bWd
    rw [hn]
    exact hR

set_option maxHeartbeats 4000000 in
set_option maxRecDepth 100000 in
theorem c_X5_wakeIfSettled {E : Ev} {m : Nat} {σ : Sg} {τ : Tu} {h : Hp} (hR : RR E m σ τ h) {p : Nat} (hp : p < m) {w : Nat} (hw : σ.1 336 p = nI w) (hwl : w ≤ (sPb σ p).length) : Cn E mX5_wakeIfSettled (rk 2 0 0) h [.ref (aP E p)] (fun v h' => v = none ∧ ((stl σ p ∧ RR E m (bWd σ p) τ h') ∨ (¬ stl σ p ∧ RR E m σ τ h'))) := by
  refine Cn_of (by decide) rfl (by simp [Value.category]) (Nat.le_of_ble_eq_true rfl) ?_
  refine G_aload_n 1 rfl rfl dX5_wakeIfSettled_0 ?_
  refine G_p1 4 rfl hR fl_X5_12 hp dX5_wakeIfSettled_1 ?_
  refine G_callV 7 rfl [] (c_X6_isSettled hR hp) ok_X6_isSettled ov_X6_isSettled ml_X5_122 (hR.ob (ci := 6) (i := p) (by decide) hp) ⟨by decide, rfl⟩ rfl ⟨by decide, by decide⟩ rfl rfl (Nat.le_of_ble_eq_true rfl) rfl dX5_wakeIfSettled_4 ?_
  rintro v h' ⟨⟨hs, rfl⟩ | ⟨hs, rfl⟩, rfl⟩
  · skip
    refine G_ifF_eq 10 rfl (by decide) ⟨14, by decide⟩ dX5_wakeIfSettled_7 ?_
    refine G_aload_n 11 rfl rfl dX5_wakeIfSettled_10 ?_
    refine G_callV 14 rfl [] (c_X5_beginWithdraw hR hp hw hwl) ok_X5_beginWithdraw ov_X5_beginWithdraw ml_X5_126 (hR.ob (ci := 5) (i := p) (by decide) hp) ⟨by decide, rfl⟩ rfl ⟨by decide, by decide⟩ rfl rfl (Nat.le_of_ble_eq_true rfl) rfl dX5_wakeIfSettled_11 ?_
    rintro v h ⟨rfl, hR⟩
    refine G_ret rfl ?_ dX5_wakeIfSettled_14
    exact ⟨rfl, Or.inl ⟨hs, hR⟩⟩
  · skip
    refine G_ifT_eq 14 (by decide) (by decide) dX5_wakeIfSettled_7 ?_
    refine G_ret rfl ?_ dX5_wakeIfSettled_14
    exact ⟨rfl, Or.inr ⟨hs, hR⟩⟩

set_option maxHeartbeats 4000000 in
set_option maxRecDepth 100000 in
theorem c_X5_endLooking {E : Ev} {m : Nat} {σ : Sg} {τ : Tu} {h : Hp} (hR : RR E m σ τ h) {p : Nat} (hp : p < m) {g : Nat} (hg : σ.1 326 p = nI g) (hg8 : g ≤ 8) {w : Nat} (hw : σ.1 336 p = nI w) (hwl : w ≤ (sPb σ p).length) : Cn E mX5_endLooking (rk 3 0 0) h [.ref (aP E p)] (fun v h' => v = none ∧ ((stl σ p ∧ RR E m (bWd σ p) τ h') ∨ (¬ stl σ p ∧ ¬ σ.1 332 p = 0 ∧ RR E m (lkFF (up σ 332 p 0) p) τ h') ∨ (¬ stl σ p ∧ σ.1 332 p = 0 ∧ RR E m (up σ 325 p 10) τ h'))) := by
  refine Cn_of (by decide) rfl (by simp [Value.category]) (Nat.le_of_ble_eq_true rfl) ?_
  refine G_aload_n 1 rfl rfl dX5_endLooking_0 ?_
  refine G_p1 4 rfl hR fl_X5_12 hp dX5_endLooking_1 ?_
  refine G_callV 7 rfl [] (c_X6_isSettled hR hp) ok_X6_isSettled ov_X6_isSettled ml_X5_122 (hR.ob (ci := 6) (i := p) (by decide) hp) ⟨by decide, rfl⟩ rfl ⟨by decide, by decide⟩ rfl rfl (Nat.le_of_ble_eq_true rfl) rfl dX5_endLooking_4 ?_
  rintro v h' ⟨⟨hs, rfl⟩ | ⟨hs, rfl⟩, rfl⟩
  · skip
    refine G_ifF_eq 10 rfl (by decide) ⟨17, by decide⟩ dX5_endLooking_7 ?_
    refine G_aload_n 11 rfl rfl dX5_endLooking_10 ?_
    refine G_callV 14 rfl [] (c_X5_beginWithdraw hR hp hw hwl) ok_X5_beginWithdraw ov_X5_beginWithdraw ml_X5_126 (hR.ob (ci := 5) (i := p) (by decide) hp) ⟨by decide, rfl⟩ rfl ⟨by decide, by decide⟩ rfl rfl (Nat.le_of_ble_eq_true rfl) rfl dX5_endLooking_11 ?_
    rintro v h ⟨rfl, hR⟩
    refine G_goto 42 (by decide) dX5_endLooking_14 ?_
    refine G_ret rfl ?_ dX5_endLooking_42
    exact ⟨rfl, Or.inl ⟨hs, hR⟩⟩
  · skip
    refine G_ifT_eq 17 (by decide) (by decide) dX5_endLooking_7 ?_
    refine G_aload_n 18 rfl rfl dX5_endLooking_17 ?_
    refine G_gi 21 rfl hR 5 12 p 332 (σ.1 332 p) fl_X5_74 hp rfl rfl rfl rfl dX5_endLooking_18 ?_
    refine G_if_eq 36 24 rfl (by decide) dX5_endLooking_21 (fun c21 => ?_) (fun c21 => ?_)
    · skip
      refine G_aload_n 37 rfl rfl dX5_endLooking_36 ?_
      refine G_bipush 39 rfl (10) (by decide) dX5_endLooking_37 ?_
      refine G_pi 42 rfl hR 5 5 p 325 fl_X5_37 hp rfl ⟨rfl, rfl⟩ rfl rfl dX5_endLooking_39 (fun h hR => ?_)
      refine G_ret rfl ?_ dX5_endLooking_42
      exact ⟨rfl, Or.inr (Or.inr ⟨hs, c21, hR⟩)⟩
    · skip
      refine G_aload_n 25 rfl rfl dX5_endLooking_24 ?_
      refine G_iconst 26 rfl (0) (by decide) dX5_endLooking_25 ?_
      refine G_pz 29 rfl hR 5 12 p 332 fl_X5_74 hp rfl ⟨rfl, rfl⟩ (by decide) rfl rfl dX5_endLooking_26 (fun h hR => ?_)
      refine G_aload_n 30 rfl rfl dX5_endLooking_29 ?_
      refine G_callV 33 rfl [] (c_X5_lookFromFirst hR hp hg hg8) ok_X5_lookFromFirst ov_X5_lookFromFirst ml_X5_129 (hR.ob (ci := 5) (i := p) (by decide) hp) ⟨by decide, rfl⟩ rfl ⟨by decide, by decide⟩ rfl rfl (Nat.le_of_ble_eq_true rfl) rfl dX5_endLooking_30 ?_
      rintro v h ⟨rfl, hR⟩
      refine G_goto 42 (by decide) dX5_endLooking_33 ?_
      refine G_ret rfl ?_ dX5_endLooking_42
      exact ⟨rfl, Or.inr (Or.inl ⟨hs, c21, hR⟩)⟩

set_option maxHeartbeats 4000000 in
set_option maxRecDepth 100000 in
theorem c_X5_addGuard {E : Ev} {m : Nat} {σ : Sg} {τ : Tu} {h : Hp} (hR : RR E m σ τ h) {p : Nat} (hp : p < m) {g : Nat} (hg : σ.1 326 p = nI g) (hg8 : g ≤ 8) (a b c d : Int32) (hd01 : d = 0 ∨ d = 1) : Cn E mX5_addGuard (rk 0 0 0) h [.ref (aP E p), .int a, .int b, .int c, .int d] (fun v h' => (g < 8 ∧ v = some (.int 1) ∧ RR E m (up (up (up (up (up σ 128 (8 * p + g) a) 129 (8 * p + g) b) 130 (8 * p + g) c) 131 (8 * p + g) d) 326 p (σ.1 326 p + 1)) τ h') ∨ (¬ g < 8 ∧ v = some (.int 0) ∧ RR E m σ τ h')) := by
  refine Cn_of (by decide) rfl (by simp [Value.category]) (Nat.le_of_ble_eq_true rfl) ?_
  refine G_aload_n 1 rfl rfl dX5_addGuard_0 ?_
  refine G_gi 4 rfl hR 5 6 p 326 (σ.1 326 p) fl_X5_48 hp rfl rfl rfl rfl dX5_addGuard_1 ?_
  refine G_aload_n 5 rfl rfl dX5_addGuard_4 ?_
  refine G_p3 8 rfl hR fl_X5_27 hp dX5_addGuard_5 ?_
  refine G_lenGA 9 rfl hR hp dX5_addGuard_8 ?_
  by_cases hlt : g < 8
  · skip
    refine G_icmpT_lt 14 (by rw [hg]; exact nI_lt (b := 8) hlt (by omega)) (by decide) dX5_addGuard_9 ?_
    refine G_aload_n 15 rfl rfl dX5_addGuard_14 ?_
    refine G_p3 18 rfl hR fl_X5_27 hp dX5_addGuard_15 ?_
    refine G_aload_n 19 rfl rfl dX5_addGuard_18 ?_
    refine G_gi 22 rfl hR 5 6 p 326 (σ.1 326 p) fl_X5_48 hp rfl rfl rfl rfl dX5_addGuard_19 ?_
    refine G_guards 23 rfl hR (p := p) (j := g) hg hp hlt dX5_addGuard_22 ?_
    refine G_astore 25 rfl (by decide) dX5_addGuard_23 ?_
    refine G_aload 27 rfl rfl dX5_addGuard_25 ?_
    refine G_iload_n 28 rfl rfl dX5_addGuard_27 ?_
    refine G_pi 31 rfl hR 2 0 (8 * p + g) 128 fl_X5_54 (gvd hp hlt) rfl ⟨rfl, rfl⟩ rfl rfl dX5_addGuard_28 (fun h hR => ?_)
    refine G_aload 33 rfl rfl dX5_addGuard_31 ?_
    refine G_iload_n 34 rfl rfl dX5_addGuard_33 ?_
    refine G_pi 37 rfl hR 2 1 (8 * p + g) 129 fl_X5_57 (gvd hp hlt) rfl ⟨rfl, rfl⟩ rfl rfl dX5_addGuard_34 (fun h hR => ?_)
    refine G_aload 39 rfl rfl dX5_addGuard_37 ?_
    refine G_iload_n 40 rfl rfl dX5_addGuard_39 ?_
    refine G_pi 43 rfl hR 2 2 (8 * p + g) 130 fl_X5_60 (gvd hp hlt) rfl ⟨rfl, rfl⟩ rfl rfl dX5_addGuard_40 (fun h hR => ?_)
    refine G_aload 45 rfl rfl dX5_addGuard_43 ?_
    refine G_iload 47 rfl rfl dX5_addGuard_45 ?_
    refine G_pz 50 rfl hR 2 3 (8 * p + g) 131 fl_X5_63 (gvd hp hlt) rfl ⟨rfl, rfl⟩ hd01 rfl rfl dX5_addGuard_47 (fun h hR => ?_)
    refine G_aload_n 51 rfl rfl dX5_addGuard_50 ?_
    refine G_dup 52 rfl rfl dX5_addGuard_51 ?_
    refine G_gi 55 rfl hR 5 6 p 326 (σ.1 326 p) fl_X5_48 hp rfl rfl rfl rfl dX5_addGuard_52 ?_
    refine G_iconst 56 rfl (1) (by decide) dX5_addGuard_55 ?_
    refine G_iadd 57 rfl dX5_addGuard_56 ?_
    refine G_pi 60 rfl hR 5 6 p 326 fl_X5_48 hp rfl ⟨rfl, rfl⟩ rfl rfl dX5_addGuard_57 (fun h hR => ?_)
    refine G_iconst 61 rfl (1) (by decide) dX5_addGuard_60 ?_
    refine G_iret (ty := .boolean) rfl (by decide) ?_ dX5_addGuard_61
    exact Or.inl ⟨hlt, rfl, hR⟩
  · skip
    refine G_icmpF_lt 12 rfl (by rw [hg]; exact nI_nlt (b := 8) (by omega) (by omega)) ⟨14, by decide⟩ dX5_addGuard_9 ?_
    refine G_iconst 13 rfl (0) (by decide) dX5_addGuard_12 ?_
    refine G_iret (ty := .boolean) rfl (by decide) ?_ dX5_addGuard_13
    exact Or.inr ⟨hlt, rfl, hR⟩

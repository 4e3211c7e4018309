/-- what publishing an entry of the guard g = 8 * p + j does, up to the list -/
def pubA (σ : Sg) (p g : Nat) : Sg := eNw (up σ 453 0 (σ.1 453 0 + 1)) (fun k => if k = 0 then nI p else if k = 1 then σ.1 385 p else if k = 2 then (up σ 453 0 (σ.1 453 0 + 1)).1 128 g else if k = 3 then (up σ 453 0 (σ.1 453 0 + 1)).1 129 g else (up σ 453 0 (σ.1 453 0 + 1)).1 130 g)
def pubB (σ : Sg) (p j c : Nat) : Sg := uP (uL (pubA σ p (8 * p + j)) c (sLs σ c ++ [sNp σ + 1])) p (sPb σ p ++ [sNp σ + 1])
def pubS (σ : Sg) (p j c : Nat) : Sg := match nxt (pubB σ p j c) p (cN (σ.1 329 p) + 1) with
  | none => lkFF (pubB σ p j c) p
  | some i => up (pubB σ p j c) 329 p (nI i)
def lkS (σ : Sg) (p j c : Nat) : Sg := match (sLs σ c).find? (fun n => decide (σ.1 330 p < nI n)) with
  | none => lkNx σ p
  | some n => if ¬ σ.1 0 n = nI p ∧ ¬ σ.1 2 n = σ.1 128 (8 * p + j) then up (uM (up σ 330 p (nI n)) p (some n)) 325 p 4 else up σ 330 p (nI n)
def wdS (σ : Sg) (p n c : Nat) : Sg := bWd (up (uL σ c (fDr (sLs σ c) (nI n))) 336 p (σ.1 336 p + 1)) p
set_option maxHeartbeats 4000000 in
set_option maxRecDepth 100000 in
theorem c_X7_publishEntry {E : Ev} {m : Nat} {σ : Sg} {τ : Tu} {h : Hp} (hR : RR E m σ τ h) {p : Nat} (hp : p < m) {g : Nat} (hg : σ.1 326 p = nI g) (hg8 : g ≤ 8) {j : Nat} (hj : σ.1 329 p = nI j) (hjg : j < g) {c : Nat} (hch : σ.1 129 (8 * p + j) = nI c) (hc : c < 8) (hnp0 : σ.1 453 0 = nI (sNp σ)) (hll : (sLs σ c).length < 128) (hpl8 : (sPb σ p).length < 8) : Cn E mX7_publishEntry (rk 3 1 6) h [.ref (aX E), .ref (aP E p)] (fun v h' => v = none ∧ RR E m (pubS σ p j c) τ h') := by
  refine Cn_of (by decide) rfl (by simp [Value.category]) (Nat.le_of_ble_eq_true rfl) ?_
  have hm := hR.1.1
  refine G_aload_n 1 rfl rfl dX7_publishEntry_0 ?_
  refine G_callV 4 rfl [] (c_X5_currentGuard hR hp hg hg8 hj hjg) ok_X5_currentGuard ov_X5_currentGuard ml_X7_195 (hR.ob (ci := 5) (i := p) (by decide) hp) ⟨by decide, rfl⟩ rfl ⟨by decide, by decide⟩ rfl rfl (Nat.le_of_ble_eq_true rfl) rfl dX7_publishEntry_1 ?_
  rintro v h' ⟨rfl, rfl⟩
  refine G_astore_n 5 rfl (by decide) dX7_publishEntry_4 ?_
  refine G_aload_n 6 rfl rfl dX7_publishEntry_5 ?_
  refine G_ifnonnull 13 (by decide) dX7_publishEntry_6 ?_
  refine G_aload_n 14 rfl rfl dX7_publishEntry_13 ?_
  refine G_aload_n 15 rfl rfl dX7_publishEntry_14 ?_
  refine G_gi 18 rfl hR 2 1 (8 * p + j) 129 (σ.1 129 (8 * p + j)) fl_X7_236 (gvd hp (by omega)) rfl rfl rfl rfl dX7_publishEntry_15 ?_
  refine G_callV 21 rfl [.int (σ.1 129 (8 * p + j))] (c_X7_listAt hR (σ.1 129 (8 * p + j))) ok_X7_listAt ov_X7_listAt ml_X7_52 (hR.ob (ci := 7) (i := 0) (by decide) rfl) ⟨by decide, rfl⟩ rfl ⟨by decide, by decide⟩ rfl rfl (Nat.le_of_ble_eq_true rfl) rfl dX7_publishEntry_18 ?_
  rintro v h' ⟨⟨c', hc', e', rfl⟩ | ⟨e', rfl⟩, rfl⟩
  rotate_left
  · exact absurd e' (by rw [hch]; exact fun z => z.elim (nI_pos (by omega)) (nI_ge hc (by omega)))
  obtain rfl : c = c' := (nI_eq (by omega) (by omega)).mp (hch.symm.trans e')
  refine G_astore_n 22 rfl (by decide) dX7_publishEntry_21 ?_
  refine G_aload_n 23 rfl rfl dX7_publishEntry_22 ?_
  refine G_ifnull 26 rfl dX7_publishEntry_23 ?_
  refine G_aload_n 27 rfl rfl dX7_publishEntry_26 ?_
  refine G_ifnull 30 rfl dX7_publishEntry_27 ?_
  refine G_aload_n 31 rfl rfl dX7_publishEntry_30 ?_
  refine G_dup 32 rfl rfl dX7_publishEntry_31 ?_
  refine G_gi 35 rfl hR 7 5 0 453 (σ.1 453 0) fl_X7_153 rfl rfl rfl rfl rfl dX7_publishEntry_32 ?_
  refine G_iconst 36 rfl (1) (by decide) dX7_publishEntry_35 ?_
  refine G_iadd 37 rfl dX7_publishEntry_36 ?_
  refine G_pi 40 rfl hR 7 5 0 453 fl_X7_153 rfl rfl ⟨rfl, rfl⟩ rfl rfl dX7_publishEntry_37 (fun h hR => ?_)
  have hnp : hn h = aE E m (sNp σ + 1) := hR.2.2.1.1
  have hgl : aG E (8 * p + j) < hn h := (ad_in hR.2.2.1 (ci := 2) (i := 8 * p + j) (gvd hp (by omega))).2
  have hpl : aP E p < hn h := (ad_in hR.2.2.1 (ci := 5) (i := p) hp).2
  have hwd : aW E p < hn h := (ad_in hR.2.2.1 (ci := 6) (i := p) hp).2
  have hxl : aX E < hn h := (ad_in hR.2.2.1 (ci := 7) (i := 0) rfl).2
  refine G_new 43 rfl (ci := 0) (by decide) cl_X7_130 w_in0 w_it0 (by rw [hnp]; exact hR.1.2.1 0 (sNp σ + 1) (sNp σ + 1) (by decide) ⟨by omega, Nat.le_refl _⟩) (ac' := 0) (as' := 0) rfl rfl dX7_publishEntry_40 ?_
  refine G_dup 44 rfl rfl dX7_publishEntry_43 ?_
  refine G_aload_n 45 rfl rfl dX7_publishEntry_44 ?_
  refine G_getI 48 rfl (ci := 5) (k := 0) fl_X7_241 rfl ⟨(hR.ob (ci := 5) (i := p) (by decide) hp).1, (hR.ob (ci := 5) (i := p) (by decide) hp).2.1, Nat.lt_succ_of_lt hpl⟩ dX7_publishEntry_45 ?_
  rw [sN_1 (Nat.ne_of_lt hpl), show h.1 (64 * 5 + 0) (aP E p) = nI p from hR.2.2.1.2.2.2.1 p hp]
  refine G_aload_n 49 rfl rfl dX7_publishEntry_48 ?_
  refine G_getR 52 rfl (ci := 5) (k := 1) (b := aW E p) fl_X7_63 rfl ⟨(hR.ob (ci := 5) (i := p) (by decide) hp).1, (hR.ob (ci := 5) (i := p) (by decide) hp).2.1, Nat.lt_succ_of_lt hpl⟩ (by rw [sN_2 (Nat.ne_of_lt hpl)]; exact (hR.2.1.2.2.1 p hp).1) dX7_publishEntry_49 ?_
  refine G_getI 55 rfl (ci := 6) (k := 1) fl_X7_67 rfl ⟨(hR.ob (ci := 6) (i := p) (by decide) hp).1, (hR.ob (ci := 6) (i := p) (by decide) hp).2.1, Nat.lt_succ_of_lt hwd⟩ dX7_publishEntry_52 ?_
  rw [sN_1 (Nat.ne_of_lt hwd), show h.1 (64 * 6 + 1) (aW E p) = σ.1 385 p from hR.2.2.1.2.1 6 1 p hp rfl]
  refine G_aload_n 56 rfl rfl dX7_publishEntry_55 ?_
  refine G_aload_n 57 rfl rfl dX7_publishEntry_56 ?_
  refine G_getI 60 rfl (ci := 7) (k := 5) fl_X7_153 rfl ⟨(hR.ob (ci := 7) (i := 0) (by decide) rfl).1, (hR.ob (ci := 7) (i := 0) (by decide) rfl).2.1, Nat.lt_succ_of_lt hxl⟩ dX7_publishEntry_57 ?_
  rw [sN_1 (Nat.ne_of_lt hxl), show h.1 (64 * 7 + 5) (aX E) = nI (sNp σ + 1) from (hR.2.2.1.2.1 7 5 0 rfl rfl).trans (by rw [← nI_1, ← hnp0]; exact up_same _ _ _ _)]
  refine G_callI 63 rfl [.int (nI p), .int (σ.1 385 p), .ref (aG E (8 * p + j)), .int (nI (sNp σ + 1))] (c_X0_init (h := sN h) (a := hn h) (g := aG E (8 * p + j)) ⟨by rw [hnp]; exact hR.1.2.1 0 (sNp σ + 1) (sNp σ + 1) (by decide) ⟨by omega, Nat.le_refl _⟩, by rw [hnp]; simp only [aE]; omega, Nat.lt_succ_self _⟩ ⟨(hR.ob (ci := 2) (i := 8 * p + j) (by decide) (gvd hp (by omega))).1, (hR.ob (ci := 2) (i := 8 * p + j) (by decide) (gvd hp (by omega))).2.1, Nat.lt_succ_of_lt hgl⟩ (nI p) (σ.1 385 p) (nI (sNp σ + 1))) ok_X0_init oi_X0_init rfl rfl ml_X7_244 rfl ⟨by decide, by decide⟩ rfl rfl (Nat.le_of_ble_eq_true rfl) rfl dX7_publishEntry_60 ?_
  rintro v h' ⟨rfl, rfl⟩
  have hR := (show RR E m (pubA σ p (8 * p + j)) τ (iE (sN h) (hn h) (aG E (8 * p + j)) (nI p) (σ.1 385 p) (nI (sNp σ + 1))) from hR.newE (gvd hp (show j < 8 by omega)) (nI p) (σ.1 385 p))
  generalize iE (sN h) (hn h) (aG E (8 * p + j)) (nI p) (σ.1 385 p) (nI (sNp σ + 1)) = h2 at hR ⊢
  rw [hnp]
  have hvn : 1 ≤ sNp σ + 1 ∧ sNp σ + 1 ≤ sNp (pubA σ p (8 * p + j)) := ⟨by omega, Nat.le_refl _⟩
  refine G_astore 65 rfl (by decide) dX7_publishEntry_63 ?_
  refine G_aload_n 66 rfl rfl dX7_publishEntry_65 ?_
  refine G_aload 68 rfl rfl dX7_publishEntry_66 ?_
  refine G_callV 71 rfl [.ref (aE E m (sNp σ + 1))] (c_X1_append hR hc hvn (by exact hll)) ok_X1_append ov_X1_append ml_X7_247 (hR.ob (ci := 1) (i := c) (by decide) hc) ⟨by decide, rfl⟩ rfl ⟨by decide, by decide⟩ rfl rfl (Nat.le_of_ble_eq_true rfl) rfl dX7_publishEntry_68 ?_
  rintro v h ⟨rfl, hR⟩
  refine G_aload_n 72 rfl rfl dX7_publishEntry_71 ?_
  refine G_aload 74 rfl rfl dX7_publishEntry_72 ?_
  refine G_callV 77 rfl [.ref (aE E m (sNp σ + 1))] (c_X5_keepEntry hR hp hvn (by exact hpl8)) ok_X5_keepEntry ov_X5_keepEntry ml_X7_251 (hR.ob (ci := 5) (i := p) (by decide) hp) ⟨by decide, rfl⟩ rfl ⟨by decide, by decide⟩ rfl rfl (Nat.le_of_ble_eq_true rfl) rfl dX7_publishEntry_74 ?_
  rintro v h ⟨rfl, hR⟩
  change RR E m (pubB σ p j c) τ h at hR
  refine G_aload_n 78 rfl rfl dX7_publishEntry_77 ?_
  refine G_aload_n 79 rfl rfl dX7_publishEntry_78 ?_
  refine G_gi 82 rfl hR 5 9 p 329 (σ.1 329 p) fl_X7_254 hp rfl rfl rfl rfl dX7_publishEntry_79 ?_
  refine G_iconst 83 rfl (1) (by decide) dX7_publishEntry_82 ?_
  refine G_iadd 84 rfl dX7_publishEntry_83 ?_
  rw [show σ.1 329 p + 1 = nI (j + 1) by rw [hj]; exact nI_1 j]
  refine G_callV 87 rfl [.int (nI (j + 1))] (c_X5_nextOn hR hp (g := g) hg hg8 (j + 1) (by omega)) ok_X5_nextOn ov_X5_nextOn ml_X7_256 (hR.ob (ci := 5) (i := p) (by decide) hp) ⟨by decide, rfl⟩ rfl ⟨by decide, by decide⟩ rfl rfl (Nat.le_of_ble_eq_true rfl) rfl dX7_publishEntry_84 ?_
  rintro v h' ⟨rfl, rfl⟩
  rw [show fOn (fun i => (pubB σ p j c).1 131 (8 * p + i)) (g - (j + 1)) (j + 1) = fOn (fun i => σ.1 131 (8 * p + i)) (g - (j + 1)) (j + 1) from rfl]
  rcases hq : fOn (fun i => σ.1 131 (8 * p + i)) (g - (j + 1)) (j + 1) with _ | i
  · skip
    refine G_istore 89 rfl (by decide) dX7_publishEntry_87 ?_
    refine G_iload 91 rfl rfl dX7_publishEntry_89 ?_
    refine G_iconst 92 rfl (-1) (by decide) dX7_publishEntry_91 ?_
    refine G_icmpF_ne 95 rfl rfl ⟨102, by decide⟩ dX7_publishEntry_92 ?_
    refine G_aload_n 96 rfl rfl dX7_publishEntry_95 ?_
    refine G_callV 99 rfl [] (c_X5_lookFromFirst hR hp (g := g) hg hg8) ok_X5_lookFromFirst ov_X5_lookFromFirst ml_X7_259 (hR.ob (ci := 5) (i := p) (by decide) hp) ⟨by decide, rfl⟩ rfl ⟨by decide, by decide⟩ rfl rfl (Nat.le_of_ble_eq_true rfl) rfl dX7_publishEntry_96 ?_
    rintro v h ⟨rfl, hR⟩
    refine G_goto 108 (by decide) dX7_publishEntry_99 ?_
    refine G_ret rfl ?_ dX7_publishEntry_108
    refine ⟨rfl, ?_⟩
    unfold pubS nxt
    rw [show (pubB σ p j c).1 326 p = nI g from hg, cN_nI (by omega), hj, cN_nI (by omega), show fOn (fun i => (pubB σ p j c).1 131 (8 * p + i)) (g - (j + 1)) (j + 1) = fOn (fun i => σ.1 131 (8 * p + i)) (g - (j + 1)) (j + 1) from rfl, hq]
    exact hR
  · skip
    have hb := fOn_some hq
    refine G_istore 89 rfl (by decide) dX7_publishEntry_87 ?_
    refine G_iload 91 rfl rfl dX7_publishEntry_89 ?_
    refine G_iconst 92 rfl (-1) (by decide) dX7_publishEntry_91 ?_
    refine G_icmpT_ne 102 (oI_m1 (by omega)) (by decide) dX7_publishEntry_92 ?_
    refine G_aload_n 103 rfl rfl dX7_publishEntry_102 ?_
    refine G_iload 105 rfl rfl dX7_publishEntry_103 ?_
    refine G_pi 108 rfl hR 5 9 p 329 fl_X7_254 hp rfl ⟨rfl, rfl⟩ rfl rfl dX7_publishEntry_105 (fun h hR => ?_)
    refine G_ret rfl ?_ dX7_publishEntry_108
    refine ⟨rfl, ?_⟩
    unfold pubS nxt
    rw [show (pubB σ p j c).1 326 p = nI g from hg, cN_nI (by omega), hj, cN_nI (by omega), show fOn (fun i => (pubB σ p j c).1 131 (8 * p + i)) (g - (j + 1)) (j + 1) = fOn (fun i => σ.1 131 (8 * p + i)) (g - (j + 1)) (j + 1) from rfl, hq]
    exact hR

set_option maxHeartbeats 4000000 in
set_option maxRecDepth 100000 in
theorem c_X7_lookOn {E : Ev} {m : Nat} {σ : Sg} {τ : Tu} {h : Hp} (hR : RR E m σ τ h) {p : Nat} (hp : p < m) {g : Nat} (hg : σ.1 326 p = nI g) (hg8 : g ≤ 8) {j : Nat} (hj : σ.1 329 p = nI j) (hjg : j < g) {c : Nat} (hch : σ.1 129 (8 * p + j) = nI c) (hc : c < 8) (hv : ∀ n ∈ sLs σ c, 1 ≤ n ∧ n ≤ sNp σ) : Cn E mX7_lookOn (rk 3 0 0) h [.ref (aX E), .ref (aP E p)] (fun v h' => v = none ∧ RR E m (lkS σ p j c) τ h') := by
  refine Cn_of (by decide) rfl (by simp [Value.category]) (Nat.le_of_ble_eq_true rfl) ?_
  refine G_aload_n 1 rfl rfl dX7_lookOn_0 ?_
  refine G_callV 4 rfl [] (c_X5_currentGuard hR hp hg hg8 hj hjg) ok_X5_currentGuard ov_X5_currentGuard ml_X7_195 (hR.ob (ci := 5) (i := p) (by decide) hp) ⟨by decide, rfl⟩ rfl ⟨by decide, by decide⟩ rfl rfl (Nat.le_of_ble_eq_true rfl) rfl dX7_lookOn_1 ?_
  rintro v h' ⟨rfl, rfl⟩
  refine G_astore_n 5 rfl (by decide) dX7_lookOn_4 ?_
  refine G_aload_n 6 rfl rfl dX7_lookOn_5 ?_
  refine G_ifnonnull 13 (by decide) dX7_lookOn_6 ?_
  refine G_aload_n 14 rfl rfl dX7_lookOn_13 ?_
  refine G_aload_n 15 rfl rfl dX7_lookOn_14 ?_
  refine G_gi 18 rfl hR 2 1 (8 * p + j) 129 (σ.1 129 (8 * p + j)) fl_X7_236 (gvd hp (by omega)) rfl rfl rfl rfl dX7_lookOn_15 ?_
  refine G_callV 21 rfl [.int (σ.1 129 (8 * p + j))] (c_X7_listAt hR (σ.1 129 (8 * p + j))) ok_X7_listAt ov_X7_listAt ml_X7_52 (hR.ob (ci := 7) (i := 0) (by decide) rfl) ⟨by decide, rfl⟩ rfl ⟨by decide, by decide⟩ rfl rfl (Nat.le_of_ble_eq_true rfl) rfl dX7_lookOn_18 ?_
  rintro v h' ⟨⟨c', hc', e', rfl⟩ | ⟨e', rfl⟩, rfl⟩
  rotate_left
  · exact absurd e' (by rw [hch]; exact fun z => z.elim (nI_pos (by omega)) (nI_ge hc (by omega)))
  obtain rfl : c = c' := (nI_eq (by omega) (by omega)).mp (hch.symm.trans e')
  refine G_astore_n 22 rfl (by decide) dX7_lookOn_21 ?_
  refine G_aload_n 23 rfl rfl dX7_lookOn_22 ?_
  refine G_ifnonnull 30 (by decide) dX7_lookOn_23 ?_
  refine G_aload_n 31 rfl rfl dX7_lookOn_30 ?_
  refine G_aload_n 32 rfl rfl dX7_lookOn_31 ?_
  refine G_gi 35 rfl hR 5 10 p 330 (σ.1 330 p) fl_X7_262 hp rfl rfl rfl rfl dX7_lookOn_32 ?_
  refine G_callV 38 rfl [.int (σ.1 330 p)] (c_X1_firstAbove hR hc (σ.1 330 p) hv) ok_X1_firstAbove ov_X1_firstAbove ml_X7_265 (hR.ob (ci := 1) (i := c) (by decide) hc) ⟨by decide, rfl⟩ rfl ⟨by decide, by decide⟩ rfl rfl (Nat.le_of_ble_eq_true rfl) rfl dX7_lookOn_35 ?_
  rintro v h' ⟨rfl, rfl⟩
  rcases hq : (sLs σ c).find? (fun n => decide (σ.1 330 p < nI n)) with _ | n
  · skip
    refine G_astoreN 40 rfl (by decide) dX7_lookOn_38 ?_
    refine G_aload_n 41 rfl rfl dX7_lookOn_40 ?_
    refine G_ifnull 44 rfl dX7_lookOn_41 ?_
    refine G_aloadN 46 rfl rfl dX7_lookOn_44 ?_
    refine G_ifnonnullN 49 rfl dX7_lookOn_46 ?_
    refine G_aload_n 50 rfl rfl dX7_lookOn_49 ?_
    refine G_callV 53 rfl [] (c_X5_lookAtNext hR hp hg hg8 (i := j) hj (by omega)) ok_X5_lookAtNext ov_X5_lookAtNext ml_X7_268 (hR.ob (ci := 5) (i := p) (by decide) hp) ⟨by decide, rfl⟩ rfl ⟨by decide, by decide⟩ rfl rfl (Nat.le_of_ble_eq_true rfl) rfl dX7_lookOn_50 ?_
    rintro v h ⟨rfl, hR⟩
    refine G_ret rfl ?_ dX7_lookOn_53
    refine ⟨rfl, ?_⟩
    unfold lkS
    rw [hq]
    exact hR
  · skip
    have hvn := hv n (List.mem_of_find?_eq_some hq)
    refine G_astore 40 rfl (by decide) dX7_lookOn_38 ?_
    refine G_aload_n 41 rfl rfl dX7_lookOn_40 ?_
    refine G_ifnull 44 rfl dX7_lookOn_41 ?_
    refine G_aload 46 rfl rfl dX7_lookOn_44 ?_
    refine G_ifnonnull 54 (by decide) dX7_lookOn_46 ?_
    refine G_aload_n 55 rfl rfl dX7_lookOn_54 ?_
    refine G_aload 57 rfl rfl dX7_lookOn_55 ?_
    refine G_e5 60 rfl hR fl_X7_271 hvn dX7_lookOn_57 ?_
    refine G_pi 63 rfl hR 5 10 p 330 fl_X7_262 hp rfl ⟨rfl, rfl⟩ rfl rfl dX7_lookOn_60 (fun h hR => ?_)
    refine G_aload 65 rfl rfl dX7_lookOn_63 ?_
    refine G_gi 68 rfl hR 0 0 n 0 (σ.1 0 n) fl_X7_203 hvn rfl rfl rfl rfl dX7_lookOn_65 ?_
    refine G_aload_n 69 rfl rfl dX7_lookOn_68 ?_
    refine G_p0 72 rfl hR fl_X7_241 hp dX7_lookOn_69 ?_
    refine G_icmp_eq 98 75 rfl (by decide) dX7_lookOn_72 (fun c72 => ?_) (fun c72 => ?_)
    · skip
      refine G_ret rfl ?_ dX7_lookOn_98
      refine ⟨rfl, ?_⟩
      unfold lkS
      rw [hq]
      show RR E m (if _ then _ else _) τ h
      rw [if_neg (by first | exact fun z => z.2 c84 | exact fun z => z.1 c72)]
      exact hR
    · skip
      refine G_aload 77 rfl rfl dX7_lookOn_75 ?_
      refine G_gi 80 rfl hR 0 2 n 2 (σ.1 2 n) fl_X7_272 hvn rfl rfl rfl rfl dX7_lookOn_77 ?_
      refine G_aload_n 81 rfl rfl dX7_lookOn_80 ?_
      refine G_gi 84 rfl hR 2 0 (8 * p + j) 128 (σ.1 128 (8 * p + j)) fl_X7_273 (gvd hp (by omega)) rfl rfl rfl rfl dX7_lookOn_81 ?_
      refine G_icmp_eq 98 87 rfl (by decide) dX7_lookOn_84 (fun c84 => ?_) (fun c84 => ?_)
      · skip
        refine G_ret rfl ?_ dX7_lookOn_98
        refine ⟨rfl, ?_⟩
        unfold lkS
        rw [hq]
        show RR E m (if _ then _ else _) τ h
        rw [if_neg (by first | exact fun z => z.2 c84 | exact fun z => z.1 c72)]
        exact hR
      · skip
        refine G_aload_n 88 rfl rfl dX7_lookOn_87 ?_
        refine G_aload 90 rfl rfl dX7_lookOn_88 ?_
        refine G_putMet 93 rfl hR fl_X7_199 hp dX7_lookOn_90 (fun h hR => ?_)
        refine G_aload_n 94 rfl rfl dX7_lookOn_93 ?_
        refine G_iconst 95 rfl (4) (by decide) dX7_lookOn_94 ?_
        refine G_pi 98 rfl hR 5 5 p 325 fl_X7_48 hp rfl ⟨rfl, rfl⟩ rfl rfl dX7_lookOn_95 (fun h hR => ?_)
        refine G_ret rfl ?_ dX7_lookOn_98
        refine ⟨rfl, ?_⟩
        unfold lkS
        rw [hq]
        show RR E m (if _ then _ else _) τ h
        rw [if_pos ⟨c72, c84⟩]
        exact hR

set_option maxHeartbeats 4000000 in
set_option maxRecDepth 100000 in
theorem c_X7_withdrawEntry {E : Ev} {m : Nat} {σ : Sg} {τ : Tu} {h : Hp} (hR : RR E m σ τ h) {p : Nat} (hp : p < m) {w n c : Nat} (hw : σ.1 336 p = nI w) (hwn : (sPb σ p)[w]? = some n) (hn : 1 ≤ n ∧ n ≤ sNp σ) (hec : σ.1 3 n = nI c) (hc : c < 8) (hv : ∀ n ∈ sLs σ c, 1 ≤ n ∧ n ≤ sNp σ) : Cn E mX7_withdrawEntry (rk 2 0 0) h [.ref (aX E), .ref (aP E p)] (fun v h' => v = none ∧ RR E m (wdS σ p n c) τ h') := by
  refine Cn_of (by decide) rfl (by simp [Value.category]) (Nat.le_of_ble_eq_true rfl) ?_
  have hwl := (List.getElem?_eq_some_iff.mp hwn).1
  have hl8 := (hR.2.2.1.2.2.2.2.2.2.2 p hp).1
  have hfe : fE σ p = some n := by unfold fE; rw [hw, cN_nI (by omega)]; exact hwn
  refine G_aload_n 1 rfl rfl dX7_withdrawEntry_0 ?_
  refine G_callV 4 rfl [] (c_X5_firstEntry hR hp hw (by omega)) ok_X5_firstEntry ov_X5_firstEntry ml_X7_298 (hR.ob (ci := 5) (i := p) (by decide) hp) ⟨by decide, rfl⟩ rfl ⟨by decide, by decide⟩ rfl rfl (Nat.le_of_ble_eq_true rfl) rfl dX7_withdrawEntry_1 ?_
  rintro v h' ⟨rfl, rfl⟩
  rw [hfe]
  refine G_astore_n 5 rfl (by decide) dX7_withdrawEntry_4 ?_
  refine G_aload_n 6 rfl rfl dX7_withdrawEntry_5 ?_
  refine G_ifnonnull 13 (by decide) dX7_withdrawEntry_6 ?_
  refine G_aload_n 14 rfl rfl dX7_withdrawEntry_13 ?_
  refine G_aload_n 15 rfl rfl dX7_withdrawEntry_14 ?_
  refine G_gi 18 rfl hR 0 3 n 3 (σ.1 3 n) fl_X7_302 hn rfl rfl rfl rfl dX7_withdrawEntry_15 ?_
  refine G_callV 21 rfl [.int (σ.1 3 n)] (c_X7_listAt hR (σ.1 3 n)) ok_X7_listAt ov_X7_listAt ml_X7_52 (hR.ob (ci := 7) (i := 0) (by decide) rfl) ⟨by decide, rfl⟩ rfl ⟨by decide, by decide⟩ rfl rfl (Nat.le_of_ble_eq_true rfl) rfl dX7_withdrawEntry_18 ?_
  rintro v h' ⟨⟨c', hc', e', rfl⟩ | ⟨e', rfl⟩, rfl⟩
  rotate_left
  · exact absurd e' (by rw [hec]; exact fun z => z.elim (nI_pos (by omega)) (nI_ge hc (by omega)))
  obtain rfl : c = c' := (nI_eq (by omega) (by omega)).mp (hec.symm.trans e')
  refine G_astore_n 22 rfl (by decide) dX7_withdrawEntry_21 ?_
  refine G_aload_n 23 rfl rfl dX7_withdrawEntry_22 ?_
  refine G_ifnull 26 rfl dX7_withdrawEntry_23 ?_
  refine G_aload_n 27 rfl rfl dX7_withdrawEntry_26 ?_
  refine G_ifnull 30 rfl dX7_withdrawEntry_27 ?_
  refine G_aload_n 31 rfl rfl dX7_withdrawEntry_30 ?_
  refine G_aload_n 32 rfl rfl dX7_withdrawEntry_31 ?_
  refine G_e5 35 rfl hR fl_X7_271 hn dX7_withdrawEntry_32 ?_
  refine G_callV 38 rfl [.int (nI n)] (c_X1_drop hR hc (nI n) hv) ok_X1_drop ov_X1_drop ml_X7_303 (hR.ob (ci := 1) (i := c) (by decide) hc) ⟨by decide, rfl⟩ rfl ⟨by decide, by decide⟩ rfl rfl (Nat.le_of_ble_eq_true rfl) rfl dX7_withdrawEntry_35 ?_
  rintro v h ⟨rfl, hR⟩
  refine G_aload_n 39 rfl rfl dX7_withdrawEntry_38 ?_
  refine G_dup 40 rfl rfl dX7_withdrawEntry_39 ?_
  refine G_gi 43 rfl hR 5 16 p 336 (σ.1 336 p) fl_X7_306 hp rfl rfl rfl rfl dX7_withdrawEntry_40 ?_
  refine G_iconst 44 rfl (1) (by decide) dX7_withdrawEntry_43 ?_
  refine G_iadd 45 rfl dX7_withdrawEntry_44 ?_
  refine G_pi 48 rfl hR 5 16 p 336 fl_X7_306 hp rfl ⟨rfl, rfl⟩ rfl rfl dX7_withdrawEntry_45 (fun h hR => ?_)
  refine G_aload_n 49 rfl rfl dX7_withdrawEntry_48 ?_
  refine G_callV 52 rfl [] (c_X5_beginWithdraw hR hp (w := w + 1) (by rw [up_same, hw]; exact nI_1 w) (by exact hwl)) ok_X5_beginWithdraw ov_X5_beginWithdraw ml_X7_104 (hR.ob (ci := 5) (i := p) (by decide) hp) ⟨by decide, rfl⟩ rfl ⟨by decide, by decide⟩ rfl rfl (Nat.le_of_ble_eq_true rfl) rfl dX7_withdrawEntry_49 ?_
  rintro v h ⟨rfl, hR⟩
  refine G_ret rfl ?_ dX7_withdrawEntry_52
  exact ⟨rfl, hR⟩

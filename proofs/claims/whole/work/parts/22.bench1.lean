theorem e8 (z k : Nat) : nI z * 8 + nI k = nI (z * 8 + k) := by
  rw [show (8 : Int32) = nI 8 from rfl, pk_mul, nI_add]
set_option maxHeartbeats 4000000 in
set_option maxRecDepth 100000 in
theorem c_X7_procAt {E : Ev} {m : Nat} {σ : Sg} {τ : Tu} {h : Hp} (hR : RR E m σ τ h) (i : Int32) : Cn E mX7_procAt (rk 0 0 0) h [.ref (aX E), .int i] (fun v h' => ((∃ p, p < m ∧ i = nI p ∧ v = some (.ref (aP E p))) ∨ ((i < 0 ∨ nI m ≤ i) ∧ v = some .null)) ∧ h' = h) := by
  refine Cn_of (by decide) rfl (by simp [Value.category]) (Nat.le_of_ble_eq_true rfl) ?_
  have hm := hR.1.1
  refine G_iload_n 1 rfl rfl dX7_procAt_0 ?_
  refine G_if_lt 22 4 rfl (by decide) dX7_procAt_1 (fun c1 => ?_) (fun c1 => ?_)
  · skip
    refine G_null 23 rfl dX7_procAt_22 ?_
    refine G_aret rfl (Or.inl rfl) ?_ dX7_procAt_23
    exact ⟨Or.inr ⟨by first | exact Or.inl c1 | exact Or.inr c10, rfl⟩, rfl⟩
  · skip
    refine G_iload_n 5 rfl rfl dX7_procAt_4 ?_
    refine G_aload_n 6 rfl rfl dX7_procAt_5 ?_
    refine G_x0 9 rfl hR fl_X7_20 dX7_procAt_6 ?_
    refine G_lenPA 10 rfl hR dX7_procAt_9 ?_
    refine G_icmp_ge 22 13 rfl (by decide) dX7_procAt_10 (fun c10 => ?_) (fun c10 => ?_)
    · skip
      refine G_null 23 rfl dX7_procAt_22 ?_
      refine G_aret rfl (Or.inl rfl) ?_ dX7_procAt_23
      exact ⟨Or.inr ⟨by first | exact Or.inl c1 | exact Or.inr c10, rfl⟩, rfl⟩
    · skip
      refine G_aload_n 14 rfl rfl dX7_procAt_13 ?_
      refine G_x0 17 rfl hR fl_X7_20 dX7_procAt_14 ?_
      refine G_iload_n 18 rfl rfl dX7_procAt_17 ?_
      obtain ⟨p, hp, e⟩ := ix_of (by omega) c1 c10
      refine G_procs 19 rfl hR (p := p) e hp dX7_procAt_18 ?_
      refine G_goto 23 (by decide) dX7_procAt_19 ?_
      refine G_aret rfl (Or.inr ⟨_, rfl⟩) ?_ dX7_procAt_23
      exact ⟨Or.inl ⟨p, hp, e, rfl⟩, rfl⟩

set_option maxHeartbeats 4000000 in
set_option maxRecDepth 100000 in
theorem c_X7_listAt {E : Ev} {m : Nat} {σ : Sg} {τ : Tu} {h : Hp} (hR : RR E m σ τ h) (i : Int32) : Cn E mX7_listAt (rk 0 0 0) h [.ref (aX E), .int i] (fun v h' => ((∃ c, c < 8 ∧ i = nI c ∧ v = some (.ref (aLs E m c))) ∨ ((i < 0 ∨ nI 8 ≤ i) ∧ v = some .null)) ∧ h' = h) := by
  refine Cn_of (by decide) rfl (by simp [Value.category]) (Nat.le_of_ble_eq_true rfl) ?_
  refine G_iload_n 1 rfl rfl dX7_listAt_0 ?_
  refine G_if_lt 22 4 rfl (by decide) dX7_listAt_1 (fun c1 => ?_) (fun c1 => ?_)
  · skip
    refine G_null 23 rfl dX7_listAt_22 ?_
    refine G_aret rfl (Or.inl rfl) ?_ dX7_listAt_23
    exact ⟨Or.inr ⟨by first | exact Or.inl c1 | exact Or.inr c10, rfl⟩, rfl⟩
  · skip
    refine G_iload_n 5 rfl rfl dX7_listAt_4 ?_
    refine G_aload_n 6 rfl rfl dX7_listAt_5 ?_
    refine G_x1 9 rfl hR fl_X7_29 dX7_listAt_6 ?_
    refine G_lenLL 10 rfl hR dX7_listAt_9 ?_
    refine G_icmp_ge 22 13 rfl (by decide) dX7_listAt_10 (fun c10 => ?_) (fun c10 => ?_)
    · skip
      refine G_null 23 rfl dX7_listAt_22 ?_
      refine G_aret rfl (Or.inl rfl) ?_ dX7_listAt_23
      exact ⟨Or.inr ⟨by first | exact Or.inl c1 | exact Or.inr c10, rfl⟩, rfl⟩
    · skip
      refine G_aload_n 14 rfl rfl dX7_listAt_13 ?_
      refine G_x1 17 rfl hR fl_X7_29 dX7_listAt_14 ?_
      refine G_iload_n 18 rfl rfl dX7_listAt_17 ?_
      obtain ⟨c, hc, e⟩ := ix_of (n := 8) (by omega) c1 c10
      refine G_lists 19 rfl hR (c := c) e hc dX7_listAt_18 ?_
      refine G_goto 23 (by decide) dX7_listAt_19 ?_
      refine G_aret rfl (Or.inr ⟨_, rfl⟩) ?_ dX7_listAt_23
      exact ⟨Or.inl ⟨c, hc, e, rfl⟩, rfl⟩

set_option maxHeartbeats 4000000 in
set_option maxRecDepth 100000 in
theorem c_X7_procIn {E : Ev} {m : Nat} {σ : Sg} {τ : Tu} {h : Hp} (hR : RR E m σ τ h) (i k : Int32) : Cn E mX7_procIn (rk 1 0 0) h [.ref (aX E), .int i, .int k] (fun v h' => ((∃ p, p < m ∧ i = nI p ∧ σ.1 325 p = k ∧ v = some (.ref (aP E p))) ∨ ((∀ p, p < m → i = nI p → ¬ σ.1 325 p = k) ∧ v = some .null)) ∧ h' = h) := by
  refine Cn_of (by decide) rfl (by simp [Value.category]) (Nat.le_of_ble_eq_true rfl) ?_
  have hm := hR.1.1
  refine G_aload_n 1 rfl rfl dX7_procIn_0 ?_
  refine G_iload_n 2 rfl rfl dX7_procIn_1 ?_
  refine G_callV 5 rfl [.int i] (c_X7_procAt hR i) ok_X7_procAt ov_X7_procAt ml_X7_78 (hR.ob (ci := 7) (i := 0) (by decide) rfl) ⟨by decide, rfl⟩ rfl ⟨by decide, by decide⟩ rfl rfl (Nat.le_of_ble_eq_true rfl) rfl dX7_procIn_2 ?_
  rintro v h' ⟨⟨p, hp, e, rfl⟩ | ⟨e, rfl⟩, rfl⟩
  · skip
    refine G_astore_n 6 rfl (by decide) dX7_procIn_5 ?_
    refine G_aload_n 7 rfl rfl dX7_procIn_6 ?_
    refine G_ifnull 10 rfl dX7_procIn_7 ?_
    refine G_aload_n 11 rfl rfl dX7_procIn_10 ?_
    refine G_gi 14 rfl hR 5 5 p 325 (σ.1 325 p) fl_X7_48 hp rfl rfl rfl rfl dX7_procIn_11 ?_
    refine G_iload_n 15 rfl rfl dX7_procIn_14 ?_
    refine G_icmp_ne 22 18 rfl (by decide) dX7_procIn_15 (fun c15 => ?_) (fun c15 => ?_)
    · skip
      refine G_null 23 rfl dX7_procIn_22 ?_
      refine G_aret rfl (Or.inl rfl) ?_ dX7_procIn_23
      exact ⟨Or.inr ⟨fun q hq e2 => by rw [← (nI_eq (by omega) (by omega)).mp (e.symm.trans e2)]; exact c15, rfl⟩, rfl⟩
    · skip
      refine G_aload_n 19 rfl rfl dX7_procIn_18 ?_
      refine G_goto 23 (by decide) dX7_procIn_19 ?_
      refine G_aret rfl (Or.inr ⟨_, rfl⟩) ?_ dX7_procIn_23
      exact ⟨Or.inl ⟨p, hp, e, c15, rfl⟩, rfl⟩
  · skip
    refine G_astore_nN 6 rfl (by decide) dX7_procIn_5 ?_
    refine G_aload_nN 7 rfl rfl dX7_procIn_6 ?_
    refine G_ifnullN 22 (by decide) dX7_procIn_7 ?_
    refine G_null 23 rfl dX7_procIn_22 ?_
    refine G_aret rfl (Or.inl rfl) ?_ dX7_procIn_23
    exact ⟨Or.inr ⟨fun q hq e2 => absurd e (by rw [e2]; exact fun z => z.elim (nI_pos (by omega)) (nI_ge hq (by omega))), rfl⟩, rfl⟩

set_option maxHeartbeats 4000000 in
set_option maxRecDepth 100000 in
theorem c_X7_versionSought {E : Ev} {m : Nat} {σ : Sg} {τ : Tu} {h : Hp} (hR : RR E m σ τ h) {p : Nat} (hp : p < m) {t : Nat} (ht : t < m) {n : Nat} (hn : 1 ≤ n ∧ n ≤ sNp σ) : Cn E mX7_versionSought (rk 0 0 0) h [.ref (aP E p), .ref (aP E t), .ref (aE E m n)] (fun v h' => v = some (.int (vs σ p t n)) ∧ h' = h) := by
  refine Cn_of (by decide) rfl (by simp [Value.category]) (Nat.le_of_ble_eq_true rfl) ?_
  refine G_aload_n 1 rfl rfl dX7_versionSought_0 ?_
  refine G_aload_n 2 rfl rfl dX7_versionSought_1 ?_
  refine G_acmp_ne 15 5 rfl (by decide) dX7_versionSought_2 (fun c2 => ?_) (fun c2 => ?_)
  · skip
    refine G_aload_n 16 rfl rfl dX7_versionSought_15 ?_
    refine G_gi 19 rfl hR 0 1 n 1 (σ.1 1 n) fl_X7_323 hn rfl rfl rfl rfl dX7_versionSought_16 ?_
    refine G_iret (ty := .int) rfl rfl ?_ dX7_versionSought_19
    exact ⟨by unfold vs; first | rw [if_neg (fun q => c2 (congrArg (aP E) q))] | rw [if_pos (aP_inj c2)], rfl⟩
  · skip
    refine G_aload_n 6 rfl rfl dX7_versionSought_5 ?_
    refine G_p1 9 rfl hR fl_X7_63 hp dX7_versionSought_6 ?_
    refine G_gi 12 rfl hR 6 1 p 385 (σ.1 385 p) fl_X7_67 hp rfl rfl rfl rfl dX7_versionSought_9 ?_
    refine G_goto 19 (by decide) dX7_versionSought_12 ?_
    refine G_iret (ty := .int) rfl rfl ?_ dX7_versionSought_19
    exact ⟨by unfold vs; first | rw [if_neg (fun q => c2 (congrArg (aP E) q))] | rw [if_pos (aP_inj c2)], rfl⟩

set_option maxHeartbeats 4000000 in
set_option maxRecDepth 100000 in
theorem c_X7_noteDouble {E : Ev} {m : Nat} {σ : Sg} {τ : Tu} {h : Hp} (hR : RR E m σ τ h) {p : Nat} (hp : p < m) : Cn E mX7_noteDouble (rk 0 0 0) h [.ref (aX E), .ref (aP E p)] (fun v h' => v = none ∧ RR E m (ndb σ p) τ h') := by
  refine Cn_of (by decide) rfl (by simp [Value.category]) (Nat.le_of_ble_eq_true rfl) ?_
  refine G_aload_n 1 rfl rfl dX7_noteDouble_0 ?_
  refine G_gi 4 rfl hR 5 17 p 337 (σ.1 337 p) fl_X7_328 hp rfl rfl rfl rfl dX7_noteDouble_1 ?_
  refine G_iconst 5 rfl (1) (by decide) dX7_noteDouble_4 ?_
  refine G_icmp_gt 23 8 rfl (by decide) dX7_noteDouble_5 (fun c5 => ?_) (fun c5 => ?_)
  · skip
    refine G_iconst 24 rfl (1) (by decide) dX7_noteDouble_23 ?_
    refine G_goto 28 (by decide) dX7_noteDouble_24 ?_
    refine G_istore_n 29 rfl (by decide) dX7_noteDouble_28 ?_
    refine G_iload_n 30 rfl rfl dX7_noteDouble_29 ?_
    refine G_ifF_eq 33 rfl (by decide) ⟨55, by decide⟩ dX7_noteDouble_30 ?_
    refine G_aload_n 34 rfl rfl dX7_noteDouble_33 ?_
    refine G_gi 37 rfl hR 5 19 p 339 (σ.1 339 p) fl_X7_331 hp rfl rfl rfl rfl dX7_noteDouble_34 ?_
    refine G_if_ne 55 40 rfl (by decide) dX7_noteDouble_37 (fun c37 => ?_) (fun c37 => ?_)
    · skip
      refine G_ret rfl ?_ dX7_noteDouble_55
      refine ⟨rfl, ?_⟩
      unfold ndb
      rw [if_neg (by first | exact fun q => c37 q.2 | exact fun q => q.1.elim c5 (fun z => z.2 c20) | exact fun q => q.1.elim c5 (fun z => c13 z.1))]
      exact hR
    · skip
      refine G_aload_n 41 rfl rfl dX7_noteDouble_40 ?_
      refine G_iconst 42 rfl (1) (by decide) dX7_noteDouble_41 ?_
      refine G_pz 45 rfl hR 5 19 p 339 fl_X7_331 hp rfl ⟨rfl, rfl⟩ (by decide) rfl rfl dX7_noteDouble_42 (fun h hR => ?_)
      refine G_aload_n 46 rfl rfl dX7_noteDouble_45 ?_
      refine G_dup 47 rfl rfl dX7_noteDouble_46 ?_
      refine G_gi 50 rfl hR 7 8 0 456 (σ.1 456 0) fl_X7_134 rfl rfl rfl rfl rfl dX7_noteDouble_47 ?_
      refine G_iconst 51 rfl (1) (by decide) dX7_noteDouble_50 ?_
      refine G_iadd 52 rfl dX7_noteDouble_51 ?_
      refine G_pi 55 rfl hR 7 8 0 456 fl_X7_134 rfl rfl ⟨rfl, rfl⟩ rfl rfl dX7_noteDouble_52 (fun h hR => ?_)
      refine G_ret rfl ?_ dX7_noteDouble_55
      refine ⟨rfl, ?_⟩
      unfold ndb
      rw [if_pos (by simp_all)]
      exact hR
  · skip
    refine G_aload_n 9 rfl rfl dX7_noteDouble_8 ?_
    refine G_gi 12 rfl hR 5 17 p 337 (σ.1 337 p) fl_X7_328 hp rfl rfl rfl rfl dX7_noteDouble_9 ?_
    refine G_iconst 13 rfl (1) (by decide) dX7_noteDouble_12 ?_
    refine G_icmp_ne 27 16 rfl (by decide) dX7_noteDouble_13 (fun c13 => ?_) (fun c13 => ?_)
    · skip
      refine G_iconst 28 rfl (0) (by decide) dX7_noteDouble_27 ?_
      refine G_istore_n 29 rfl (by decide) dX7_noteDouble_28 ?_
      refine G_iload_n 30 rfl rfl dX7_noteDouble_29 ?_
      refine G_ifT_eq 55 (by decide) (by decide) dX7_noteDouble_30 ?_
      refine G_ret rfl ?_ dX7_noteDouble_55
      refine ⟨rfl, ?_⟩
      unfold ndb
      rw [if_neg (by first | exact fun q => c37 q.2 | exact fun q => q.1.elim c5 (fun z => z.2 c20) | exact fun q => q.1.elim c5 (fun z => c13 z.1))]
      exact hR
    · skip
      refine G_aload_n 17 rfl rfl dX7_noteDouble_16 ?_
      refine G_gi 20 rfl hR 5 18 p 338 (σ.1 338 p) fl_X7_229 hp rfl rfl rfl rfl dX7_noteDouble_17 ?_
      refine G_if_eq 27 23 rfl (by decide) dX7_noteDouble_20 (fun c20 => ?_) (fun c20 => ?_)
      · skip
        refine G_iconst 28 rfl (0) (by decide) dX7_noteDouble_27 ?_
        refine G_istore_n 29 rfl (by decide) dX7_noteDouble_28 ?_
        refine G_iload_n 30 rfl rfl dX7_noteDouble_29 ?_
        refine G_ifT_eq 55 (by decide) (by decide) dX7_noteDouble_30 ?_
        refine G_ret rfl ?_ dX7_noteDouble_55
        refine ⟨rfl, ?_⟩
        unfold ndb
        rw [if_neg (by first | exact fun q => c37 q.2 | exact fun q => q.1.elim c5 (fun z => z.2 c20) | exact fun q => q.1.elim c5 (fun z => c13 z.1))]
        exact hR
      · skip
        refine G_iconst 24 rfl (1) (by decide) dX7_noteDouble_23 ?_
        refine G_goto 28 (by decide) dX7_noteDouble_24 ?_
        refine G_istore_n 29 rfl (by decide) dX7_noteDouble_28 ?_
        refine G_iload_n 30 rfl rfl dX7_noteDouble_29 ?_
        refine G_ifF_eq 33 rfl (by decide) ⟨55, by decide⟩ dX7_noteDouble_30 ?_
        refine G_aload_n 34 rfl rfl dX7_noteDouble_33 ?_
        refine G_gi 37 rfl hR 5 19 p 339 (σ.1 339 p) fl_X7_331 hp rfl rfl rfl rfl dX7_noteDouble_34 ?_
        refine G_if_ne 55 40 rfl (by decide) dX7_noteDouble_37 (fun c37 => ?_) (fun c37 => ?_)
        · skip
          refine G_ret rfl ?_ dX7_noteDouble_55
          refine ⟨rfl, ?_⟩
          unfold ndb
          rw [if_neg (by first | exact fun q => c37 q.2 | exact fun q => q.1.elim c5 (fun z => z.2 c20) | exact fun q => q.1.elim c5 (fun z => c13 z.1))]
          exact hR
        · skip
          refine G_aload_n 41 rfl rfl dX7_noteDouble_40 ?_
          refine G_iconst 42 rfl (1) (by decide) dX7_noteDouble_41 ?_
          refine G_pz 45 rfl hR 5 19 p 339 fl_X7_331 hp rfl ⟨rfl, rfl⟩ (by decide) rfl rfl dX7_noteDouble_42 (fun h hR => ?_)
          refine G_aload_n 46 rfl rfl dX7_noteDouble_45 ?_
          refine G_dup 47 rfl rfl dX7_noteDouble_46 ?_
          refine G_gi 50 rfl hR 7 8 0 456 (σ.1 456 0) fl_X7_134 rfl rfl rfl rfl rfl dX7_noteDouble_47 ?_
          refine G_iconst 51 rfl (1) (by decide) dX7_noteDouble_50 ?_
          refine G_iadd 52 rfl dX7_noteDouble_51 ?_
          refine G_pi 55 rfl hR 7 8 0 456 fl_X7_134 rfl rfl ⟨rfl, rfl⟩ rfl rfl dX7_noteDouble_52 (fun h hR => ?_)
          refine G_ret rfl ?_ dX7_noteDouble_55
          refine ⟨rfl, ?_⟩
          unfold ndb
          rw [if_pos (by simp_all)]
          exact hR

set_option maxHeartbeats 4000000 in
set_option maxRecDepth 100000 in
theorem c_X7_putOut {E : Ev} {m : Nat} {σ : Sg} {τ : Tu} {h : Hp} (hR : RR E m σ τ h) {p : Nat} (hp : p < m) (k : Int32) : Cn E mX7_putOut (rk 1 0 0) h [.ref (aX E), .ref (aP E p), .int k] (fun v h' => v = none ∧ RR E m (putO σ p k) τ h') := by
  refine Cn_of (by decide) rfl (by simp [Value.category]) (Nat.le_of_ble_eq_true rfl) ?_
  refine G_aload_n 1 rfl rfl dX7_putOut_0 ?_
  refine G_p1 4 rfl hR fl_X7_63 hp dX7_putOut_1 ?_
  refine G_iconst 5 rfl (4) (by decide) dX7_putOut_4 ?_
  refine G_callV 8 rfl [.int 4] (c_X6_become hR hp 4) ok_X6_become ov_X6_become ml_X7_107 (hR.ob (ci := 6) (i := p) (by decide) hp) ⟨by decide, rfl⟩ rfl ⟨by decide, by decide⟩ rfl rfl (Nat.le_of_ble_eq_true rfl) rfl dX7_putOut_5 ?_
  rintro v h ⟨rfl, hR⟩
  refine G_aload_n 9 rfl rfl dX7_putOut_8 ?_
  refine G_iload_n 10 rfl rfl dX7_putOut_9 ?_
  refine G_pi 13 rfl hR 5 14 p 334 fl_X7_226 hp rfl ⟨rfl, rfl⟩ rfl rfl dX7_putOut_10 (fun h hR => ?_)
  refine G_aload_n 14 rfl rfl dX7_putOut_13 ?_
  refine G_iconst 15 rfl (1) (by decide) dX7_putOut_14 ?_
  refine G_pz 18 rfl hR 5 18 p 338 fl_X7_229 hp rfl ⟨rfl, rfl⟩ (by decide) rfl rfl dX7_putOut_15 (fun h hR => ?_)
  refine G_aload_n 19 rfl rfl dX7_putOut_18 ?_
  refine G_aload_n 20 rfl rfl dX7_putOut_19 ?_
  refine G_callV 23 rfl [.ref (aP E p)] (c_X7_noteDouble hR hp) ok_X7_noteDouble ov_X7_noteDouble ml_X7_233 (hR.ob (ci := 7) (i := 0) (by decide) rfl) ⟨by decide, rfl⟩ rfl ⟨by decide, by decide⟩ rfl rfl (Nat.le_of_ble_eq_true rfl) rfl dX7_putOut_20 ?_
  rintro v h ⟨rfl, hR⟩
  refine G_ret rfl ?_ dX7_putOut_23
  exact ⟨rfl, hR⟩

set_option maxHeartbeats 4000000 in
set_option maxRecDepth 100000 in
theorem c_X7_runOutOfTime {E : Ev} {m : Nat} {σ : Sg} {τ : Tu} {h : Hp} (hR : RR E m σ τ h) {p : Nat} (hp : p < m) {w : Nat} (hw : σ.1 336 p = nI w) (hwl : w ≤ (sPb σ p).length) : Cn E mX7_runOutOfTime (rk 2 0 0) h [.ref (aX E), .ref (aP E p)] (fun v h' => v = none ∧ RR E m (rOut σ p) τ h') := by
  refine Cn_of (by decide) rfl (by simp [Value.category]) (Nat.le_of_ble_eq_true rfl) ?_
  refine G_aload_n 1 rfl rfl dX7_runOutOfTime_0 ?_
  refine G_p1 4 rfl hR fl_X7_63 hp dX7_runOutOfTime_1 ?_
  refine G_gi 7 rfl hR 6 0 p 384 (σ.1 384 p) fl_X7_94 hp rfl rfl rfl rfl dX7_runOutOfTime_4 ?_
  refine G_iconst 8 rfl (1) (by decide) dX7_runOutOfTime_7 ?_
  refine G_icmp_ne 24 11 rfl (by decide) dX7_runOutOfTime_8 (fun c8 => ?_) (fun c8 => ?_)
  · skip
    refine G_aload_n 25 rfl rfl dX7_runOutOfTime_24 ?_
    refine G_p1 28 rfl hR fl_X7_63 hp dX7_runOutOfTime_25 ?_
    refine G_gi 31 rfl hR 6 0 p 384 (σ.1 384 p) fl_X7_94 hp rfl rfl rfl rfl dX7_runOutOfTime_28 ?_
    refine G_iconst 32 rfl (3) (by decide) dX7_runOutOfTime_31 ?_
    refine G_icmp_ne 39 35 rfl (by decide) dX7_runOutOfTime_32 (fun c32 => ?_) (fun c32 => ?_)
    · skip
      refine G_ret rfl ?_ dX7_runOutOfTime_39
      refine ⟨rfl, ?_⟩
      unfold rOut
      first | (rw [if_pos c8]; exact hR) | (rw [if_neg c8, if_pos c32]; exact hR) | (rw [if_neg c8, if_neg c32]; exact hR)
    · skip
      refine G_aload_n 36 rfl rfl dX7_runOutOfTime_35 ?_
      refine G_callV 39 rfl [] (c_X5_beginWithdraw hR hp hw hwl) ok_X5_beginWithdraw ov_X5_beginWithdraw ml_X7_104 (hR.ob (ci := 5) (i := p) (by decide) hp) ⟨by decide, rfl⟩ rfl ⟨by decide, by decide⟩ rfl rfl (Nat.le_of_ble_eq_true rfl) rfl dX7_runOutOfTime_36 ?_
      rintro v h ⟨rfl, hR⟩
      refine G_ret rfl ?_ dX7_runOutOfTime_39
      refine ⟨rfl, ?_⟩
      unfold rOut
      first | (rw [if_pos c8]; exact hR) | (rw [if_neg c8, if_pos c32]; exact hR) | (rw [if_neg c8, if_neg c32]; exact hR)
  · skip
    refine G_aload_n 12 rfl rfl dX7_runOutOfTime_11 ?_
    refine G_aload_n 13 rfl rfl dX7_runOutOfTime_12 ?_
    refine G_iconst 14 rfl (3) (by decide) dX7_runOutOfTime_13 ?_
    refine G_callV 17 rfl [.ref (aP E p), .int 3] (c_X7_putOut hR hp 3) ok_X7_putOut ov_X7_putOut ml_X7_97 (hR.ob (ci := 7) (i := 0) (by decide) rfl) ⟨by decide, rfl⟩ rfl ⟨by decide, by decide⟩ rfl rfl (Nat.le_of_ble_eq_true rfl) rfl dX7_runOutOfTime_14 ?_
    rintro v h ⟨rfl, hR⟩
    refine G_aload_n 18 rfl rfl dX7_runOutOfTime_17 ?_
    refine G_callV 21 rfl [] (c_X5_beginWithdraw hR hp (w := w) (by rw [putO_f _ _ _ _ _ (by decide) (by decide) (by decide) (by decide) (by decide) (by decide)]; exact hw) (by rw [show sPb (putO σ p 3) = sPb σ by unfold sPb; rw [putO_2]]; exact hwl)) ok_X5_beginWithdraw ov_X5_beginWithdraw ml_X7_104 (hR.ob (ci := 5) (i := p) (by decide) hp) ⟨by decide, rfl⟩ rfl ⟨by decide, by decide⟩ rfl rfl (Nat.le_of_ble_eq_true rfl) rfl dX7_runOutOfTime_18 ?_
    rintro v h ⟨rfl, hR⟩
    refine G_goto 39 (by decide) dX7_runOutOfTime_21 ?_
    refine G_ret rfl ?_ dX7_runOutOfTime_39
    refine ⟨rfl, ?_⟩
    unfold rOut
    first | (rw [if_pos c8]; exact hR) | (rw [if_neg c8, if_pos c32]; exact hR) | (rw [if_neg c8, if_neg c32]; exact hR)

set_option maxHeartbeats 4000000 in
set_option maxRecDepth 100000 in
theorem c_X7_tryWord {E : Ev} {m : Nat} {σ : Sg} {τ : Tu} {h : Hp} (hR : RR E m σ τ h) {p : Nat} (hp : p < m) {t : Nat} (ht : t < m) {n : Nat} (hn : 1 ≤ n ∧ n ≤ sNp σ) : Cn E mX7_tryWord (rk 1 0 0) h [.ref (aX E), .ref (aP E p), .ref (aP E t), .ref (aE E m n)] (fun v h' => (tryOk σ p t n ∧ v = some (.int 1) ∧ RR E m (tryY σ p t) τ h') ∨ (¬ tryOk σ p t n ∧ v = some (.int 0) ∧ RR E m (tryN σ) τ h')) := by
  refine Cn_of (by decide) rfl (by simp [Value.category]) (Nat.le_of_ble_eq_true rfl) ?_
  refine G_aload_n 1 rfl rfl dX7_tryWord_0 ?_
  refine G_dup 2 rfl rfl dX7_tryWord_1 ?_
  refine G_gi 5 rfl hR 7 6 0 454 (σ.1 454 0) fl_X7_156 rfl rfl rfl rfl rfl dX7_tryWord_2 ?_
  refine G_iconst 6 rfl (1) (by decide) dX7_tryWord_5 ?_
  refine G_iadd 7 rfl dX7_tryWord_6 ?_
  refine G_pi 10 rfl hR 7 6 0 454 fl_X7_156 rfl rfl ⟨rfl, rfl⟩ rfl rfl dX7_tryWord_7 (fun h hR => ?_)
  refine G_aload_n 11 rfl rfl dX7_tryWord_10 ?_
  refine G_p1 14 rfl hR fl_X7_63 ht dX7_tryWord_11 ?_
  refine G_iconst 15 rfl (1) (by decide) dX7_tryWord_14 ?_
  refine G_aload_n 16 rfl rfl dX7_tryWord_15 ?_
  refine G_aload_n 17 rfl rfl dX7_tryWord_16 ?_
  refine G_aload_n 18 rfl rfl dX7_tryWord_17 ?_
  refine G_callS 21 rfl [.ref (aP E p), .ref (aP E t), .ref (aE E m n)] (c_X7_versionSought hR hp ht hn) ok_X7_versionSought os_X7_versionSought ml_X7_309 rfl ⟨by decide, by decide⟩ rfl rfl (Nat.le_of_ble_eq_true rfl) rfl dX7_tryWord_18 ?_
  rintro v h' ⟨rfl, rfl⟩
  refine G_callV 24 rfl [.int 1, .int (vs σ p t n)] (c_X6_isAt hR ht 1 (vs σ p t n)) ok_X6_isAt ov_X6_isAt ml_X7_313 (hR.ob (ci := 6) (i := t) (by decide) ht) ⟨by decide, rfl⟩ rfl ⟨by decide, by decide⟩ rfl rfl (Nat.le_of_ble_eq_true rfl) rfl dX7_tryWord_21 ?_
  rintro v h' ⟨⟨hs, rfl⟩ | ⟨hs, rfl⟩, rfl⟩
  · skip
    refine G_ifF_eq 27 rfl (by decide) ⟨40, by decide⟩ dX7_tryWord_24 ?_
    refine G_aload_n 28 rfl rfl dX7_tryWord_27 ?_
    refine G_p1 31 rfl hR fl_X7_63 ht dX7_tryWord_28 ?_
    refine G_aload_n 32 rfl rfl dX7_tryWord_31 ?_
    refine G_p0 35 rfl hR fl_X7_241 hp dX7_tryWord_32 ?_
    refine G_callV 38 rfl [.int (nI p)] (c_X6_claimFor hR ht (nI p)) ok_X6_claimFor ov_X6_claimFor ml_X7_317 (hR.ob (ci := 6) (i := t) (by decide) ht) ⟨by decide, rfl⟩ rfl ⟨by decide, by decide⟩ rfl rfl (Nat.le_of_ble_eq_true rfl) rfl dX7_tryWord_35 ?_
    rintro v h ⟨rfl, hR⟩
    refine G_iconst 39 rfl (1) (by decide) dX7_tryWord_38 ?_
    refine G_iret (ty := .boolean) rfl (by decide) ?_ dX7_tryWord_39
    exact Or.inl ⟨hs, rfl, hR⟩
  · skip
    refine G_ifT_eq 40 (by decide) (by decide) dX7_tryWord_24 ?_
    refine G_aload_n 41 rfl rfl dX7_tryWord_40 ?_
    refine G_dup 42 rfl rfl dX7_tryWord_41 ?_
    refine G_gi 45 rfl hR 7 7 0 455 (σ.1 455 0) fl_X7_159 rfl rfl rfl rfl rfl dX7_tryWord_42 ?_
    refine G_iconst 46 rfl (1) (by decide) dX7_tryWord_45 ?_
    refine G_iadd 47 rfl dX7_tryWord_46 ?_
    refine G_pi 50 rfl hR 7 7 0 455 fl_X7_159 rfl rfl ⟨rfl, rfl⟩ rfl rfl dX7_tryWord_47 (fun h hR => ?_)
    refine G_iconst 51 rfl (0) (by decide) dX7_tryWord_50 ?_
    refine G_iret (ty := .boolean) rfl (by decide) ?_ dX7_tryWord_51
    exact Or.inr ⟨hs, rfl, hR⟩

set_option maxHeartbeats 4000000 in
set_option maxRecDepth 100000 in
theorem c_X7_noteBusy {E : Ev} {m : Nat} {σ : Sg} {τ : Tu} {h : Hp} (hR : RR E m σ τ h) {p : Nat} (hp : p < m) {t : Nat} (ht : t < m) {n : Nat} (hn : 1 ≤ n ∧ n ≤ sNp σ) : Cn E mX7_noteBusy (rk 1 0 0) h [.ref (aP E p), .ref (aP E t), .ref (aE E m n)] (fun v h' => v = none ∧ RR E m (nBs σ p t n) τ h') := by
  refine Cn_of (by decide) rfl (by simp [Value.category]) (Nat.le_of_ble_eq_true rfl) ?_
  refine G_aload_n 1 rfl rfl dX7_noteBusy_0 ?_
  refine G_p1 4 rfl hR fl_X7_63 ht dX7_noteBusy_1 ?_
  refine G_iconst 5 rfl (2) (by decide) dX7_noteBusy_4 ?_
  refine G_aload_n 6 rfl rfl dX7_noteBusy_5 ?_
  refine G_aload_n 7 rfl rfl dX7_noteBusy_6 ?_
  refine G_aload_n 8 rfl rfl dX7_noteBusy_7 ?_
  refine G_callS 11 rfl [.ref (aP E p), .ref (aP E t), .ref (aE E m n)] (c_X7_versionSought hR hp ht hn) ok_X7_versionSought os_X7_versionSought ml_X7_309 rfl ⟨by decide, by decide⟩ rfl rfl (Nat.le_of_ble_eq_true rfl) rfl dX7_noteBusy_8 ?_
  rintro v h' ⟨rfl, rfl⟩
  refine G_callV 14 rfl [.int 2, .int (vs σ p t n)] (c_X6_isAt hR ht 2 (vs σ p t n)) ok_X6_isAt ov_X6_isAt ml_X7_313 (hR.ob (ci := 6) (i := t) (by decide) ht) ⟨by decide, rfl⟩ rfl ⟨by decide, by decide⟩ rfl rfl (Nat.le_of_ble_eq_true rfl) rfl dX7_noteBusy_11 ?_
  rintro v h' ⟨⟨hs, rfl⟩ | ⟨hs, rfl⟩, rfl⟩
  · skip
    refine G_ifF_eq 17 rfl (by decide) ⟨22, by decide⟩ dX7_noteBusy_14 ?_
    refine G_aload_n 18 rfl rfl dX7_noteBusy_17 ?_
    refine G_iconst 19 rfl (1) (by decide) dX7_noteBusy_18 ?_
    refine G_pz 22 rfl hR 5 12 p 332 fl_X7_320 hp rfl ⟨rfl, rfl⟩ (by decide) rfl rfl dX7_noteBusy_19 (fun h hR => ?_)
    refine G_ret rfl ?_ dX7_noteBusy_22
    refine ⟨rfl, ?_⟩
    unfold nBs
    first | (rw [if_pos hs]; exact hR) | (rw [if_neg hs]; exact hR)
  · skip
    refine G_ifT_eq 22 (by decide) (by decide) dX7_noteBusy_14 ?_
    refine G_ret rfl ?_ dX7_noteBusy_22
    refine ⟨rfl, ?_⟩
    unfold nBs
    first | (rw [if_pos hs]; exact hR) | (rw [if_neg hs]; exact hR)

set_option maxHeartbeats 4000000 in
set_option maxRecDepth 100000 in
theorem c_X4_add {E : Ev} {m : Nat} {σ : Sg} {τ : Tu} {h : Hp} (hR : RR E m σ τ h) {p : Nat} (hp : p < m) {n : Nat} (hn : 1 ≤ n ∧ n ≤ sNp σ) {g : Nat} (hgg : g < 8 * m) {z : Nat} (hz : σ.1 257 0 = nI z) (hzb : z < 2 ^ 30) (k : Int32) : Cn E mX4_add (rk 0 0 0) h [.ref (aPL E m), .ref (aP E p), .ref (aE E m n), .ref (aG E g), .int k] (fun v h' => v = none ∧ RR E m (addP σ p n g k) τ h') := by
  refine Cn_of (by decide) rfl (by simp [Value.category]) (Nat.le_of_ble_eq_true rfl) ?_
  refine G_aload_n 1 rfl rfl dX4_add_0 ?_
  refine G_gi 4 rfl hR 4 1 0 257 (σ.1 257 0) fl_X4_15 rfl rfl rfl rfl rfl dX4_add_1 ?_
  refine G_sipush 7 rfl (200) (by decide) dX4_add_4 ?_
  by_cases hz2 : z < 200
  · skip
    refine G_icmpF_ge 10 rfl (by rw [hz]; exact nI_ge (b := 200) hz2 (by omega)) ⟨162, by decide⟩ dX4_add_7 ?_
    refine G_aload_n 11 rfl rfl dX4_add_10 ?_
    refine G_gi 14 rfl hR 4 1 0 257 (σ.1 257 0) fl_X4_15 rfl rfl rfl rfl rfl dX4_add_11 ?_
    refine G_bipush 16 rfl (8) (by decide) dX4_add_14 ?_
    refine G_imul 17 rfl dX4_add_16 ?_
    refine G_istore 19 rfl (by decide) dX4_add_17 ?_
    refine G_aload_n 20 rfl rfl dX4_add_19 ?_
    refine G_gi 23 rfl hR 2 0 g 128 (σ.1 128 g) fl_X4_19 hgg rfl rfl rfl rfl dX4_add_20 ?_
    refine G_if_ne 30 26 rfl (by decide) dX4_add_23 (fun c23 => ?_) (fun c23 => ?_)
    · skip
      refine G_iconst 31 rfl (0) (by decide) dX4_add_30 ?_
      refine G_istore 33 rfl (by decide) dX4_add_31 ?_
      refine G_aload_n 34 rfl rfl dX4_add_33 ?_
      refine G_g0 37 rfl hR fl_X4_9 dX4_add_34 ?_
      refine G_iload 39 rfl rfl dX4_add_37 ?_
      refine G_aload_n 40 rfl rfl dX4_add_39 ?_
      refine G_p0 43 rfl hR fl_X4_24 hp dX4_add_40 ?_
      refine G_ppPut 44 rfl hR (j := z * 8) (by rw [hz]; exact pk_mul z 8) (by omega) dX4_add_43 (fun h hR => ?_)
      refine G_aload_n 45 rfl rfl dX4_add_44 ?_
      refine G_g0 48 rfl hR fl_X4_9 dX4_add_45 ?_
      refine G_iload 50 rfl rfl dX4_add_48 ?_
      refine G_iconst 51 rfl (1) (by decide) dX4_add_50 ?_
      refine G_iadd 52 rfl dX4_add_51 ?_
      refine G_aload_n 53 rfl rfl dX4_add_52 ?_
      refine G_gi 56 rfl hR 0 0 n 0 (σ.1 0 n) fl_X4_29 hn rfl rfl rfl rfl dX4_add_53 ?_
      refine G_ppPut 57 rfl hR (j := z * 8 + 1) (by rw [hz]; exact e8 z 1) (by omega) dX4_add_56 (fun h hR => ?_)
      refine G_aload_n 58 rfl rfl dX4_add_57 ?_
      refine G_g0 61 rfl hR fl_X4_9 dX4_add_58 ?_
      refine G_iload 63 rfl rfl dX4_add_61 ?_
      refine G_iconst 64 rfl (2) (by decide) dX4_add_63 ?_
      refine G_iadd 65 rfl dX4_add_64 ?_
      refine G_aload_n 66 rfl rfl dX4_add_65 ?_
      refine G_gi 69 rfl hR 2 1 g 129 (σ.1 129 g) fl_X4_34 hgg rfl rfl rfl rfl dX4_add_66 ?_
      refine G_ppPut 70 rfl hR (j := z * 8 + 2) (by rw [hz]; exact e8 z 2) (by omega) dX4_add_69 (fun h hR => ?_)
      refine G_aload_n 71 rfl rfl dX4_add_70 ?_
      refine G_g0 74 rfl hR fl_X4_9 dX4_add_71 ?_
      refine G_iload 76 rfl rfl dX4_add_74 ?_
      refine G_iconst 77 rfl (3) (by decide) dX4_add_76 ?_
      refine G_iadd 78 rfl dX4_add_77 ?_
      refine G_iload 80 rfl rfl dX4_add_78 ?_
      refine G_ifT_eq 90 (by decide) (by decide) dX4_add_80 ?_
      refine G_aload_n 91 rfl rfl dX4_add_90 ?_
      refine G_gi 94 rfl hR 0 4 n 4 (σ.1 4 n) fl_X4_40 hn rfl rfl rfl rfl dX4_add_91 ?_
      refine G_ppPut 95 rfl hR (j := z * 8 + 3) (by rw [hz]; exact e8 z 3) (by omega) dX4_add_94 (fun h hR => ?_)
      refine G_aload_n 96 rfl rfl dX4_add_95 ?_
      refine G_g0 99 rfl hR fl_X4_9 dX4_add_96 ?_
      refine G_iload 101 rfl rfl dX4_add_99 ?_
      refine G_iconst 102 rfl (4) (by decide) dX4_add_101 ?_
      refine G_iadd 103 rfl dX4_add_102 ?_
      refine G_iload 105 rfl rfl dX4_add_103 ?_
      refine G_ifT_eq 115 (by decide) (by decide) dX4_add_105 ?_
      refine G_aload_n 116 rfl rfl dX4_add_115 ?_
      refine G_gi 119 rfl hR 0 0 n 0 (σ.1 0 n) fl_X4_29 hn rfl rfl rfl rfl dX4_add_116 ?_
      refine G_ppPut 120 rfl hR (j := z * 8 + 4) (by rw [hz]; exact e8 z 4) (by omega) dX4_add_119 (fun h hR => ?_)
      refine G_aload_n 121 rfl rfl dX4_add_120 ?_
      refine G_g0 124 rfl hR fl_X4_9 dX4_add_121 ?_
      refine G_iload 126 rfl rfl dX4_add_124 ?_
      refine G_iconst 127 rfl (5) (by decide) dX4_add_126 ?_
      refine G_iadd 128 rfl dX4_add_127 ?_
      refine G_aload_n 129 rfl rfl dX4_add_128 ?_
      refine G_p1 132 rfl hR fl_X4_41 hp dX4_add_129 ?_
      refine G_gi 135 rfl hR 6 1 p 385 (σ.1 385 p) fl_X4_45 hp rfl rfl rfl rfl dX4_add_132 ?_
      refine G_ppPut 136 rfl hR (j := z * 8 + 5) (by rw [hz]; exact e8 z 5) (by omega) dX4_add_135 (fun h hR => ?_)
      refine G_aload_n 137 rfl rfl dX4_add_136 ?_
      refine G_g0 140 rfl hR fl_X4_9 dX4_add_137 ?_
      refine G_iload 142 rfl rfl dX4_add_140 ?_
      refine G_bipush 144 rfl (6) (by decide) dX4_add_142 ?_
      refine G_iadd 145 rfl dX4_add_144 ?_
      refine G_aload_n 146 rfl rfl dX4_add_145 ?_
      refine G_gi 149 rfl hR 0 1 n 1 (σ.1 1 n) fl_X4_50 hn rfl rfl rfl rfl dX4_add_146 ?_
      refine G_ppPut 150 rfl hR (j := z * 8 + 6) (by rw [hz]; exact e8 z 6) (by omega) dX4_add_149 (fun h hR => ?_)
      refine G_aload_n 151 rfl rfl dX4_add_150 ?_
      refine G_g0 154 rfl hR fl_X4_9 dX4_add_151 ?_
      refine G_iload 156 rfl rfl dX4_add_154 ?_
      refine G_bipush 158 rfl (7) (by decide) dX4_add_156 ?_
      refine G_iadd 159 rfl dX4_add_158 ?_
      refine G_iload 161 rfl rfl dX4_add_159 ?_
      refine G_ppPut 162 rfl hR (j := z * 8 + 7) (by rw [hz]; exact e8 z 7) (by omega) dX4_add_161 (fun h hR => ?_)
      refine G_aload_n 163 rfl rfl dX4_add_162 ?_
      refine G_dup 164 rfl rfl dX4_add_163 ?_
      refine G_gi 167 rfl hR 4 1 0 257 (σ.1 257 0) fl_X4_15 rfl rfl rfl rfl rfl dX4_add_164 ?_
      refine G_iconst 168 rfl (1) (by decide) dX4_add_167 ?_
      refine G_iadd 169 rfl dX4_add_168 ?_
      refine G_pi 172 rfl hR 4 1 0 257 fl_X4_15 rfl rfl ⟨rfl, rfl⟩ rfl rfl dX4_add_169 (fun h hR => ?_)
      refine G_ret rfl ?_ dX4_add_172
      refine ⟨rfl, ?_⟩
      unfold addP
      rw [if_pos (by rw [hz]; exact nI_lt (b := 200) hz2 (by omega))]
      unfold add8
      rw [hz, cN_nI (by omega), ← hz]
      first | (rw [if_pos c23, if_pos c23]; exact hR) | (rw [if_neg c23, if_neg c23]; exact hR)
    · skip
      refine G_iconst 27 rfl (1) (by decide) dX4_add_26 ?_
      refine G_goto 31 (by decide) dX4_add_27 ?_
      refine G_istore 33 rfl (by decide) dX4_add_31 ?_
      refine G_aload_n 34 rfl rfl dX4_add_33 ?_
      refine G_g0 37 rfl hR fl_X4_9 dX4_add_34 ?_
      refine G_iload 39 rfl rfl dX4_add_37 ?_
      refine G_aload_n 40 rfl rfl dX4_add_39 ?_
      refine G_p0 43 rfl hR fl_X4_24 hp dX4_add_40 ?_
      refine G_ppPut 44 rfl hR (j := z * 8) (by rw [hz]; exact pk_mul z 8) (by omega) dX4_add_43 (fun h hR => ?_)
      refine G_aload_n 45 rfl rfl dX4_add_44 ?_
      refine G_g0 48 rfl hR fl_X4_9 dX4_add_45 ?_
      refine G_iload 50 rfl rfl dX4_add_48 ?_
      refine G_iconst 51 rfl (1) (by decide) dX4_add_50 ?_
      refine G_iadd 52 rfl dX4_add_51 ?_
      refine G_aload_n 53 rfl rfl dX4_add_52 ?_
      refine G_gi 56 rfl hR 0 0 n 0 (σ.1 0 n) fl_X4_29 hn rfl rfl rfl rfl dX4_add_53 ?_
      refine G_ppPut 57 rfl hR (j := z * 8 + 1) (by rw [hz]; exact e8 z 1) (by omega) dX4_add_56 (fun h hR => ?_)
      refine G_aload_n 58 rfl rfl dX4_add_57 ?_
      refine G_g0 61 rfl hR fl_X4_9 dX4_add_58 ?_
      refine G_iload 63 rfl rfl dX4_add_61 ?_
      refine G_iconst 64 rfl (2) (by decide) dX4_add_63 ?_
      refine G_iadd 65 rfl dX4_add_64 ?_
      refine G_aload_n 66 rfl rfl dX4_add_65 ?_
      refine G_gi 69 rfl hR 2 1 g 129 (σ.1 129 g) fl_X4_34 hgg rfl rfl rfl rfl dX4_add_66 ?_
      refine G_ppPut 70 rfl hR (j := z * 8 + 2) (by rw [hz]; exact e8 z 2) (by omega) dX4_add_69 (fun h hR => ?_)
      refine G_aload_n 71 rfl rfl dX4_add_70 ?_
      refine G_g0 74 rfl hR fl_X4_9 dX4_add_71 ?_
      refine G_iload 76 rfl rfl dX4_add_74 ?_
      refine G_iconst 77 rfl (3) (by decide) dX4_add_76 ?_
      refine G_iadd 78 rfl dX4_add_77 ?_
      refine G_iload 80 rfl rfl dX4_add_78 ?_
      refine G_ifF_eq 83 rfl (by decide) ⟨90, by decide⟩ dX4_add_80 ?_
      refine G_aload_n 84 rfl rfl dX4_add_83 ?_
      refine G_gi 87 rfl hR 2 2 g 130 (σ.1 130 g) fl_X4_37 hgg rfl rfl rfl rfl dX4_add_84 ?_
      refine G_goto 94 (by decide) dX4_add_87 ?_
      refine G_ppPut 95 rfl hR (j := z * 8 + 3) (by rw [hz]; exact e8 z 3) (by omega) dX4_add_94 (fun h hR => ?_)
      refine G_aload_n 96 rfl rfl dX4_add_95 ?_
      refine G_g0 99 rfl hR fl_X4_9 dX4_add_96 ?_
      refine G_iload 101 rfl rfl dX4_add_99 ?_
      refine G_iconst 102 rfl (4) (by decide) dX4_add_101 ?_
      refine G_iadd 103 rfl dX4_add_102 ?_
      refine G_iload 105 rfl rfl dX4_add_103 ?_
      refine G_ifF_eq 108 rfl (by decide) ⟨115, by decide⟩ dX4_add_105 ?_
      refine G_aload_n 109 rfl rfl dX4_add_108 ?_
      refine G_p0 112 rfl hR fl_X4_24 hp dX4_add_109 ?_
      refine G_goto 119 (by decide) dX4_add_112 ?_
      refine G_ppPut 120 rfl hR (j := z * 8 + 4) (by rw [hz]; exact e8 z 4) (by omega) dX4_add_119 (fun h hR => ?_)
      refine G_aload_n 121 rfl rfl dX4_add_120 ?_
      refine G_g0 124 rfl hR fl_X4_9 dX4_add_121 ?_
      refine G_iload 126 rfl rfl dX4_add_124 ?_
      refine G_iconst 127 rfl (5) (by decide) dX4_add_126 ?_
      refine G_iadd 128 rfl dX4_add_127 ?_
      refine G_aload_n 129 rfl rfl dX4_add_128 ?_
      refine G_p1 132 rfl hR fl_X4_41 hp dX4_add_129 ?_
      refine G_gi 135 rfl hR 6 1 p 385 (σ.1 385 p) fl_X4_45 hp rfl rfl rfl rfl dX4_add_132 ?_
      refine G_ppPut 136 rfl hR (j := z * 8 + 5) (by rw [hz]; exact e8 z 5) (by omega) dX4_add_135 (fun h hR => ?_)
      refine G_aload_n 137 rfl rfl dX4_add_136 ?_
      refine G_g0 140 rfl hR fl_X4_9 dX4_add_137 ?_
      refine G_iload 142 rfl rfl dX4_add_140 ?_
      refine G_bipush 144 rfl (6) (by decide) dX4_add_142 ?_
      refine G_iadd 145 rfl dX4_add_144 ?_
      refine G_aload_n 146 rfl rfl dX4_add_145 ?_
      refine G_gi 149 rfl hR 0 1 n 1 (σ.1 1 n) fl_X4_50 hn rfl rfl rfl rfl dX4_add_146 ?_
      refine G_ppPut 150 rfl hR (j := z * 8 + 6) (by rw [hz]; exact e8 z 6) (by omega) dX4_add_149 (fun h hR => ?_)
      refine G_aload_n 151 rfl rfl dX4_add_150 ?_
      refine G_g0 154 rfl hR fl_X4_9 dX4_add_151 ?_
      refine G_iload 156 rfl rfl dX4_add_154 ?_
      refine G_bipush 158 rfl (7) (by decide) dX4_add_156 ?_
      refine G_iadd 159 rfl dX4_add_158 ?_
      refine G_iload 161 rfl rfl dX4_add_159 ?_
      refine G_ppPut 162 rfl hR (j := z * 8 + 7) (by rw [hz]; exact e8 z 7) (by omega) dX4_add_161 (fun h hR => ?_)
      refine G_aload_n 163 rfl rfl dX4_add_162 ?_
      refine G_dup 164 rfl rfl dX4_add_163 ?_
      refine G_gi 167 rfl hR 4 1 0 257 (σ.1 257 0) fl_X4_15 rfl rfl rfl rfl rfl dX4_add_164 ?_
      refine G_iconst 168 rfl (1) (by decide) dX4_add_167 ?_
      refine G_iadd 169 rfl dX4_add_168 ?_
      refine G_pi 172 rfl hR 4 1 0 257 fl_X4_15 rfl rfl ⟨rfl, rfl⟩ rfl rfl dX4_add_169 (fun h hR => ?_)
      refine G_ret rfl ?_ dX4_add_172
      refine ⟨rfl, ?_⟩
      unfold addP
      rw [if_pos (by rw [hz]; exact nI_lt (b := 200) hz2 (by omega))]
      unfold add8
      rw [hz, cN_nI (by omega), ← hz]
      first | (rw [if_pos c23, if_pos c23]; exact hR) | (rw [if_neg c23, if_neg c23]; exact hR)
  · skip
    refine G_icmpT_ge 162 (by rw [hz]; exact nI_le (a := 200) (by omega) (by omega)) (by decide) dX4_add_7 ?_
    refine G_aload_n 163 rfl rfl dX4_add_162 ?_
    refine G_dup 164 rfl rfl dX4_add_163 ?_
    refine G_gi 167 rfl hR 4 1 0 257 (σ.1 257 0) fl_X4_15 rfl rfl rfl rfl rfl dX4_add_164 ?_
    refine G_iconst 168 rfl (1) (by decide) dX4_add_167 ?_
    refine G_iadd 169 rfl dX4_add_168 ?_
    refine G_pi 172 rfl hR 4 1 0 257 fl_X4_15 rfl rfl ⟨rfl, rfl⟩ rfl rfl dX4_add_169 (fun h hR => ?_)
    refine G_ret rfl ?_ dX4_add_172
    refine ⟨rfl, ?_⟩
    unfold addP
    rw [if_neg (by rw [hz]; exact nI_nlt (b := 200) (by omega) (by omega))]
    exact hR

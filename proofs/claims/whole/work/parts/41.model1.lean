set_option maxHeartbeats 4000000 in
set_option maxRecDepth 100000 in
theorem m_isOne {E : Ev} {m : Nat} {σ : Sg} {τ : Tu} {h : Hp} (hR : RR E m σ τ h) (i : Int32) (hmy : τ 0 0 = nI m) : Cn E mX8_isOne (rk 0 0 0) h [.ref (aM E m), .int i] (fun v h' => ((∃ p, p < m ∧ i = nI p ∧ v = some (.int 1)) ∨ ((i < 0 ∨ nI m ≤ i) ∧ v = some (.int 0))) ∧ h' = h) := by
  refine Cn_of (by decide) rfl (by simp [Value.category]) (Nat.le_of_ble_eq_true rfl) ?_
  have hm := hR.1.1
  refine G_iload_n 1 rfl rfl dX8_isOne_0 ?_
  refine G_if_lt 16 4 rfl (by decide) dX8_isOne_1 (fun c1 => ?_) (fun c1 => ?_)
  · skip
    refine G_iconst 17 rfl (0) (by decide) dX8_isOne_16 ?_
    refine G_iret (ty := .boolean) rfl (by decide) ?_ dX8_isOne_17
    exact ⟨Or.inr ⟨by first | exact Or.inl c1 | exact Or.inr c9, rfl⟩, rfl⟩
  · skip
    refine G_iload_n 5 rfl rfl dX8_isOne_4 ?_
    refine G_aload_n 6 rfl rfl dX8_isOne_5 ?_
    refine G_mi 9 rfl hR (v := τ 0 0) rfl fl_X8_110 (by decide) rfl dX8_isOne_6 ?_
    rw [hmy]
    refine G_icmp_ge 16 12 rfl (by decide) dX8_isOne_9 (fun c9 => ?_) (fun c9 => ?_)
    · skip
      refine G_iconst 17 rfl (0) (by decide) dX8_isOne_16 ?_
      refine G_iret (ty := .boolean) rfl (by decide) ?_ dX8_isOne_17
      exact ⟨Or.inr ⟨by first | exact Or.inl c1 | exact Or.inr c9, rfl⟩, rfl⟩
    · skip
      refine G_iconst 13 rfl (1) (by decide) dX8_isOne_12 ?_
      refine G_goto 17 (by decide) dX8_isOne_13 ?_
      refine G_iret (ty := .boolean) rfl (by decide) ?_ dX8_isOne_17
      obtain ⟨p, hp, e⟩ := ix_of (by omega) c1 c9
      exact ⟨Or.inl ⟨p, hp, e, rfl⟩, rfl⟩

set_option maxHeartbeats 4000000 in
set_option maxRecDepth 100000 in
theorem m_isIn {E : Ev} {m : Nat} {σ : Sg} {τ : Tu} {h : Hp} (hR : RR E m σ τ h) (i k : Int32) (hmy : τ 0 0 = nI m) : Cn E mX8_isIn (rk 1 0 0) h [.ref (aM E m), .int i, .int k] (fun v h' => ((∃ p, p < m ∧ i = nI p ∧ τ 7 p = k ∧ v = some (.int 1)) ∨ ((∀ p, p < m → i = nI p → ¬ τ 7 p = k) ∧ v = some (.int 0))) ∧ h' = h) := by
  refine Cn_of (by decide) rfl (by simp [Value.category]) (Nat.le_of_ble_eq_true rfl) ?_
  have hm := hR.1.1
  refine G_aload_n 1 rfl rfl dX8_isIn_0 ?_
  refine G_iload_n 2 rfl rfl dX8_isIn_1 ?_
  refine G_callV 5 rfl [.int i] (m_isOne hR (i) hmy) ok_X8_isOne ov_X8_isOne ml_X8_114 (hR.ob (ci := 8) (i := 0) (by decide) rfl) ⟨by decide, rfl⟩ rfl ⟨by decide, by decide⟩ rfl rfl (Nat.le_of_ble_eq_true rfl) rfl dX8_isIn_2 ?_
  rintro v h' ⟨⟨p, hp, e, rfl⟩ | ⟨e, rfl⟩, rfl⟩
  · skip
    refine G_ifF_eq 8 rfl (by decide) ⟨22, by decide⟩ dX8_isIn_5 ?_
    refine G_aload_n 9 rfl rfl dX8_isIn_8 ?_
    refine G_mR 12 rfl hR fl_X8_9 ia_7 rfl dX8_isIn_9 ?_
    refine G_iload_n 13 rfl rfl dX8_isIn_12 ?_
    refine G_mldV 14 rfl hR (k := 7) p (v := τ 7 p) rfl e ia_7 rfl (show p < 16 by omega) dX8_isIn_13 ?_
    refine G_iload_n 15 rfl rfl dX8_isIn_14 ?_
    refine G_icmp_ne 22 18 rfl (by decide) dX8_isIn_15 (fun c15 => ?_) (fun c15 => ?_)
    · skip
      refine G_iconst 23 rfl (0) (by decide) dX8_isIn_22 ?_
      refine G_iret (ty := .boolean) rfl (by decide) ?_ dX8_isIn_23
      exact ⟨Or.inr ⟨by first | exact fun q hq e2 => by rw [← (nI_eq (by omega) (by omega)).mp (e.symm.trans e2)]; exact c15 | exact fun q hq e2 => absurd e (by rw [e2]; exact fun z => z.elim (nI_pos (by omega)) (nI_ge hq (by omega))), rfl⟩, rfl⟩
    · skip
      refine G_iconst 19 rfl (1) (by decide) dX8_isIn_18 ?_
      refine G_goto 23 (by decide) dX8_isIn_19 ?_
      refine G_iret (ty := .boolean) rfl (by decide) ?_ dX8_isIn_23
      exact ⟨Or.inl ⟨p, hp, e, c15, rfl⟩, rfl⟩
  · skip
    refine G_ifT_eq 22 (by decide) (by decide) dX8_isIn_5 ?_
    refine G_iconst 23 rfl (0) (by decide) dX8_isIn_22 ?_
    refine G_iret (ty := .boolean) rfl (by decide) ?_ dX8_isIn_23
    exact ⟨Or.inr ⟨by first | exact fun q hq e2 => by rw [← (nI_eq (by omega) (by omega)).mp (e.symm.trans e2)]; exact c15 | exact fun q hq e2 => absurd e (by rw [e2]; exact fun z => z.elim (nI_pos (by omega)) (nI_ge hq (by omega))), rfl⟩, rfl⟩

set_option maxHeartbeats 4000000 in
set_option maxRecDepth 100000 in
theorem m_isOffering {E : Ev} {m : Nat} {σ : Sg} {τ : Tu} {h : Hp} (hR : RR E m σ τ h) (i : Int32) (hmy : τ 0 0 = nI m) : Cn E mX8_isOffering (rk 1 0 0) h [.ref (aM E m), .int i] (fun v h' => ((∃ p, p < m ∧ i = nI p ∧ ¬ τ 7 p < 2 ∧ ¬ 11 < τ 7 p ∧ v = some (.int 1)) ∨ (((i < 0 ∨ nI m ≤ i) ∨ ∃ p, p < m ∧ i = nI p ∧ ¬ (¬ τ 7 p < 2 ∧ ¬ 11 < τ 7 p)) ∧ v = some (.int 0))) ∧ h' = h) := by
  refine Cn_of (by decide) rfl (by simp [Value.category]) (Nat.le_of_ble_eq_true rfl) ?_
  have hm := hR.1.1
  refine G_aload_n 1 rfl rfl dX8_isOffering_0 ?_
  refine G_iload_n 2 rfl rfl dX8_isOffering_1 ?_
  refine G_callV 5 rfl [.int i] (m_isOne hR (i) hmy) ok_X8_isOne ov_X8_isOne ml_X8_114 (hR.ob (ci := 8) (i := 0) (by decide) rfl) ⟨by decide, rfl⟩ rfl ⟨by decide, by decide⟩ rfl rfl (Nat.le_of_ble_eq_true rfl) rfl dX8_isOffering_2 ?_
  rintro v h' ⟨⟨p, hp, e, rfl⟩ | ⟨e, rfl⟩, rfl⟩
  · skip
    refine G_ifF_eq 8 rfl (by decide) ⟨33, by decide⟩ dX8_isOffering_5 ?_
    refine G_aload_n 9 rfl rfl dX8_isOffering_8 ?_
    refine G_mR 12 rfl hR fl_X8_9 ia_7 rfl dX8_isOffering_9 ?_
    refine G_iload_n 13 rfl rfl dX8_isOffering_12 ?_
    refine G_mldV 14 rfl hR (k := 7) p (v := τ 7 p) rfl e ia_7 rfl (show p < 16 by omega) dX8_isOffering_13 ?_
    refine G_iconst 15 rfl (2) (by decide) dX8_isOffering_14 ?_
    refine G_icmp_lt 33 18 rfl (by decide) dX8_isOffering_15 (fun c15 => ?_) (fun c15 => ?_)
    · skip
      refine G_iconst 34 rfl (0) (by decide) dX8_isOffering_33 ?_
      refine G_iret (ty := .boolean) rfl (by decide) ?_ dX8_isOffering_34
      exact ⟨Or.inr ⟨by first | exact Or.inr ⟨p, hp, e, fun z => z.1 c15⟩ | exact Or.inr ⟨p, hp, e, fun z => z.2 c26⟩ | exact Or.inl e, rfl⟩, rfl⟩
    · skip
      refine G_aload_n 19 rfl rfl dX8_isOffering_18 ?_
      refine G_mR 22 rfl hR fl_X8_9 ia_7 rfl dX8_isOffering_19 ?_
      refine G_iload_n 23 rfl rfl dX8_isOffering_22 ?_
      refine G_mldV 24 rfl hR (k := 7) p (v := τ 7 p) rfl e ia_7 rfl (show p < 16 by omega) dX8_isOffering_23 ?_
      refine G_bipush 26 rfl (11) (by decide) dX8_isOffering_24 ?_
      refine G_icmp_gt 33 29 rfl (by decide) dX8_isOffering_26 (fun c26 => ?_) (fun c26 => ?_)
      · skip
        refine G_iconst 34 rfl (0) (by decide) dX8_isOffering_33 ?_
        refine G_iret (ty := .boolean) rfl (by decide) ?_ dX8_isOffering_34
        exact ⟨Or.inr ⟨by first | exact Or.inr ⟨p, hp, e, fun z => z.1 c15⟩ | exact Or.inr ⟨p, hp, e, fun z => z.2 c26⟩ | exact Or.inl e, rfl⟩, rfl⟩
      · skip
        refine G_iconst 30 rfl (1) (by decide) dX8_isOffering_29 ?_
        refine G_goto 34 (by decide) dX8_isOffering_30 ?_
        refine G_iret (ty := .boolean) rfl (by decide) ?_ dX8_isOffering_34
        exact ⟨Or.inl ⟨p, hp, e, c15, c26, rfl⟩, rfl⟩
  · skip
    refine G_ifT_eq 33 (by decide) (by decide) dX8_isOffering_5 ?_
    refine G_iconst 34 rfl (0) (by decide) dX8_isOffering_33 ?_
    refine G_iret (ty := .boolean) rfl (by decide) ?_ dX8_isOffering_34
    exact ⟨Or.inr ⟨by first | exact Or.inr ⟨p, hp, e, fun z => z.1 c15⟩ | exact Or.inr ⟨p, hp, e, fun z => z.2 c26⟩ | exact Or.inl e, rfl⟩, rfl⟩

set_option maxHeartbeats 4000000 in
set_option maxRecDepth 100000 in
theorem m_empties {E : Ev} {m : Nat} {σ : Sg} {τ : Tu} {h : Hp} (hR : RR E m σ τ h) {p : Nat} (hp : p < m) : Cn E mX8_empties (rk 0 0 0) h [.ref (aM E m), .int (nI p)] (fun v h' => v = none ∧ RR E m σ (mEmp τ p) h') := by
  refine Cn_of (by decide) rfl (by simp [Value.category]) (Nat.le_of_ble_eq_true rfl) ?_
  have hm := hR.1.1
  refine G_aload_n 1 rfl rfl dX8_empties_0 ?_
  refine G_mR 4 rfl hR fl_X8_9 ia_7 rfl dX8_empties_1 ?_
  refine G_iload_n 5 rfl rfl dX8_empties_4 ?_
  refine G_iconst 6 rfl (1) (by decide) dX8_empties_5 ?_
  refine G_mst 7 rfl hR (k := 7) p rfl ia_7 rfl (show p < 16 by omega) dX8_empties_6 (fun h hR => ?_)
  refine G_aload_n 8 rfl rfl dX8_empties_7 ?_
  refine G_mR 11 rfl hR fl_X8_13 ia_8 rfl dX8_empties_8 ?_
  refine G_iload_n 12 rfl rfl dX8_empties_11 ?_
  refine G_iconst 13 rfl (0) (by decide) dX8_empties_12 ?_
  refine G_mst 14 rfl hR (k := 8) p rfl ia_8 rfl (show p < 16 by omega) dX8_empties_13 (fun h hR => ?_)
  refine G_aload_n 15 rfl rfl dX8_empties_14 ?_
  refine G_mR 18 rfl hR fl_X8_29 ia_13 rfl dX8_empties_15 ?_
  refine G_iload_n 19 rfl rfl dX8_empties_18 ?_
  refine G_iconst 20 rfl (0) (by decide) dX8_empties_19 ?_
  refine G_mst 21 rfl hR (k := 13) p rfl ia_13 rfl (show p < 16 by omega) dX8_empties_20 (fun h hR => ?_)
  refine G_ret rfl ?_ dX8_empties_21
  exact ⟨rfl, hR⟩

set_option maxHeartbeats 4000000 in
set_option maxRecDepth 100000 in
theorem m_spawn {E : Ev} {m : Nat} {σ : Sg} {τ : Tu} {h : Hp} (hR : RR E m σ τ h) (i : Int32) (hmy : τ 0 0 = nI m) : Cn E mX8_spawn (rk 2 0 0) h [.ref (aM E m), .int i] (fun v h' => (∃ p, p < m ∧ i = nI p ∧ τ 7 p = 0 ∧ v = some (.int 1) ∧ RR E m σ (mEmp τ p) h') ∨ (((∀ p, p < m → i = nI p → ¬ τ 7 p = 0) ∨ False) ∧ v = some (.int 0) ∧ RR E m σ τ h')) := by
  refine Cn_of (by decide) rfl (by simp [Value.category]) (Nat.le_of_ble_eq_true rfl) ?_
  have hm := hR.1.1
  refine G_aload_n 1 rfl rfl dX8_spawn_0 ?_
  refine G_iload_n 2 rfl rfl dX8_spawn_1 ?_
  refine G_iconst 3 rfl (0) (by decide) dX8_spawn_2 ?_
  refine G_callV 6 rfl [.int i, .int 0] (m_isIn hR i 0 hmy) ok_X8_isIn ov_X8_isIn ml_X8_118 (hR.ob (ci := 8) (i := 0) (by decide) rfl) ⟨by decide, rfl⟩ rfl ⟨by decide, by decide⟩ rfl rfl (Nat.le_of_ble_eq_true rfl) rfl dX8_spawn_3 ?_
  rintro v h' ⟨⟨p, hp, rfl, hph, rfl⟩ | ⟨hno, rfl⟩, rfl⟩
  · skip
    refine G_ifT_ne 11 (by decide) (by decide) dX8_spawn_6 ?_
    skip
    · skip
      refine G_aload_n 12 rfl rfl dX8_spawn_11 ?_
      refine G_iload_n 13 rfl rfl dX8_spawn_12 ?_
      refine G_callV 16 rfl [.int (nI p)] (m_empties hR hp) ok_X8_empties ov_X8_empties ml_X8_122 (hR.ob (ci := 8) (i := 0) (by decide) rfl) ⟨by decide, rfl⟩ rfl ⟨by decide, by decide⟩ rfl rfl (Nat.le_of_ble_eq_true rfl) rfl dX8_spawn_13 ?_
      rintro v h ⟨rfl, hR⟩
      refine G_iconst 17 rfl (1) (by decide) dX8_spawn_16 ?_
      refine G_iret (ty := .boolean) rfl (by decide) ?_ dX8_spawn_17
      exact Or.inl ⟨p, hp, rfl, hph, rfl, hR⟩
  · skip
    refine G_ifF_ne 9 rfl (by decide) ⟨11, by decide⟩ dX8_spawn_6 ?_
    refine G_iconst 10 rfl (0) (by decide) dX8_spawn_9 ?_
    refine G_iret (ty := .boolean) rfl (by decide) ?_ dX8_spawn_10
    exact Or.inr ⟨Or.inl hno, rfl, hR⟩

set_option maxHeartbeats 4000000 in
set_option maxRecDepth 100000 in
theorem m_quit {E : Ev} {m : Nat} {σ : Sg} {τ : Tu} {h : Hp} (hR : RR E m σ τ h) (i : Int32) (hmy : τ 0 0 = nI m) : Cn E mX8_quit (rk 2 0 0) h [.ref (aM E m), .int i] (fun v h' => (∃ p, p < m ∧ i = nI p ∧ τ 7 p = 1 ∧ v = some (.int 1) ∧ RR E m σ (ut τ 7 p 0) h') ∨ (((∀ p, p < m → i = nI p → ¬ τ 7 p = 1) ∨ False) ∧ v = some (.int 0) ∧ RR E m σ τ h')) := by
  refine Cn_of (by decide) rfl (by simp [Value.category]) (Nat.le_of_ble_eq_true rfl) ?_
  have hm := hR.1.1
  refine G_aload_n 1 rfl rfl dX8_quit_0 ?_
  refine G_iload_n 2 rfl rfl dX8_quit_1 ?_
  refine G_iconst 3 rfl (1) (by decide) dX8_quit_2 ?_
  refine G_callV 6 rfl [.int i, .int 1] (m_isIn hR i 1 hmy) ok_X8_isIn ov_X8_isIn ml_X8_118 (hR.ob (ci := 8) (i := 0) (by decide) rfl) ⟨by decide, rfl⟩ rfl ⟨by decide, by decide⟩ rfl rfl (Nat.le_of_ble_eq_true rfl) rfl dX8_quit_3 ?_
  rintro v h' ⟨⟨p, hp, rfl, hph, rfl⟩ | ⟨hno, rfl⟩, rfl⟩
  · skip
    refine G_ifT_ne 11 (by decide) (by decide) dX8_quit_6 ?_
    skip
    · skip
      refine G_aload_n 12 rfl rfl dX8_quit_11 ?_
      refine G_mR 15 rfl hR fl_X8_9 ia_7 rfl dX8_quit_12 ?_
      refine G_iload_n 16 rfl rfl dX8_quit_15 ?_
      refine G_iconst 17 rfl (0) (by decide) dX8_quit_16 ?_
      refine G_mst 18 rfl hR (k := 7) p rfl ia_7 rfl (show p < 16 by omega) dX8_quit_17 (fun h hR => ?_)
      refine G_iconst 19 rfl (1) (by decide) dX8_quit_18 ?_
      refine G_iret (ty := .boolean) rfl (by decide) ?_ dX8_quit_19
      exact Or.inl ⟨p, hp, rfl, hph, rfl, hR⟩
  · skip
    refine G_ifF_ne 9 rfl (by decide) ⟨11, by decide⟩ dX8_quit_6 ?_
    refine G_iconst 10 rfl (0) (by decide) dX8_quit_9 ?_
    refine G_iret (ty := .boolean) rfl (by decide) ?_ dX8_quit_10
    exact Or.inr ⟨Or.inl hno, rfl, hR⟩

set_option maxHeartbeats 4000000 in
set_option maxRecDepth 100000 in
theorem m_finish {E : Ev} {m : Nat} {σ : Sg} {τ : Tu} {h : Hp} (hR : RR E m σ τ h) (i : Int32) (hmy : τ 0 0 = nI m) : Cn E mX8_finish (rk 2 0 0) h [.ref (aM E m), .int i] (fun v h' => (∃ p, p < m ∧ i = nI p ∧ τ 7 p = 12 ∧ v = some (.int 1) ∧ RR E m σ (ut (mEmp τ p) 15 p 0) h') ∨ (((∀ p, p < m → i = nI p → ¬ τ 7 p = 12) ∨ False) ∧ v = some (.int 0) ∧ RR E m σ τ h')) := by
  refine Cn_of (by decide) rfl (by simp [Value.category]) (Nat.le_of_ble_eq_true rfl) ?_
  have hm := hR.1.1
  refine G_aload_n 1 rfl rfl dX8_finish_0 ?_
  refine G_iload_n 2 rfl rfl dX8_finish_1 ?_
  refine G_bipush 4 rfl (12) (by decide) dX8_finish_2 ?_
  refine G_callV 7 rfl [.int i, .int 12] (m_isIn hR i 12 hmy) ok_X8_isIn ov_X8_isIn ml_X8_118 (hR.ob (ci := 8) (i := 0) (by decide) rfl) ⟨by decide, rfl⟩ rfl ⟨by decide, by decide⟩ rfl rfl (Nat.le_of_ble_eq_true rfl) rfl dX8_finish_4 ?_
  rintro v h' ⟨⟨p, hp, rfl, hph, rfl⟩ | ⟨hno, rfl⟩, rfl⟩
  · skip
    refine G_ifT_ne 12 (by decide) (by decide) dX8_finish_7 ?_
    skip
    · skip
      refine G_aload_n 13 rfl rfl dX8_finish_12 ?_
      refine G_iload_n 14 rfl rfl dX8_finish_13 ?_
      refine G_callV 17 rfl [.int (nI p)] (m_empties hR hp) ok_X8_empties ov_X8_empties ml_X8_122 (hR.ob (ci := 8) (i := 0) (by decide) rfl) ⟨by decide, rfl⟩ rfl ⟨by decide, by decide⟩ rfl rfl (Nat.le_of_ble_eq_true rfl) rfl dX8_finish_14 ?_
      rintro v h ⟨rfl, hR⟩
      refine G_aload_n 18 rfl rfl dX8_finish_17 ?_
      refine G_mR 21 rfl hR fl_X8_35 ia_15 rfl dX8_finish_18 ?_
      refine G_iload_n 22 rfl rfl dX8_finish_21 ?_
      refine G_iconst 23 rfl (0) (by decide) dX8_finish_22 ?_
      refine G_mst 24 rfl hR (k := 15) p rfl ia_15 rfl (show p < 16 by omega) dX8_finish_23 (fun h hR => ?_)
      refine G_iconst 25 rfl (1) (by decide) dX8_finish_24 ?_
      refine G_iret (ty := .boolean) rfl (by decide) ?_ dX8_finish_25
      exact Or.inl ⟨p, hp, rfl, hph, rfl, hR⟩
  · skip
    refine G_ifF_ne 10 rfl (by decide) ⟨12, by decide⟩ dX8_finish_7 ?_
    refine G_iconst 11 rfl (0) (by decide) dX8_finish_10 ?_
    refine G_iret (ty := .boolean) rfl (by decide) ?_ dX8_finish_11
    exact Or.inr ⟨Or.inl hno, rfl, hR⟩

set_option maxHeartbeats 4000000 in
set_option maxRecDepth 100000 in
theorem m_timeout {E : Ev} {m : Nat} {σ : Sg} {τ : Tu} {h : Hp} (hR : RR E m σ τ h) (i k : Int32) (hmy : τ 0 0 = nI m) : Cn E mX8_timeout (rk 2 0 0) h [.ref (aM E m), .int i, .int k] (fun v h' => (∃ p, p < m ∧ i = nI p ∧ τ 7 p = 1 ∧ ¬ k < 0 ∧ k ≤ 1000 ∧ v = some (.int 1) ∧ RR E m σ (ut τ 13 p k) h') ∨ (((∀ p, p < m → i = nI p → ¬ τ 7 p = 1) ∨ (k < 0 ∨ ¬ k ≤ 1000)) ∧ v = some (.int 0) ∧ RR E m σ τ h')) := by
  refine Cn_of (by decide) rfl (by simp [Value.category]) (Nat.le_of_ble_eq_true rfl) ?_
  have hm := hR.1.1
  refine G_aload_n 1 rfl rfl dX8_timeout_0 ?_
  refine G_iload_n 2 rfl rfl dX8_timeout_1 ?_
  refine G_iconst 3 rfl (1) (by decide) dX8_timeout_2 ?_
  refine G_callV 6 rfl [.int i, .int 1] (m_isIn hR i 1 hmy) ok_X8_isIn ov_X8_isIn ml_X8_118 (hR.ob (ci := 8) (i := 0) (by decide) rfl) ⟨by decide, rfl⟩ rfl ⟨by decide, by decide⟩ rfl rfl (Nat.le_of_ble_eq_true rfl) rfl dX8_timeout_3 ?_
  rintro v h' ⟨⟨p, hp, rfl, hph, rfl⟩ | ⟨hno, rfl⟩, rfl⟩
  · skip
    refine G_ifF_eq 9 rfl (by decide) ⟨20, by decide⟩ dX8_timeout_6 ?_
    refine G_iload_n 10 rfl rfl dX8_timeout_9 ?_
    refine G_if_lt 20 13 rfl (by decide) dX8_timeout_10 (fun c10 => ?_) (fun c10 => ?_)
    · skip
      refine G_iconst 21 rfl (0) (by decide) dX8_timeout_20 ?_
      refine G_iret (ty := .boolean) rfl (by decide) ?_ dX8_timeout_21
      exact Or.inr ⟨by first | exact Or.inl hno | exact Or.inr (Or.inl c10) | exact Or.inr (Or.inr c17), rfl, hR⟩
    · skip
      refine G_iload_n 14 rfl rfl dX8_timeout_13 ?_
      refine G_sipush 17 rfl (1000) (by decide) dX8_timeout_14 ?_
      refine G_icmp_le 22 20 rfl (by decide) dX8_timeout_17 (fun c17 => ?_) (fun c17 => ?_)
      · skip
        skip
        · skip
          refine G_aload_n 23 rfl rfl dX8_timeout_22 ?_
          refine G_mR 26 rfl hR fl_X8_29 ia_13 rfl dX8_timeout_23 ?_
          refine G_iload_n 27 rfl rfl dX8_timeout_26 ?_
          refine G_iload_n 28 rfl rfl dX8_timeout_27 ?_
          refine G_mst 29 rfl hR (k := 13) p rfl ia_13 rfl (show p < 16 by omega) dX8_timeout_28 (fun h hR => ?_)
          refine G_iconst 30 rfl (1) (by decide) dX8_timeout_29 ?_
          refine G_iret (ty := .boolean) rfl (by decide) ?_ dX8_timeout_30
          exact Or.inl ⟨p, hp, rfl, hph, c10, c17, rfl, hR⟩
      · skip
        refine G_iconst 21 rfl (0) (by decide) dX8_timeout_20 ?_
        refine G_iret (ty := .boolean) rfl (by decide) ?_ dX8_timeout_21
        exact Or.inr ⟨by first | exact Or.inl hno | exact Or.inr (Or.inl c10) | exact Or.inr (Or.inr c17), rfl, hR⟩
  · skip
    refine G_ifT_eq 20 (by decide) (by decide) dX8_timeout_6 ?_
    refine G_iconst 21 rfl (0) (by decide) dX8_timeout_20 ?_
    refine G_iret (ty := .boolean) rfl (by decide) ?_ dX8_timeout_21
    exact Or.inr ⟨by first | exact Or.inl hno | exact Or.inr (Or.inl c10) | exact Or.inr (Or.inr c17), rfl, hR⟩

set_option maxHeartbeats 4000000 in
set_option maxRecDepth 100000 in
theorem m_guard {E : Ev} {m : Nat} {σ : Sg} {τ : Tu} {h : Hp} (hR : RR E m σ τ h) (i a b c d : Int32) (hd01 : d = 0 ∨ d = 1) (hmy : τ 0 0 = nI m) (hgc : ∀ p, p < m → ∃ g, τ 8 p = nI g ∧ g ≤ 8) : Cn E mX8_guard (rk 2 0 0) h [.ref (aM E m), .int i, .int a, .int b, .int c, .int d] (fun v h' => (∃ p g, p < m ∧ i = nI p ∧ τ 7 p = 1 ∧ (¬ a < 0 ∧ ¬ 1 < a) ∧ (¬ b < 0 ∧ ¬ 8 ≤ b) ∧ τ 8 p = nI g ∧ g < 8 ∧ v = some (.int 1) ∧ RR E m σ (ut (ut (ut (ut (ut τ 9 (8 * p + g) a) 10 (8 * p + g) b) 11 (8 * p + g) c) 12 (8 * p + g) d) 8 p (τ 8 p + 1)) h') ∨ (((∀ p, p < m → i = nI p → ¬ τ 7 p = 1) ∨ (a < 0 ∨ 1 < a) ∨ (b < 0 ∨ 8 ≤ b) ∨ (∃ p, p < m ∧ i = nI p ∧ τ 8 p = 8)) ∧ v = some (.int 0) ∧ RR E m σ τ h')) := by
  refine Cn_of (by decide) rfl (by simp [Value.category]) (Nat.le_of_ble_eq_true rfl) ?_
  have hm := hR.1.1
  refine G_aload_n 1 rfl rfl dX8_guard_0 ?_
  refine G_iload_n 2 rfl rfl dX8_guard_1 ?_
  refine G_iconst 3 rfl (1) (by decide) dX8_guard_2 ?_
  refine G_callV 6 rfl [.int i, .int 1] (m_isIn hR i 1 hmy) ok_X8_isIn ov_X8_isIn ml_X8_118 (hR.ob (ci := 8) (i := 0) (by decide) rfl) ⟨by decide, rfl⟩ rfl ⟨by decide, by decide⟩ rfl rfl (Nat.le_of_ble_eq_true rfl) rfl dX8_guard_3 ?_
  rintro v h' ⟨⟨p, hp, rfl, hph, rfl⟩ | ⟨hno, rfl⟩, rfl⟩
  · skip
    refine G_ifF_eq 9 rfl (by decide) ⟨39, by decide⟩ dX8_guard_6 ?_
    refine G_iload_n 10 rfl rfl dX8_guard_9 ?_
    refine G_if_lt 39 13 rfl (by decide) dX8_guard_10 (fun c10 => ?_) (fun c10 => ?_)
    · skip
      refine G_iconst 40 rfl (0) (by decide) dX8_guard_39 ?_
      refine G_iret (ty := .boolean) rfl (by decide) ?_ dX8_guard_40
      exact Or.inr ⟨by first | exact Or.inr (Or.inr (Or.inr ⟨p, hp, rfl, c36⟩)) | exact Or.inr (Or.inr (Or.inl (Or.inr c25))) | exact Or.inr (Or.inr (Or.inl (Or.inl c19))) | exact Or.inr (Or.inl (Or.inr c15)) | exact Or.inr (Or.inl (Or.inl c10)) | exact Or.inl hno, rfl, hR⟩
    · skip
      refine G_iload_n 14 rfl rfl dX8_guard_13 ?_
      refine G_iconst 15 rfl (1) (by decide) dX8_guard_14 ?_
      refine G_icmp_gt 39 18 rfl (by decide) dX8_guard_15 (fun c15 => ?_) (fun c15 => ?_)
      · skip
        refine G_iconst 40 rfl (0) (by decide) dX8_guard_39 ?_
        refine G_iret (ty := .boolean) rfl (by decide) ?_ dX8_guard_40
        exact Or.inr ⟨by first | exact Or.inr (Or.inr (Or.inr ⟨p, hp, rfl, c36⟩)) | exact Or.inr (Or.inr (Or.inl (Or.inr c25))) | exact Or.inr (Or.inr (Or.inl (Or.inl c19))) | exact Or.inr (Or.inl (Or.inr c15)) | exact Or.inr (Or.inl (Or.inl c10)) | exact Or.inl hno, rfl, hR⟩
      · skip
        refine G_iload_n 19 rfl rfl dX8_guard_18 ?_
        refine G_if_lt 39 22 rfl (by decide) dX8_guard_19 (fun c19 => ?_) (fun c19 => ?_)
        · skip
          refine G_iconst 40 rfl (0) (by decide) dX8_guard_39 ?_
          refine G_iret (ty := .boolean) rfl (by decide) ?_ dX8_guard_40
          exact Or.inr ⟨by first | exact Or.inr (Or.inr (Or.inr ⟨p, hp, rfl, c36⟩)) | exact Or.inr (Or.inr (Or.inl (Or.inr c25))) | exact Or.inr (Or.inr (Or.inl (Or.inl c19))) | exact Or.inr (Or.inl (Or.inr c15)) | exact Or.inr (Or.inl (Or.inl c10)) | exact Or.inl hno, rfl, hR⟩
        · skip
          refine G_iload_n 23 rfl rfl dX8_guard_22 ?_
          refine G_bipush 25 rfl (8) (by decide) dX8_guard_23 ?_
          refine G_icmp_ge 39 28 rfl (by decide) dX8_guard_25 (fun c25 => ?_) (fun c25 => ?_)
          · skip
            refine G_iconst 40 rfl (0) (by decide) dX8_guard_39 ?_
            refine G_iret (ty := .boolean) rfl (by decide) ?_ dX8_guard_40
            exact Or.inr ⟨by first | exact Or.inr (Or.inr (Or.inr ⟨p, hp, rfl, c36⟩)) | exact Or.inr (Or.inr (Or.inl (Or.inr c25))) | exact Or.inr (Or.inr (Or.inl (Or.inl c19))) | exact Or.inr (Or.inl (Or.inr c15)) | exact Or.inr (Or.inl (Or.inl c10)) | exact Or.inl hno, rfl, hR⟩
          · skip
            obtain ⟨g, hg, hg8⟩ := hgc p hp
            · skip
              refine G_aload_n 29 rfl rfl dX8_guard_28 ?_
              refine G_mR 32 rfl hR fl_X8_13 ia_8 rfl dX8_guard_29 ?_
              refine G_iload_n 33 rfl rfl dX8_guard_32 ?_
              refine G_mldV 34 rfl hR (k := 8) p (v := τ 8 p) rfl rfl ia_8 rfl (show p < 16 by omega) dX8_guard_33 ?_
              refine G_bipush 36 rfl (8) (by decide) dX8_guard_34 ?_
              refine G_icmp_ne 41 39 rfl (by decide) dX8_guard_36 (fun c36 => ?_) (fun c36 => ?_)
              · skip
                refine G_bipush 43 rfl (8) (by decide) dX8_guard_41 ?_
                refine G_iload_n 44 rfl rfl dX8_guard_43 ?_
                refine G_imul 45 rfl dX8_guard_44 ?_
                refine G_aload_n 46 rfl rfl dX8_guard_45 ?_
                refine G_mR 49 rfl hR fl_X8_13 ia_8 rfl dX8_guard_46 ?_
                refine G_iload_n 50 rfl rfl dX8_guard_49 ?_
                refine G_mldV 51 rfl hR (k := 8) p (v := τ 8 p) rfl rfl ia_8 rfl (show p < 16 by omega) dX8_guard_50 ?_
                refine G_iadd 52 rfl dX8_guard_51 ?_
                have hg7 : g < 8 := by
                  rcases Nat.lt_or_ge g 8 with q | q
                  · exact q
                  · exact absurd (by rw [hg, show g = 8 by omega]; rfl) c36
                rw [hg, e88]
                refine G_istore 54 rfl (by decide) dX8_guard_52 ?_
                refine G_aload_n 55 rfl rfl dX8_guard_54 ?_
                refine G_mR 58 rfl hR fl_X8_16 ia_9 rfl dX8_guard_55 ?_
                refine G_iload 60 rfl rfl dX8_guard_58 ?_
                refine G_iload_n 61 rfl rfl dX8_guard_60 ?_
                refine G_mst 62 rfl hR (k := 9) (8 * p + g) rfl ia_9 rfl (show 8 * p + g < 128 by omega) dX8_guard_61 (fun h hR => ?_)
                refine G_aload_n 63 rfl rfl dX8_guard_62 ?_
                refine G_mR 66 rfl hR fl_X8_19 ia_10 rfl dX8_guard_63 ?_
                refine G_iload 68 rfl rfl dX8_guard_66 ?_
                refine G_iload_n 69 rfl rfl dX8_guard_68 ?_
                refine G_mst 70 rfl hR (k := 10) (8 * p + g) rfl ia_10 rfl (show 8 * p + g < 128 by omega) dX8_guard_69 (fun h hR => ?_)
                refine G_aload_n 71 rfl rfl dX8_guard_70 ?_
                refine G_mR 74 rfl hR fl_X8_22 ia_11 rfl dX8_guard_71 ?_
                refine G_iload 76 rfl rfl dX8_guard_74 ?_
                refine G_iload 78 rfl rfl dX8_guard_76 ?_
                refine G_mst 79 rfl hR (k := 11) (8 * p + g) rfl ia_11 rfl (show 8 * p + g < 128 by omega) dX8_guard_78 (fun h hR => ?_)
                refine G_aload_n 80 rfl rfl dX8_guard_79 ?_
                refine G_mR 83 rfl hR fl_X8_25 ia_12 rfl dX8_guard_80 ?_
                refine G_iload 85 rfl rfl dX8_guard_83 ?_
                refine G_iload 87 rfl rfl dX8_guard_85 ?_
                refine G_mstZ 88 rfl hR (k := 12) (8 * p + g) rfl ia_12 rfl (show 8 * p + g < 128 by omega) hd01 dX8_guard_87 (fun h hR => ?_)
                refine G_aload_n 89 rfl rfl dX8_guard_88 ?_
                refine G_mR 92 rfl hR fl_X8_13 ia_8 rfl dX8_guard_89 ?_
                refine G_iload_n 93 rfl rfl dX8_guard_92 ?_
                refine G_dup2 94 rfl rfl rfl dX8_guard_93 ?_
                refine G_mldV 95 rfl hR (k := 8) p (v := τ 8 p) rfl rfl ia_8 rfl (show p < 16 by omega) dX8_guard_94 ?_
                refine G_iconst 96 rfl (1) (by decide) dX8_guard_95 ?_
                refine G_iadd 97 rfl dX8_guard_96 ?_
                refine G_mst 98 rfl hR (k := 8) p rfl ia_8 rfl (show p < 16 by omega) dX8_guard_97 (fun h hR => ?_)
                refine G_iconst 99 rfl (1) (by decide) dX8_guard_98 ?_
                refine G_iret (ty := .boolean) rfl (by decide) ?_ dX8_guard_99
                exact Or.inl ⟨p, g, hp, rfl, hph, ⟨c10, c15⟩, ⟨c19, c25⟩, hg, hg7, rfl, hR⟩
              · skip
                refine G_iconst 40 rfl (0) (by decide) dX8_guard_39 ?_
                refine G_iret (ty := .boolean) rfl (by decide) ?_ dX8_guard_40
                exact Or.inr ⟨by first | exact Or.inr (Or.inr (Or.inr ⟨p, hp, rfl, c36⟩)) | exact Or.inr (Or.inr (Or.inl (Or.inr c25))) | exact Or.inr (Or.inr (Or.inl (Or.inl c19))) | exact Or.inr (Or.inl (Or.inr c15)) | exact Or.inr (Or.inl (Or.inl c10)) | exact Or.inl hno, rfl, hR⟩
  · skip
    refine G_ifT_eq 39 (by decide) (by decide) dX8_guard_6 ?_
    refine G_iconst 40 rfl (0) (by decide) dX8_guard_39 ?_
    refine G_iret (ty := .boolean) rfl (by decide) ?_ dX8_guard_40
    exact Or.inr ⟨by first | exact Or.inr (Or.inr (Or.inr ⟨p, hp, rfl, c36⟩)) | exact Or.inr (Or.inr (Or.inl (Or.inr c25))) | exact Or.inr (Or.inr (Or.inl (Or.inl c19))) | exact Or.inr (Or.inl (Or.inr c15)) | exact Or.inr (Or.inl (Or.inl c10)) | exact Or.inl hno, rfl, hR⟩

set_option maxHeartbeats 4000000 in
set_option maxRecDepth 100000 in
theorem lp_X8_onBehind {E : Ev} {m : Nat} {σ : Sg} {τ : Tu} {h : Hp} (hR : RR E m σ τ h) {p : Nat} (hp : p < m) {g : Nat} (hg : τ 8 p = nI g) (hg8 : g ≤ 8) {x : Int32} {a0 : Nat} : ∀ (n a : Nat), a + n = g → fOn (fun j => τ 12 (8 * p + j)) n a = mNx τ p a0 → G E mX8_onBehind (rk 0 0 0) (fun v h' => v = some (.int (oI (mNx τ p a0))) ∧ h' = h) 4 [some (.ref (aM E m)), some (.int (nI p)), some (.int x), some (.int (nI a))] [] h 0 0 := by
  intro n
  induction n with
  | zero =>
    intro a ha hb
    have hm := hR.1.1
    refine G_iload_n 5 rfl rfl dX8_onBehind_4 ?_
    refine G_aload_n 6 rfl rfl dX8_onBehind_5 ?_
    refine G_mR 9 rfl hR fl_X8_13 ia_8 rfl dX8_onBehind_6 ?_
    refine G_iload_n 10 rfl rfl dX8_onBehind_9 ?_
    refine G_mldV 11 rfl hR (k := 8) p (v := τ 8 p) rfl rfl ia_8 rfl (show p < 16 by omega) dX8_onBehind_10 ?_
    refine G_icmpT_ge 34 (by rw [hg]; exact nI_le (by omega) (by omega)) (by decide) dX8_onBehind_11 ?_
    refine G_iload_n 35 rfl rfl dX8_onBehind_34 ?_
    refine G_aload_n 36 rfl rfl dX8_onBehind_35 ?_
    refine G_mR 39 rfl hR fl_X8_13 ia_8 rfl dX8_onBehind_36 ?_
    refine G_iload_n 40 rfl rfl dX8_onBehind_39 ?_
    refine G_mldV 41 rfl hR (k := 8) p (v := τ 8 p) rfl rfl ia_8 rfl (show p < 16 by omega) dX8_onBehind_40 ?_
    refine G_icmpT_ge 48 (by rw [hg]; exact nI_le (by omega) (by omega)) (by decide) dX8_onBehind_41 ?_
    refine G_iconst 49 rfl (-1) (by decide) dX8_onBehind_48 ?_
    refine G_iret (ty := .int) rfl rfl ?_ dX8_onBehind_49
    exact ⟨by rw [← hb]; first | rfl | (rw [fOn_succ, if_neg c25]; rfl), rfl⟩
  | succ n ih =>
    intro a ha hb
    have hm := hR.1.1
    refine G_iload_n 5 rfl rfl dX8_onBehind_4 ?_
    refine G_aload_n 6 rfl rfl dX8_onBehind_5 ?_
    refine G_mR 9 rfl hR fl_X8_13 ia_8 rfl dX8_onBehind_6 ?_
    refine G_iload_n 10 rfl rfl dX8_onBehind_9 ?_
    refine G_mldV 11 rfl hR (k := 8) p (v := τ 8 p) rfl rfl ia_8 rfl (show p < 16 by omega) dX8_onBehind_10 ?_
    refine G_icmpF_ge 14 rfl (by rw [hg]; exact nI_ge (by omega) (by omega)) ⟨34, by decide⟩ dX8_onBehind_11 ?_
    refine G_aload_n 15 rfl rfl dX8_onBehind_14 ?_
    refine G_mR 18 rfl hR fl_X8_25 ia_12 rfl dX8_onBehind_15 ?_
    refine G_bipush 20 rfl (8) (by decide) dX8_onBehind_18 ?_
    refine G_iload_n 21 rfl rfl dX8_onBehind_20 ?_
    refine G_imul 22 rfl dX8_onBehind_21 ?_
    refine G_iload_n 23 rfl rfl dX8_onBehind_22 ?_
    refine G_iadd 24 rfl dX8_onBehind_23 ?_
    rw [e88]
    refine G_mldZV 25 rfl hR (k := 12) (8 * p + a) (v := τ 12 (8 * p + a)) rfl rfl ia_12 rfl (show 8 * p + a < 128 by omega) dX8_onBehind_24 ?_
    refine G_if_ne 34 28 rfl (by decide) dX8_onBehind_25 (fun c25 => ?_) (fun c25 => ?_)
    · skip
      refine G_iload_n 35 rfl rfl dX8_onBehind_34 ?_
      refine G_aload_n 36 rfl rfl dX8_onBehind_35 ?_
      refine G_mR 39 rfl hR fl_X8_13 ia_8 rfl dX8_onBehind_36 ?_
      refine G_iload_n 40 rfl rfl dX8_onBehind_39 ?_
      refine G_mldV 41 rfl hR (k := 8) p (v := τ 8 p) rfl rfl ia_8 rfl (show p < 16 by omega) dX8_onBehind_40 ?_
      refine G_icmpF_ge 44 rfl (by rw [hg]; exact nI_ge (by omega) (by omega)) ⟨48, by decide⟩ dX8_onBehind_41 ?_
      refine G_iload_n 45 rfl rfl dX8_onBehind_44 ?_
      refine G_goto 49 (by decide) dX8_onBehind_45 ?_
      refine G_iret (ty := .int) rfl rfl ?_ dX8_onBehind_49
      exact ⟨by rw [← hb]; first | rfl | (rw [fOn_succ, if_neg c25]; rfl), rfl⟩
    · skip
      refine G_iinc 31 rfl (nI (a + 1)) rfl (inc1 a) (by decide) dX8_onBehind_28 ?_
      refine G_goto 4 (by decide) dX8_onBehind_31 ?_
      exact ih (a + 1) (by omega) (by rw [← hb, fOn_succ, if_pos c25])

set_option maxHeartbeats 4000000 in
set_option maxRecDepth 100000 in
theorem m_onBehind {E : Ev} {m : Nat} {σ : Sg} {τ : Tu} {h : Hp} (hR : RR E m σ τ h) {p : Nat} (hp : p < m) {g : Nat} (hg : τ 8 p = nI g) (hg8 : g ≤ 8) (a0 : Nat) (ha0 : a0 ≤ 9) (x : Int32) (hx : x + 1 = nI a0) : Cn E mX8_onBehind (rk 0 0 0) h [.ref (aM E m), .int (nI p), .int x] (fun v h' => v = some (.int (oI (mNx τ p a0))) ∧ h' = h) := by
  refine Cn_of (by decide) rfl (by simp [Value.category]) (Nat.le_of_ble_eq_true rfl) ?_
  have hm := hR.1.1
  refine G_iload_n 1 rfl rfl dX8_onBehind_0 ?_
  refine G_iconst 2 rfl (1) (by decide) dX8_onBehind_1 ?_
  refine G_iadd 3 rfl dX8_onBehind_2 ?_
  rw [hx]
  refine G_istore_n 4 rfl (by decide) dX8_onBehind_3 ?_
  by_cases q : a0 ≤ g
  · exact lp_X8_onBehind hR hp hg hg8 (g - a0) a0 (by omega) (by unfold mNx; rw [hg, cN_nI (by omega)])
  · have e0 : mNx τ p a0 = none := by unfold mNx; rw [hg, cN_nI (by omega), show g - a0 = 0 by omega]; rfl
    refine G_iload_n 5 rfl rfl dX8_onBehind_4 ?_
    refine G_aload_n 6 rfl rfl dX8_onBehind_5 ?_
    refine G_mR 9 rfl hR fl_X8_13 ia_8 rfl dX8_onBehind_6 ?_
    refine G_iload_n 10 rfl rfl dX8_onBehind_9 ?_
    refine G_mldV 11 rfl hR (k := 8) p (v := τ 8 p) rfl rfl ia_8 rfl (show p < 16 by omega) dX8_onBehind_10 ?_
    refine G_icmpT_ge 34 (by rw [hg]; exact nI_le (by omega) (by omega)) (by decide) dX8_onBehind_11 ?_
    refine G_iload_n 35 rfl rfl dX8_onBehind_34 ?_
    refine G_aload_n 36 rfl rfl dX8_onBehind_35 ?_
    refine G_mR 39 rfl hR fl_X8_13 ia_8 rfl dX8_onBehind_36 ?_
    refine G_iload_n 40 rfl rfl dX8_onBehind_39 ?_
    refine G_mldV 41 rfl hR (k := 8) p (v := τ 8 p) rfl rfl ia_8 rfl (show p < 16 by omega) dX8_onBehind_40 ?_
    refine G_icmpT_ge 48 (by rw [hg]; exact nI_le (by omega) (by omega)) (by decide) dX8_onBehind_41 ?_
    refine G_iconst 49 rfl (-1) (by decide) dX8_onBehind_48 ?_
    refine G_iret (ty := .int) rfl rfl ?_ dX8_onBehind_49
    rw [e0]
    exact ⟨rfl, rfl⟩

set_option maxHeartbeats 4000000 in
set_option maxRecDepth 100000 in
theorem lp_X8_ownEntry {E : Ev} {m : Nat} {σ : Sg} {τ : Tu} {h : Hp} (hR : RR E m σ τ h) {p : Nat} (hp : p < m) {e : Nat} (he : τ 31 0 = nI e) (heb : e ≤ 129) : ∀ (n a : Nat), a + n = e → fBy (fun k => decide (τ 32 k = nI p)) n a = mOwn τ p → G E mX8_ownEntry (rk 0 0 0) (fun v h' => v = some (.int (oI (mOwn τ p))) ∧ h' = h) 2 [some (.ref (aM E m)), some (.int (nI p)), some (.int (nI a))] [] h 0 0 := by
  intro n
  induction n with
  | zero =>
    intro a ha hb
    have hm := hR.1.1
    refine G_iload_n 3 rfl rfl dX8_ownEntry_2 ?_
    refine G_aload_n 4 rfl rfl dX8_ownEntry_3 ?_
    refine G_mi 7 rfl hR (v := τ 31 0) rfl fl_X8_136 (by decide) rfl dX8_ownEntry_4 ?_
    refine G_icmpT_ge 28 (by rw [he]; exact nI_le (by omega) (by omega)) (by decide) dX8_ownEntry_7 ?_
    refine G_iconst 29 rfl (-1) (by decide) dX8_ownEntry_28 ?_
    refine G_iret (ty := .int) rfl rfl ?_ dX8_ownEntry_29
    exact ⟨by rw [← hb]; rfl, rfl⟩
  | succ n ih =>
    intro a ha hb
    have hm := hR.1.1
    refine G_iload_n 3 rfl rfl dX8_ownEntry_2 ?_
    refine G_aload_n 4 rfl rfl dX8_ownEntry_3 ?_
    refine G_mi 7 rfl hR (v := τ 31 0) rfl fl_X8_136 (by decide) rfl dX8_ownEntry_4 ?_
    refine G_icmpF_ge 10 rfl (by rw [he]; exact nI_ge (by omega) (by omega)) ⟨28, by decide⟩ dX8_ownEntry_7 ?_
    refine G_aload_n 11 rfl rfl dX8_ownEntry_10 ?_
    refine G_mR 14 rfl hR fl_X8_83 ia_32 rfl dX8_ownEntry_11 ?_
    refine G_iload_n 15 rfl rfl dX8_ownEntry_14 ?_
    refine G_mldV 16 rfl hR (k := 32) a (v := τ 32 a) rfl rfl ia_32 rfl (show a < 130 by omega) dX8_ownEntry_15 ?_
    refine G_iload_n 17 rfl rfl dX8_ownEntry_16 ?_
    refine G_icmp_ne 22 20 rfl (by decide) dX8_ownEntry_17 (fun c17 => ?_) (fun c17 => ?_)
    · skip
      refine G_iinc 25 rfl (nI (a + 1)) rfl (inc1 a) (by decide) dX8_ownEntry_22 ?_
      refine G_goto 2 (by decide) dX8_ownEntry_25 ?_
      exact ih (a + 1) (by omega) (by rw [← hb, fBy_succ, if_neg (by simpa using c17)])
    · skip
      refine G_iload_n 21 rfl rfl dX8_ownEntry_20 ?_
      refine G_iret (ty := .int) rfl rfl ?_ dX8_ownEntry_21
      exact ⟨by rw [← hb, fBy_succ, if_pos (by simpa using c17)]; rfl, rfl⟩

set_option maxHeartbeats 4000000 in
set_option maxRecDepth 100000 in
theorem m_ownEntry {E : Ev} {m : Nat} {σ : Sg} {τ : Tu} {h : Hp} (hR : RR E m σ τ h) {p : Nat} (hp : p < m) {e : Nat} (he : τ 31 0 = nI e) (heb : e ≤ 129) : Cn E mX8_ownEntry (rk 0 0 0) h [.ref (aM E m), .int (nI p)] (fun v h' => v = some (.int (oI (mOwn τ p))) ∧ h' = h) := by
  refine Cn_of (by decide) rfl (by simp [Value.category]) (Nat.le_of_ble_eq_true rfl) ?_
  have hm := hR.1.1
  refine G_iconst 1 rfl (0) (by decide) dX8_ownEntry_0 ?_
  refine G_istore_n 2 rfl (by decide) dX8_ownEntry_1 ?_
  exact lp_X8_ownEntry hR hp he heb e 0 (by omega) (by unfold mOwn mEn; rw [he, cN_nI (by omega)])

set_option maxHeartbeats 4000000 in
set_option maxRecDepth 100000 in
theorem m_withdraws {E : Ev} {m : Nat} {σ : Sg} {τ : Tu} {h : Hp} (hR : RR E m σ τ h) {p : Nat} (hp : p < m) {e : Nat} (he : τ 31 0 = nI e) (heb : e ≤ 129) : Cn E mX8_withdraws (rk 1 0 0) h [.ref (aM E m), .int (nI p)] (fun v h' => v = none ∧ RR E m σ (mWd τ p) h') := by
  refine Cn_of (by decide) rfl (by simp [Value.category]) (Nat.le_of_ble_eq_true rfl) ?_
  have hm := hR.1.1
  refine G_aload_n 1 rfl rfl dX8_withdraws_0 ?_
  refine G_mR 4 rfl hR fl_X8_9 ia_7 rfl dX8_withdraws_1 ?_
  refine G_iload_n 5 rfl rfl dX8_withdraws_4 ?_
  refine G_aload_n 6 rfl rfl dX8_withdraws_5 ?_
  refine G_iload_n 7 rfl rfl dX8_withdraws_6 ?_
  refine G_callV 10 rfl [.int (nI p)] (m_ownEntry hR hp he heb) ok_X8_ownEntry ov_X8_ownEntry ml_X8_139 (hR.ob (ci := 8) (i := 0) (by decide) rfl) ⟨by decide, rfl⟩ rfl ⟨by decide, by decide⟩ rfl rfl (Nat.le_of_ble_eq_true rfl) rfl dX8_withdraws_7 ?_
  rintro v h' ⟨rfl, rfl⟩
  rcases ho : mOwn τ p with _ | k
  · skip
    refine G_iconst 11 rfl (-1) (by decide) dX8_withdraws_10 ?_
    refine G_icmpF_ne 14 rfl rfl ⟨19, by decide⟩ dX8_withdraws_11 ?_
    refine G_bipush 16 rfl (12) (by decide) dX8_withdraws_14 ?_
    refine G_goto 21 (by decide) dX8_withdraws_16 ?_
    refine G_mst 22 rfl hR (k := 7) p rfl ia_7 rfl (show p < 16 by omega) dX8_withdraws_21 (fun h hR => ?_)
    refine G_ret rfl ?_ dX8_withdraws_22
    refine ⟨rfl, ?_⟩
    unfold mWd
    rw [ho]
    exact hR
  · skip
    have hk := (fBy_some ho).2.1
    have hen : mEn τ = e := by unfold mEn; rw [he]; exact cN_nI (by omega)
    refine G_iconst 11 rfl (-1) (by decide) dX8_withdraws_10 ?_
    refine G_icmpT_ne 19 (oI_m1 (by omega)) (by decide) dX8_withdraws_11 ?_
    refine G_bipush 21 rfl (11) (by decide) dX8_withdraws_19 ?_
    refine G_mst 22 rfl hR (k := 7) p rfl ia_7 rfl (show p < 16 by omega) dX8_withdraws_21 (fun h hR => ?_)
    refine G_ret rfl ?_ dX8_withdraws_22
    refine ⟨rfl, ?_⟩
    unfold mWd
    rw [ho]
    exact hR

set_option maxHeartbeats 4000000 in
set_option maxRecDepth 100000 in
theorem m_looksOn {E : Ev} {m : Nat} {σ : Sg} {τ : Tu} {h : Hp} (hR : RR E m σ τ h) {p : Nat} (hp : p < m) (o : Option Nat) (ho : ∀ j, o = some j → j < 9) : Cn E mX8_looksOn (rk 0 0 0) h [.ref (aM E m), .int (nI p), .int (oI o)] (fun v h' => v = none ∧ RR E m σ (mLk τ p o) h') := by
  refine Cn_of (by decide) rfl (by simp [Value.category]) (Nat.le_of_ble_eq_true rfl) ?_
  have hm := hR.1.1
  rcases o with _ | j
  · skip
    refine G_aload_n 1 rfl rfl dX8_looksOn_0 ?_
    refine G_mR 4 rfl hR fl_X8_44 ia_18 rfl dX8_looksOn_1 ?_
    refine G_iload_n 5 rfl rfl dX8_looksOn_4 ?_
    refine G_iload_n 6 rfl rfl dX8_looksOn_5 ?_
    refine G_mst 7 rfl hR (k := 18) p rfl ia_18 rfl (show p < 16 by omega) dX8_looksOn_6 (fun h hR => ?_)
    refine G_aload_n 8 rfl rfl dX8_looksOn_7 ?_
    refine G_mR 11 rfl hR fl_X8_47 ia_19 rfl dX8_looksOn_8 ?_
    refine G_iload_n 12 rfl rfl dX8_looksOn_11 ?_
    refine G_iconst 13 rfl (0) (by decide) dX8_looksOn_12 ?_
    refine G_mst 14 rfl hR (k := 19) p rfl ia_19 rfl (show p < 16 by omega) dX8_looksOn_13 (fun h hR => ?_)
    refine G_aload_n 15 rfl rfl dX8_looksOn_14 ?_
    refine G_mR 18 rfl hR fl_X8_9 ia_7 rfl dX8_looksOn_15 ?_
    refine G_iload_n 19 rfl rfl dX8_looksOn_18 ?_
    refine G_iload_n 20 rfl rfl dX8_looksOn_19 ?_
    refine G_iconst 21 rfl (-1) (by decide) dX8_looksOn_20 ?_
    refine G_icmpF_ne 24 rfl rfl ⟨29, by decide⟩ dX8_looksOn_21 ?_
    refine G_bipush 26 rfl (9) (by decide) dX8_looksOn_24 ?_
    refine G_goto 30 (by decide) dX8_looksOn_26 ?_
    refine G_mst 31 rfl hR (k := 7) p rfl ia_7 rfl (show p < 16 by omega) dX8_looksOn_30 (fun h hR => ?_)
    refine G_ret rfl ?_ dX8_looksOn_31
    exact ⟨rfl, hR⟩
  · skip
    refine G_aload_n 1 rfl rfl dX8_looksOn_0 ?_
    refine G_mR 4 rfl hR fl_X8_44 ia_18 rfl dX8_looksOn_1 ?_
    refine G_iload_n 5 rfl rfl dX8_looksOn_4 ?_
    refine G_iload_n 6 rfl rfl dX8_looksOn_5 ?_
    refine G_mst 7 rfl hR (k := 18) p rfl ia_18 rfl (show p < 16 by omega) dX8_looksOn_6 (fun h hR => ?_)
    refine G_aload_n 8 rfl rfl dX8_looksOn_7 ?_
    refine G_mR 11 rfl hR fl_X8_47 ia_19 rfl dX8_looksOn_8 ?_
    refine G_iload_n 12 rfl rfl dX8_looksOn_11 ?_
    refine G_iconst 13 rfl (0) (by decide) dX8_looksOn_12 ?_
    refine G_mst 14 rfl hR (k := 19) p rfl ia_19 rfl (show p < 16 by omega) dX8_looksOn_13 (fun h hR => ?_)
    refine G_aload_n 15 rfl rfl dX8_looksOn_14 ?_
    refine G_mR 18 rfl hR fl_X8_9 ia_7 rfl dX8_looksOn_15 ?_
    refine G_iload_n 19 rfl rfl dX8_looksOn_18 ?_
    refine G_iload_n 20 rfl rfl dX8_looksOn_19 ?_
    refine G_iconst 21 rfl (-1) (by decide) dX8_looksOn_20 ?_
    refine G_icmpT_ne 29 (oI_m1 (by have := ho j rfl; omega)) (by decide) dX8_looksOn_21 ?_
    refine G_iconst 30 rfl (3) (by decide) dX8_looksOn_29 ?_
    refine G_mst 31 rfl hR (k := 7) p rfl ia_7 rfl (show p < 16 by omega) dX8_looksOn_30 (fun h hR => ?_)
    refine G_ret rfl ?_ dX8_looksOn_31
    exact ⟨rfl, hR⟩

set_option maxHeartbeats 4000000 in
set_option maxRecDepth 100000 in
theorem m_tries {E : Ev} {m : Nat} {σ : Sg} {τ : Tu} {h : Hp} (hR : RR E m σ τ h) {p : Nat} (hp : p < m) {t : Nat} (ht : t < m) (v0 : Int32) : Cn E mX8_tries (rk 0 0 0) h [.ref (aM E m), .int (nI p), .int (nI t), .int v0] (fun v h' => (mTok τ t v0 ∧ v = some (.int 1) ∧ RR E m σ (mTryY τ p t) h') ∨ (¬ mTok τ t v0 ∧ v = some (.int 0) ∧ RR E m σ (mTryN τ) h')) := by
  refine Cn_of (by decide) rfl (by simp [Value.category]) (Nat.le_of_ble_eq_true rfl) ?_
  have hm := hR.1.1
  refine G_aload_n 1 rfl rfl dX8_tries_0 ?_
  refine G_dup 2 rfl rfl dX8_tries_1 ?_
  refine G_mi 5 rfl hR (v := τ 5 0) rfl fl_X8_143 (by decide) rfl dX8_tries_2 ?_
  refine G_iconst 6 rfl (1) (by decide) dX8_tries_5 ?_
  refine G_iadd 7 rfl dX8_tries_6 ?_
  refine G_pM 10 rfl hR fl_X8_143 (by decide) ⟨rfl, rfl, rfl⟩ dX8_tries_7 (fun h hR => ?_)
  refine G_aload_n 11 rfl rfl dX8_tries_10 ?_
  refine G_mR 14 rfl hR fl_X8_35 ia_15 rfl dX8_tries_11 ?_
  refine G_iload_n 15 rfl rfl dX8_tries_14 ?_
  refine G_mldV 16 rfl hR (k := 15) t (v := τ 15 t) rfl rfl ia_15 rfl (show t < 16 by omega) dX8_tries_15 ?_
  refine G_iconst 17 rfl (1) (by decide) dX8_tries_16 ?_
  refine G_icmp_ne 46 20 rfl (by decide) dX8_tries_17 (fun c17 => ?_) (fun c17 => ?_)
  · skip
    refine G_aload_n 47 rfl rfl dX8_tries_46 ?_
    refine G_dup 48 rfl rfl dX8_tries_47 ?_
    refine G_mi 51 rfl hR (v := τ 6 0) rfl fl_X8_146 (by decide) rfl dX8_tries_48 ?_
    refine G_iconst 52 rfl (1) (by decide) dX8_tries_51 ?_
    refine G_iadd 53 rfl dX8_tries_52 ?_
    refine G_pM 56 rfl hR fl_X8_146 (by decide) ⟨rfl, rfl, rfl⟩ dX8_tries_53 (fun h hR => ?_)
    refine G_iconst 57 rfl (0) (by decide) dX8_tries_56 ?_
    refine G_iret (ty := .boolean) rfl (by decide) ?_ dX8_tries_57
    exact Or.inr ⟨by first | exact fun z => c27 z.2 | exact fun z => c17 z.1, rfl, hR⟩
  · skip
    refine G_aload_n 21 rfl rfl dX8_tries_20 ?_
    refine G_mR 24 rfl hR fl_X8_38 ia_16 rfl dX8_tries_21 ?_
    refine G_iload_n 25 rfl rfl dX8_tries_24 ?_
    refine G_mldV 26 rfl hR (k := 16) t (v := τ 16 t) rfl rfl ia_16 rfl (show t < 16 by omega) dX8_tries_25 ?_
    refine G_iload_n 27 rfl rfl dX8_tries_26 ?_
    refine G_icmp_ne 46 30 rfl (by decide) dX8_tries_27 (fun c27 => ?_) (fun c27 => ?_)
    · skip
      refine G_aload_n 47 rfl rfl dX8_tries_46 ?_
      refine G_dup 48 rfl rfl dX8_tries_47 ?_
      refine G_mi 51 rfl hR (v := τ 6 0) rfl fl_X8_146 (by decide) rfl dX8_tries_48 ?_
      refine G_iconst 52 rfl (1) (by decide) dX8_tries_51 ?_
      refine G_iadd 53 rfl dX8_tries_52 ?_
      refine G_pM 56 rfl hR fl_X8_146 (by decide) ⟨rfl, rfl, rfl⟩ dX8_tries_53 (fun h hR => ?_)
      refine G_iconst 57 rfl (0) (by decide) dX8_tries_56 ?_
      refine G_iret (ty := .boolean) rfl (by decide) ?_ dX8_tries_57
      exact Or.inr ⟨by first | exact fun z => c27 z.2 | exact fun z => c17 z.1, rfl, hR⟩
    · skip
      refine G_aload_n 31 rfl rfl dX8_tries_30 ?_
      refine G_mR 34 rfl hR fl_X8_35 ia_15 rfl dX8_tries_31 ?_
      refine G_iload_n 35 rfl rfl dX8_tries_34 ?_
      refine G_iconst 36 rfl (2) (by decide) dX8_tries_35 ?_
      refine G_mst 37 rfl hR (k := 15) t rfl ia_15 rfl (show t < 16 by omega) dX8_tries_36 (fun h hR => ?_)
      refine G_aload_n 38 rfl rfl dX8_tries_37 ?_
      refine G_mR 41 rfl hR fl_X8_41 ia_17 rfl dX8_tries_38 ?_
      refine G_iload_n 42 rfl rfl dX8_tries_41 ?_
      refine G_iload_n 43 rfl rfl dX8_tries_42 ?_
      refine G_mst 44 rfl hR (k := 17) t rfl ia_17 rfl (show t < 16 by omega) dX8_tries_43 (fun h hR => ?_)
      refine G_iconst 45 rfl (1) (by decide) dX8_tries_44 ?_
      refine G_iret (ty := .boolean) rfl (by decide) ?_ dX8_tries_45
      exact Or.inl ⟨⟨c17, c27⟩, rfl, hR⟩

set_option maxHeartbeats 4000000 in
set_option maxRecDepth 100000 in
theorem m_isEnded {E : Ev} {m : Nat} {σ : Sg} {τ : Tu} {h : Hp} (hR : RR E m σ τ h) {p : Nat} (hp : p < m) : Cn E mX8_isEnded (rk 0 0 0) h [.ref (aM E m), .int (nI p)] (fun v h' => ((τ 15 p = 3 ∨ τ 15 p = 4) ∧ v = some (.int 1) ∨ ¬ (τ 15 p = 3 ∨ τ 15 p = 4) ∧ v = some (.int 0)) ∧ h' = h) := by
  refine Cn_of (by decide) rfl (by simp [Value.category]) (Nat.le_of_ble_eq_true rfl) ?_
  have hm := hR.1.1
  refine G_aload_n 1 rfl rfl dX8_isEnded_0 ?_
  refine G_mR 4 rfl hR fl_X8_35 ia_15 rfl dX8_isEnded_1 ?_
  refine G_iload_n 5 rfl rfl dX8_isEnded_4 ?_
  refine G_mldV 6 rfl hR (k := 15) p (v := τ 15 p) rfl rfl ia_15 rfl (show p < 16 by omega) dX8_isEnded_5 ?_
  refine G_iconst 7 rfl (3) (by decide) dX8_isEnded_6 ?_
  refine G_icmp_eq 20 10 rfl (by decide) dX8_isEnded_7 (fun c7 => ?_) (fun c7 => ?_)
  · skip
    refine G_iconst 21 rfl (1) (by decide) dX8_isEnded_20 ?_
    refine G_goto 25 (by decide) dX8_isEnded_21 ?_
    refine G_iret (ty := .boolean) rfl (by decide) ?_ dX8_isEnded_25
    exact ⟨Or.inl ⟨by first | omega | simp_all | (simp_all; omega), rfl⟩, rfl⟩
  · skip
    refine G_aload_n 11 rfl rfl dX8_isEnded_10 ?_
    refine G_mR 14 rfl hR fl_X8_35 ia_15 rfl dX8_isEnded_11 ?_
    refine G_iload_n 15 rfl rfl dX8_isEnded_14 ?_
    refine G_mldV 16 rfl hR (k := 15) p (v := τ 15 p) rfl rfl ia_15 rfl (show p < 16 by omega) dX8_isEnded_15 ?_
    refine G_iconst 17 rfl (4) (by decide) dX8_isEnded_16 ?_
    refine G_icmp_ne 24 20 rfl (by decide) dX8_isEnded_17 (fun c17 => ?_) (fun c17 => ?_)
    · skip
      refine G_iconst 25 rfl (0) (by decide) dX8_isEnded_24 ?_
      refine G_iret (ty := .boolean) rfl (by decide) ?_ dX8_isEnded_25
      exact ⟨Or.inr ⟨by first | omega | simp_all | (simp_all; omega), rfl⟩, rfl⟩
    · skip
      refine G_iconst 21 rfl (1) (by decide) dX8_isEnded_20 ?_
      refine G_goto 25 (by decide) dX8_isEnded_21 ?_
      refine G_iret (ty := .boolean) rfl (by decide) ?_ dX8_isEnded_25
      exact ⟨Or.inl ⟨by first | omega | simp_all | (simp_all; omega), rfl⟩, rfl⟩

set_option maxHeartbeats 4000000 in
set_option maxRecDepth 100000 in
theorem m_isBusy {E : Ev} {m : Nat} {σ : Sg} {τ : Tu} {h : Hp} (hR : RR E m σ τ h) {p : Nat} (hp : p < m) {t : Nat} (ht : t < m) (v0 : Int32) : Cn E mX8_isBusy (rk 0 0 0) h [.ref (aM E m), .int (nI p), .int (nI t), .int v0] (fun v h' => v = none ∧ RR E m σ (mBs τ p t v0) h') := by
  refine Cn_of (by decide) rfl (by simp [Value.category]) (Nat.le_of_ble_eq_true rfl) ?_
  have hm := hR.1.1
  refine G_aload_n 1 rfl rfl dX8_isBusy_0 ?_
  refine G_mR 4 rfl hR fl_X8_35 ia_15 rfl dX8_isBusy_1 ?_
  refine G_iload_n 5 rfl rfl dX8_isBusy_4 ?_
  refine G_mldV 6 rfl hR (k := 15) t (v := τ 15 t) rfl rfl ia_15 rfl (show t < 16 by omega) dX8_isBusy_5 ?_
  refine G_iconst 7 rfl (2) (by decide) dX8_isBusy_6 ?_
  refine G_icmp_ne 27 10 rfl (by decide) dX8_isBusy_7 (fun c7 => ?_) (fun c7 => ?_)
  · skip
    refine G_ret rfl ?_ dX8_isBusy_27
    refine ⟨rfl, ?_⟩
    unfold mBs
    rw [if_neg (by first | exact fun z => c17 z.2 | exact fun z => c7 z.1)]
    exact hR
  · skip
    refine G_aload_n 11 rfl rfl dX8_isBusy_10 ?_
    refine G_mR 14 rfl hR fl_X8_38 ia_16 rfl dX8_isBusy_11 ?_
    refine G_iload_n 15 rfl rfl dX8_isBusy_14 ?_
    refine G_mldV 16 rfl hR (k := 16) t (v := τ 16 t) rfl rfl ia_16 rfl (show t < 16 by omega) dX8_isBusy_15 ?_
    refine G_iload_n 17 rfl rfl dX8_isBusy_16 ?_
    refine G_icmp_ne 27 20 rfl (by decide) dX8_isBusy_17 (fun c17 => ?_) (fun c17 => ?_)
    · skip
      refine G_ret rfl ?_ dX8_isBusy_27
      refine ⟨rfl, ?_⟩
      unfold mBs
      rw [if_neg (by first | exact fun z => c17 z.2 | exact fun z => c7 z.1)]
      exact hR
    · skip
      refine G_aload_n 21 rfl rfl dX8_isBusy_20 ?_
      refine G_mR 24 rfl hR fl_X8_50 ia_20 rfl dX8_isBusy_21 ?_
      refine G_iload_n 25 rfl rfl dX8_isBusy_24 ?_
      refine G_iconst 26 rfl (1) (by decide) dX8_isBusy_25 ?_
      refine G_mstZ 27 rfl hR (k := 20) p rfl ia_20 rfl (show p < 16 by omega) (by decide) dX8_isBusy_26 (fun h hR => ?_)
      refine G_ret rfl ?_ dX8_isBusy_27
      refine ⟨rfl, ?_⟩
      unfold mBs
      rw [if_pos ⟨c7, c17⟩]
      exact hR

set_option maxHeartbeats 4000000 in
set_option maxRecDepth 100000 in
theorem m_versionOf {E : Ev} {m : Nat} {σ : Sg} {τ : Tu} {h : Hp} (hR : RR E m σ τ h) {p : Nat} (hp : p < m) {t : Nat} (ht : t < m) : Cn E mX8_versionOf (rk 0 0 0) h [.ref (aM E m), .int (nI p), .int (nI t)] (fun v h' => v = some (.int (mVs τ p t)) ∧ h' = h) := by
  refine Cn_of (by decide) rfl (by simp [Value.category]) (Nat.le_of_ble_eq_true rfl) ?_
  have hm := hR.1.1
  refine G_iload_n 1 rfl rfl dX8_versionOf_0 ?_
  refine G_iload_n 2 rfl rfl dX8_versionOf_1 ?_
  by_cases htp : t = p
  · skip
    refine G_icmpF_ne 5 rfl (by rw [htp]) ⟨14, by decide⟩ dX8_versionOf_2 ?_
    refine G_aload_n 6 rfl rfl dX8_versionOf_5 ?_
    refine G_mR 9 rfl hR fl_X8_38 ia_16 rfl dX8_versionOf_6 ?_
    refine G_iload_n 10 rfl rfl dX8_versionOf_9 ?_
    refine G_mldV 11 rfl hR (k := 16) p (v := τ 16 p) rfl rfl ia_16 rfl (show p < 16 by omega) dX8_versionOf_10 ?_
    refine G_goto 20 (by decide) dX8_versionOf_11 ?_
    refine G_iret (ty := .int) rfl rfl ?_ dX8_versionOf_20
    exact ⟨by unfold mVs; first | rw [if_pos htp] | rw [if_neg htp], rfl⟩
  · skip
    refine G_icmpT_ne 14 (fun z => htp ((nI_eq (by omega) (by omega)).mp z)) (by decide) dX8_versionOf_2 ?_
    refine G_aload_n 15 rfl rfl dX8_versionOf_14 ?_
    refine G_mR 18 rfl hR fl_X8_56 ia_22 rfl dX8_versionOf_15 ?_
    refine G_iload_n 19 rfl rfl dX8_versionOf_18 ?_
    refine G_mldV 20 rfl hR (k := 22) p (v := τ 22 p) rfl rfl ia_22 rfl (show p < 16 by omega) dX8_versionOf_19 ?_
    refine G_iret (ty := .int) rfl rfl ?_ dX8_versionOf_20
    exact ⟨by unfold mVs; first | rw [if_pos htp] | rw [if_neg htp], rfl⟩

def cncS (σ : Sg) (p : Nat) : Sg := if ¬ σ.1 325 p < 5 ∧ ¬ 8 < σ.1 325 p then putO σ p 5 else bWd (putO σ p 5) p
set_option maxHeartbeats 4000000 in
set_option maxRecDepth 100000 in
theorem c_X7_spawn {E : Ev} {m : Nat} {σ : Sg} {τ : Tu} {h : Hp} (hR : RR E m σ τ h) (i : Int32) : Cn E mX7_spawn (rk 2 0 0) h [.ref (aX E), .int i] (fun v h' => (∃ p, p < m ∧ i = nI p ∧ σ.1 325 p = 0 ∧ v = some (.int 1) ∧ RR E m (up (up (up σ 325 p 1) 326 p 0) 327 p 0) τ h') ∨ (((∀ p, p < m → i = nI p → ¬ σ.1 325 p = 0) ∨ False) ∧ v = some (.int 0) ∧ RR E m σ τ h')) := by
  refine Cn_of (by decide) rfl (by simp [Value.category]) (Nat.le_of_ble_eq_true rfl) ?_
  refine G_aload_n 1 rfl rfl dX7_spawn_0 ?_
  refine G_iload_n 2 rfl rfl dX7_spawn_1 ?_
  refine G_iconst 3 rfl (0) (by decide) dX7_spawn_2 ?_
  refine G_callV 6 rfl [.int i, .int 0] (c_X7_procIn hR i 0) ok_X7_procIn ov_X7_procIn ml_X7_41 (hR.ob (ci := 7) (i := 0) (by decide) rfl) ⟨by decide, rfl⟩ rfl ⟨by decide, by decide⟩ rfl rfl (Nat.le_of_ble_eq_true rfl) rfl dX7_spawn_3 ?_
  rintro v h' ⟨⟨p, hp, e, hph, rfl⟩ | ⟨hno, rfl⟩, rfl⟩
  · skip
    refine G_astore_n 7 rfl (by decide) dX7_spawn_6 ?_
    refine G_aload_n 8 rfl rfl dX7_spawn_7 ?_
    refine G_ifnonnull 13 (by decide) dX7_spawn_8 ?_
    refine G_aload_n 14 rfl rfl dX7_spawn_13 ?_
    refine G_callV 17 rfl [] (c_X5_becomeIdle hR hp) ok_X5_becomeIdle ov_X5_becomeIdle ml_X7_45 (hR.ob (ci := 5) (i := p) (by decide) hp) ⟨by decide, rfl⟩ rfl ⟨by decide, by decide⟩ rfl rfl (Nat.le_of_ble_eq_true rfl) rfl dX7_spawn_14 ?_
    rintro v h ⟨rfl, hR⟩
    refine G_iconst 18 rfl (1) (by decide) dX7_spawn_17 ?_
    refine G_iret (ty := .boolean) rfl (by decide) ?_ dX7_spawn_18
    exact Or.inl ⟨p, hp, e, hph, rfl, hR⟩
  · skip
    refine G_astore_nN 7 rfl (by decide) dX7_spawn_6 ?_
    refine G_aload_nN 8 rfl rfl dX7_spawn_7 ?_
    refine G_ifnonnullN 11 rfl dX7_spawn_8 ?_
    refine G_iconst 12 rfl (0) (by decide) dX7_spawn_11 ?_
    refine G_iret (ty := .boolean) rfl (by decide) ?_ dX7_spawn_12
    exact Or.inr ⟨Or.inl hno, rfl, hR⟩

set_option maxHeartbeats 4000000 in
set_option maxRecDepth 100000 in
theorem c_X7_quit {E : Ev} {m : Nat} {σ : Sg} {τ : Tu} {h : Hp} (hR : RR E m σ τ h) (i : Int32) : Cn E mX7_quit (rk 2 0 0) h [.ref (aX E), .int i] (fun v h' => (∃ p, p < m ∧ i = nI p ∧ σ.1 325 p = 1 ∧ v = some (.int 1) ∧ RR E m (up σ 325 p 0) τ h') ∨ (((∀ p, p < m → i = nI p → ¬ σ.1 325 p = 1) ∨ False) ∧ v = some (.int 0) ∧ RR E m σ τ h')) := by
  refine Cn_of (by decide) rfl (by simp [Value.category]) (Nat.le_of_ble_eq_true rfl) ?_
  refine G_aload_n 1 rfl rfl dX7_quit_0 ?_
  refine G_iload_n 2 rfl rfl dX7_quit_1 ?_
  refine G_iconst 3 rfl (1) (by decide) dX7_quit_2 ?_
  refine G_callV 6 rfl [.int i, .int 1] (c_X7_procIn hR i 1) ok_X7_procIn ov_X7_procIn ml_X7_41 (hR.ob (ci := 7) (i := 0) (by decide) rfl) ⟨by decide, rfl⟩ rfl ⟨by decide, by decide⟩ rfl rfl (Nat.le_of_ble_eq_true rfl) rfl dX7_quit_3 ?_
  rintro v h' ⟨⟨p, hp, e, hph, rfl⟩ | ⟨hno, rfl⟩, rfl⟩
  · skip
    refine G_astore_n 7 rfl (by decide) dX7_quit_6 ?_
    refine G_aload_n 8 rfl rfl dX7_quit_7 ?_
    refine G_ifnonnull 13 (by decide) dX7_quit_8 ?_
    refine G_aload_n 14 rfl rfl dX7_quit_13 ?_
    refine G_iconst 15 rfl (0) (by decide) dX7_quit_14 ?_
    refine G_pi 18 rfl hR 5 5 p 325 fl_X7_48 hp rfl ⟨rfl, rfl⟩ rfl rfl dX7_quit_15 (fun h hR => ?_)
    refine G_iconst 19 rfl (1) (by decide) dX7_quit_18 ?_
    refine G_iret (ty := .boolean) rfl (by decide) ?_ dX7_quit_19
    exact Or.inl ⟨p, hp, e, hph, rfl, hR⟩
  · skip
    refine G_astore_nN 7 rfl (by decide) dX7_quit_6 ?_
    refine G_aload_nN 8 rfl rfl dX7_quit_7 ?_
    refine G_ifnonnullN 11 rfl dX7_quit_8 ?_
    refine G_iconst 12 rfl (0) (by decide) dX7_quit_11 ?_
    refine G_iret (ty := .boolean) rfl (by decide) ?_ dX7_quit_12
    exact Or.inr ⟨Or.inl hno, rfl, hR⟩

set_option maxHeartbeats 4000000 in
set_option maxRecDepth 100000 in
theorem c_X7_finish {E : Ev} {m : Nat} {σ : Sg} {τ : Tu} {h : Hp} (hR : RR E m σ τ h) (i : Int32) : Cn E mX7_finish (rk 2 0 0) h [.ref (aX E), .int i] (fun v h' => (∃ p, p < m ∧ i = nI p ∧ σ.1 325 p = 12 ∧ v = some (.int 1) ∧ RR E m (up (up (up (up (up σ 384 p 0) 386 p (-1)) 325 p 1) 326 p 0) 327 p 0) τ h') ∨ (((∀ p, p < m → i = nI p → ¬ σ.1 325 p = 12) ∨ False) ∧ v = some (.int 0) ∧ RR E m σ τ h')) := by
  refine Cn_of (by decide) rfl (by simp [Value.category]) (Nat.le_of_ble_eq_true rfl) ?_
  refine G_aload_n 1 rfl rfl dX7_finish_0 ?_
  refine G_iload_n 2 rfl rfl dX7_finish_1 ?_
  refine G_bipush 4 rfl (12) (by decide) dX7_finish_2 ?_
  refine G_callV 7 rfl [.int i, .int 12] (c_X7_procIn hR i 12) ok_X7_procIn ov_X7_procIn ml_X7_41 (hR.ob (ci := 7) (i := 0) (by decide) rfl) ⟨by decide, rfl⟩ rfl ⟨by decide, by decide⟩ rfl rfl (Nat.le_of_ble_eq_true rfl) rfl dX7_finish_4 ?_
  rintro v h' ⟨⟨p, hp, e, hph, rfl⟩ | ⟨hno, rfl⟩, rfl⟩
  · skip
    refine G_astore_n 8 rfl (by decide) dX7_finish_7 ?_
    refine G_aload_n 9 rfl rfl dX7_finish_8 ?_
    refine G_ifnonnull 14 (by decide) dX7_finish_9 ?_
    refine G_aload_n 15 rfl rfl dX7_finish_14 ?_
    refine G_p1 18 rfl hR fl_X7_63 hp dX7_finish_15 ?_
    refine G_iconst 19 rfl (0) (by decide) dX7_finish_18 ?_
    refine G_callV 22 rfl [.int 0] (c_X6_become hR hp 0) ok_X6_become ov_X6_become ml_X7_107 (hR.ob (ci := 6) (i := p) (by decide) hp) ⟨by decide, rfl⟩ rfl ⟨by decide, by decide⟩ rfl rfl (Nat.le_of_ble_eq_true rfl) rfl dX7_finish_19 ?_
    rintro v h ⟨rfl, hR⟩
    refine G_aload_n 23 rfl rfl dX7_finish_22 ?_
    refine G_callV 26 rfl [] (c_X5_becomeIdle hR hp) ok_X5_becomeIdle ov_X5_becomeIdle ml_X7_45 (hR.ob (ci := 5) (i := p) (by decide) hp) ⟨by decide, rfl⟩ rfl ⟨by decide, by decide⟩ rfl rfl (Nat.le_of_ble_eq_true rfl) rfl dX7_finish_23 ?_
    rintro v h ⟨rfl, hR⟩
    refine G_iconst 27 rfl (1) (by decide) dX7_finish_26 ?_
    refine G_iret (ty := .boolean) rfl (by decide) ?_ dX7_finish_27
    exact Or.inl ⟨p, hp, e, hph, rfl, hR⟩
  · skip
    refine G_astore_nN 8 rfl (by decide) dX7_finish_7 ?_
    refine G_aload_nN 9 rfl rfl dX7_finish_8 ?_
    refine G_ifnonnullN 12 rfl dX7_finish_9 ?_
    refine G_iconst 13 rfl (0) (by decide) dX7_finish_12 ?_
    refine G_iret (ty := .boolean) rfl (by decide) ?_ dX7_finish_13
    exact Or.inr ⟨Or.inl hno, rfl, hR⟩

set_option maxHeartbeats 4000000 in
set_option maxRecDepth 100000 in
theorem c_X7_timeout {E : Ev} {m : Nat} {σ : Sg} {τ : Tu} {h : Hp} (hR : RR E m σ τ h) (i k : Int32) : Cn E mX7_timeout (rk 2 0 0) h [.ref (aX E), .int i, .int k] (fun v h' => (∃ p, p < m ∧ i = nI p ∧ σ.1 325 p = 1 ∧ ¬ k < 0 ∧ k ≤ 1000 ∧ v = some (.int 1) ∧ RR E m (up σ 327 p k) τ h') ∨ (((∀ p, p < m → i = nI p → ¬ σ.1 325 p = 1) ∨ (k < 0 ∨ ¬ k ≤ 1000)) ∧ v = some (.int 0) ∧ RR E m σ τ h')) := by
  refine Cn_of (by decide) rfl (by simp [Value.category]) (Nat.le_of_ble_eq_true rfl) ?_
  refine G_aload_n 1 rfl rfl dX7_timeout_0 ?_
  refine G_iload_n 2 rfl rfl dX7_timeout_1 ?_
  refine G_iconst 3 rfl (1) (by decide) dX7_timeout_2 ?_
  refine G_callV 6 rfl [.int i, .int 1] (c_X7_procIn hR i 1) ok_X7_procIn ov_X7_procIn ml_X7_41 (hR.ob (ci := 7) (i := 0) (by decide) rfl) ⟨by decide, rfl⟩ rfl ⟨by decide, by decide⟩ rfl rfl (Nat.le_of_ble_eq_true rfl) rfl dX7_timeout_3 ?_
  rintro v h' ⟨⟨p, hp, e, hph, rfl⟩ | ⟨hno, rfl⟩, rfl⟩
  · skip
    refine G_astore_n 7 rfl (by decide) dX7_timeout_6 ?_
    refine G_aload_n 8 rfl rfl dX7_timeout_7 ?_
    refine G_ifnull 11 rfl dX7_timeout_8 ?_
    refine G_iload_n 12 rfl rfl dX7_timeout_11 ?_
    refine G_if_lt 22 15 rfl (by decide) dX7_timeout_12 (fun c12 => ?_) (fun c12 => ?_)
    · skip
      refine G_iconst 23 rfl (0) (by decide) dX7_timeout_22 ?_
      refine G_iret (ty := .boolean) rfl (by decide) ?_ dX7_timeout_23
      exact Or.inr ⟨by first | exact Or.inl hno | exact Or.inr (Or.inl c12) | exact Or.inr (Or.inr c19), rfl, hR⟩
    · skip
      refine G_iload_n 16 rfl rfl dX7_timeout_15 ?_
      refine G_sipush 19 rfl (1000) (by decide) dX7_timeout_16 ?_
      refine G_icmp_le 24 22 rfl (by decide) dX7_timeout_19 (fun c19 => ?_) (fun c19 => ?_)
      · skip
        refine G_aload_n 25 rfl rfl dX7_timeout_24 ?_
        refine G_iload_n 26 rfl rfl dX7_timeout_25 ?_
        refine G_pi 29 rfl hR 5 7 p 327 fl_X7_60 hp rfl ⟨rfl, rfl⟩ rfl rfl dX7_timeout_26 (fun h hR => ?_)
        refine G_iconst 30 rfl (1) (by decide) dX7_timeout_29 ?_
        refine G_iret (ty := .boolean) rfl (by decide) ?_ dX7_timeout_30
        exact Or.inl ⟨p, hp, e, hph, c12, c19, rfl, hR⟩
      · skip
        refine G_iconst 23 rfl (0) (by decide) dX7_timeout_22 ?_
        refine G_iret (ty := .boolean) rfl (by decide) ?_ dX7_timeout_23
        exact Or.inr ⟨by first | exact Or.inl hno | exact Or.inr (Or.inl c12) | exact Or.inr (Or.inr c19), rfl, hR⟩
  · skip
    refine G_astore_nN 7 rfl (by decide) dX7_timeout_6 ?_
    refine G_aload_nN 8 rfl rfl dX7_timeout_7 ?_
    refine G_ifnullN 22 (by decide) dX7_timeout_8 ?_
    refine G_iconst 23 rfl (0) (by decide) dX7_timeout_22 ?_
    refine G_iret (ty := .boolean) rfl (by decide) ?_ dX7_timeout_23
    exact Or.inr ⟨by first | exact Or.inl hno | exact Or.inr (Or.inl c12) | exact Or.inr (Or.inr c19), rfl, hR⟩

set_option maxHeartbeats 4000000 in
set_option maxRecDepth 100000 in
theorem c_X7_offer {E : Ev} {m : Nat} {σ : Sg} {τ : Tu} {h : Hp} (hR : RR E m σ τ h) (i : Int32) (hgc : ∀ p, p < m → ∃ g, σ.1 326 p = nI g ∧ g ≤ 8) : Cn E mX7_offer (rk 3 0 0) h [.ref (aX E), .int i] (fun v h' => (∃ p, p < m ∧ i = nI p ∧ σ.1 325 p = 1 ∧ σ.1 385 p < 1000 ∧ v = some (.int 1) ∧ RR E m (bOf σ p (σ.1 451 0)) τ h') ∨ (((∀ p, p < m → i = nI p → ¬ σ.1 325 p = 1) ∨ (∃ p, p < m ∧ i = nI p ∧ ¬ σ.1 385 p < 1000)) ∧ v = some (.int 0) ∧ RR E m σ τ h')) := by
  refine Cn_of (by decide) rfl (by simp [Value.category]) (Nat.le_of_ble_eq_true rfl) ?_
  refine G_aload_n 1 rfl rfl dX7_offer_0 ?_
  refine G_iload_n 2 rfl rfl dX7_offer_1 ?_
  refine G_iconst 3 rfl (1) (by decide) dX7_offer_2 ?_
  refine G_callV 6 rfl [.int i, .int 1] (c_X7_procIn hR i 1) ok_X7_procIn ov_X7_procIn ml_X7_41 (hR.ob (ci := 7) (i := 0) (by decide) rfl) ⟨by decide, rfl⟩ rfl ⟨by decide, by decide⟩ rfl rfl (Nat.le_of_ble_eq_true rfl) rfl dX7_offer_3 ?_
  rintro v h' ⟨⟨p, hp, e, hph, rfl⟩ | ⟨hno, rfl⟩, rfl⟩
  · skip
    refine G_astore_n 7 rfl (by decide) dX7_offer_6 ?_
    refine G_aload_n 8 rfl rfl dX7_offer_7 ?_
    refine G_ifnull 11 rfl dX7_offer_8 ?_
    refine G_aload_n 12 rfl rfl dX7_offer_11 ?_
    refine G_p1 15 rfl hR fl_X7_63 hp dX7_offer_12 ?_
    refine G_gi 18 rfl hR 6 1 p 385 (σ.1 385 p) fl_X7_67 hp rfl rfl rfl rfl dX7_offer_15 ?_
    refine G_sipush 21 rfl (1000) (by decide) dX7_offer_18 ?_
    refine G_icmp_lt 26 24 rfl (by decide) dX7_offer_21 (fun c21 => ?_) (fun c21 => ?_)
    · skip
      refine G_aload_n 27 rfl rfl dX7_offer_26 ?_
      refine G_aload_n 28 rfl rfl dX7_offer_27 ?_
      refine G_gi 31 rfl hR 7 3 0 451 (σ.1 451 0) fl_X7_72 rfl rfl rfl rfl rfl dX7_offer_28 ?_
      obtain ⟨g, hg, hg8⟩ := hgc p hp
      refine G_callV 34 rfl [.int (σ.1 451 0)] (c_X5_beginOffer hR hp hg hg8 (σ.1 451 0)) ok_X5_beginOffer ov_X5_beginOffer ml_X7_75 (hR.ob (ci := 5) (i := p) (by decide) hp) ⟨by decide, rfl⟩ rfl ⟨by decide, by decide⟩ rfl rfl (Nat.le_of_ble_eq_true rfl) rfl dX7_offer_31 ?_
      rintro v h ⟨rfl, hR⟩
      refine G_iconst 35 rfl (1) (by decide) dX7_offer_34 ?_
      refine G_iret (ty := .boolean) rfl (by decide) ?_ dX7_offer_35
      exact Or.inl ⟨p, hp, e, hph, c21, rfl, hR⟩
    · skip
      refine G_iconst 25 rfl (0) (by decide) dX7_offer_24 ?_
      refine G_iret (ty := .boolean) rfl (by decide) ?_ dX7_offer_25
      exact Or.inr ⟨by first | exact Or.inl hno | exact Or.inr ⟨p, hp, e, c21⟩, rfl, hR⟩
  · skip
    refine G_astore_nN 7 rfl (by decide) dX7_offer_6 ?_
    refine G_aload_nN 8 rfl rfl dX7_offer_7 ?_
    refine G_ifnullN 24 (by decide) dX7_offer_8 ?_
    refine G_iconst 25 rfl (0) (by decide) dX7_offer_24 ?_
    refine G_iret (ty := .boolean) rfl (by decide) ?_ dX7_offer_25
    exact Or.inr ⟨by first | exact Or.inl hno | exact Or.inr ⟨p, hp, e, c21⟩, rfl, hR⟩

set_option maxHeartbeats 4000000 in
set_option maxRecDepth 100000 in
theorem c_X7_guard {E : Ev} {m : Nat} {σ : Sg} {τ : Tu} {h : Hp} (hR : RR E m σ τ h) (i a b c d : Int32) (hd01 : d = 0 ∨ d = 1) (hgc : ∀ p, p < m → ∃ g, σ.1 326 p = nI g ∧ g ≤ 8) : Cn E mX7_guard (rk 2 0 0) h [.ref (aX E), .int i, .int a, .int b, .int c, .int d] (fun v h' => (∃ p g, p < m ∧ i = nI p ∧ σ.1 325 p = 1 ∧ (a = 0 ∨ a = 1) ∧ (¬ b < 0 ∧ ¬ nI 8 ≤ b) ∧ σ.1 326 p = nI g ∧ g < 8 ∧ v = some (.int 1) ∧ RR E m (up (up (up (up (up σ 128 (8 * p + g) a) 129 (8 * p + g) b) 130 (8 * p + g) c) 131 (8 * p + g) d) 326 p (σ.1 326 p + 1)) τ h') ∨ (((∀ p, p < m → i = nI p → ¬ σ.1 325 p = 1) ∨ (¬ a = 0 ∧ ¬ a = 1) ∨ (b < 0 ∨ nI 8 ≤ b) ∨ (∃ p, p < m ∧ i = nI p ∧ σ.1 326 p = nI 8)) ∧ v = some (.int 0) ∧ RR E m σ τ h')) := by
  refine Cn_of (by decide) rfl (by simp [Value.category]) (Nat.le_of_ble_eq_true rfl) ?_
  refine G_aload_n 1 rfl rfl dX7_guard_0 ?_
  refine G_iload_n 2 rfl rfl dX7_guard_1 ?_
  refine G_iconst 3 rfl (1) (by decide) dX7_guard_2 ?_
  refine G_callV 6 rfl [.int i, .int 1] (c_X7_procIn hR i 1) ok_X7_procIn ov_X7_procIn ml_X7_41 (hR.ob (ci := 7) (i := 0) (by decide) rfl) ⟨by decide, rfl⟩ rfl ⟨by decide, by decide⟩ rfl rfl (Nat.le_of_ble_eq_true rfl) rfl dX7_guard_3 ?_
  rintro v h' ⟨⟨p, hp, e, hph, rfl⟩ | ⟨hno, rfl⟩, rfl⟩
  · skip
    refine G_astore 8 rfl (by decide) dX7_guard_6 ?_
    refine G_aload 10 rfl rfl dX7_guard_8 ?_
    refine G_ifnull 13 rfl dX7_guard_10 ?_
    refine G_iload_n 14 rfl rfl dX7_guard_13 ?_
    refine G_if_eq 22 17 rfl (by decide) dX7_guard_14 (fun c14 => ?_) (fun c14 => ?_)
    · skip
      refine G_aload_n 23 rfl rfl dX7_guard_22 ?_
      refine G_iload_n 24 rfl rfl dX7_guard_23 ?_
      refine G_callV 27 rfl [.int b] (c_X7_listAt hR b) ok_X7_listAt ov_X7_listAt ml_X7_52 (hR.ob (ci := 7) (i := 0) (by decide) rfl) ⟨by decide, rfl⟩ rfl ⟨by decide, by decide⟩ rfl rfl (Nat.le_of_ble_eq_true rfl) rfl dX7_guard_24 ?_
      rintro v h' ⟨⟨c', hc', e', rfl⟩ | ⟨e', rfl⟩, rfl⟩
      · skip
        refine G_ifnonnull 32 (by decide) dX7_guard_27 ?_
        refine G_aload 34 rfl rfl dX7_guard_32 ?_
        refine G_iload_n 35 rfl rfl dX7_guard_34 ?_
        refine G_iload_n 36 rfl rfl dX7_guard_35 ?_
        refine G_iload 38 rfl rfl dX7_guard_36 ?_
        refine G_iload 40 rfl rfl dX7_guard_38 ?_
        obtain ⟨g, hg, hg8⟩ := hgc p hp
        refine G_callV 43 rfl [.int a, .int b, .int c, .int d] (c_X5_addGuard hR hp hg hg8 a b c d hd01) ok_X5_addGuard ov_X5_addGuard ml_X7_56 (hR.ob (ci := 5) (i := p) (by decide) hp) ⟨by decide, rfl⟩ rfl ⟨by decide, by decide⟩ rfl rfl (Nat.le_of_ble_eq_true rfl) rfl dX7_guard_40 ?_
        rintro v h (⟨hlt, rfl, hR⟩ | ⟨hlt, rfl, hR⟩)
        · skip
          refine G_iret (ty := .boolean) rfl (by decide) ?_ dX7_guard_43
          exact Or.inl ⟨p, g, hp, e, hph, by first | exact Or.inl c14 | exact Or.inr c19, by rw [e']; exact ⟨nI_pos (by omega), nI_ge hc' (by omega)⟩, hg, hlt, rfl, hR⟩
        · skip
          refine G_iret (ty := .boolean) rfl (by decide) ?_ dX7_guard_43
          exact Or.inr ⟨Or.inr (Or.inr (Or.inr ⟨p, hp, e, by rw [hg, show g = 8 by omega]⟩)), rfl, hR⟩
      · skip
        refine G_ifnonnullN 30 rfl dX7_guard_27 ?_
        refine G_iconst 31 rfl (0) (by decide) dX7_guard_30 ?_
        refine G_iret (ty := .boolean) rfl (by decide) ?_ dX7_guard_31
        exact Or.inr ⟨by first | exact Or.inl hno | exact Or.inr (Or.inl ⟨c14, c19⟩) | exact Or.inr (Or.inr (Or.inl e')), rfl, hR⟩
    · skip
      refine G_iload_n 18 rfl rfl dX7_guard_17 ?_
      refine G_iconst 19 rfl (1) (by decide) dX7_guard_18 ?_
      refine G_icmp_ne 30 22 rfl (by decide) dX7_guard_19 (fun c19 => ?_) (fun c19 => ?_)
      · skip
        refine G_iconst 31 rfl (0) (by decide) dX7_guard_30 ?_
        refine G_iret (ty := .boolean) rfl (by decide) ?_ dX7_guard_31
        exact Or.inr ⟨by first | exact Or.inl hno | exact Or.inr (Or.inl ⟨c14, c19⟩) | exact Or.inr (Or.inr (Or.inl e')), rfl, hR⟩
      · skip
        refine G_aload_n 23 rfl rfl dX7_guard_22 ?_
        refine G_iload_n 24 rfl rfl dX7_guard_23 ?_
        refine G_callV 27 rfl [.int b] (c_X7_listAt hR b) ok_X7_listAt ov_X7_listAt ml_X7_52 (hR.ob (ci := 7) (i := 0) (by decide) rfl) ⟨by decide, rfl⟩ rfl ⟨by decide, by decide⟩ rfl rfl (Nat.le_of_ble_eq_true rfl) rfl dX7_guard_24 ?_
        rintro v h' ⟨⟨c', hc', e', rfl⟩ | ⟨e', rfl⟩, rfl⟩
        · skip
          refine G_ifnonnull 32 (by decide) dX7_guard_27 ?_
          refine G_aload 34 rfl rfl dX7_guard_32 ?_
          refine G_iload_n 35 rfl rfl dX7_guard_34 ?_
          refine G_iload_n 36 rfl rfl dX7_guard_35 ?_
          refine G_iload 38 rfl rfl dX7_guard_36 ?_
          refine G_iload 40 rfl rfl dX7_guard_38 ?_
          obtain ⟨g, hg, hg8⟩ := hgc p hp
          refine G_callV 43 rfl [.int a, .int b, .int c, .int d] (c_X5_addGuard hR hp hg hg8 a b c d hd01) ok_X5_addGuard ov_X5_addGuard ml_X7_56 (hR.ob (ci := 5) (i := p) (by decide) hp) ⟨by decide, rfl⟩ rfl ⟨by decide, by decide⟩ rfl rfl (Nat.le_of_ble_eq_true rfl) rfl dX7_guard_40 ?_
          rintro v h (⟨hlt, rfl, hR⟩ | ⟨hlt, rfl, hR⟩)
          · skip
            refine G_iret (ty := .boolean) rfl (by decide) ?_ dX7_guard_43
            exact Or.inl ⟨p, g, hp, e, hph, by first | exact Or.inl c14 | exact Or.inr c19, by rw [e']; exact ⟨nI_pos (by omega), nI_ge hc' (by omega)⟩, hg, hlt, rfl, hR⟩
          · skip
            refine G_iret (ty := .boolean) rfl (by decide) ?_ dX7_guard_43
            exact Or.inr ⟨Or.inr (Or.inr (Or.inr ⟨p, hp, e, by rw [hg, show g = 8 by omega]⟩)), rfl, hR⟩
        · skip
          refine G_ifnonnullN 30 rfl dX7_guard_27 ?_
          refine G_iconst 31 rfl (0) (by decide) dX7_guard_30 ?_
          refine G_iret (ty := .boolean) rfl (by decide) ?_ dX7_guard_31
          exact Or.inr ⟨by first | exact Or.inl hno | exact Or.inr (Or.inl ⟨c14, c19⟩) | exact Or.inr (Or.inr (Or.inl e')), rfl, hR⟩
  · skip
    refine G_astoreN 8 rfl (by decide) dX7_guard_6 ?_
    refine G_aloadN 10 rfl rfl dX7_guard_8 ?_
    refine G_ifnullN 30 (by decide) dX7_guard_10 ?_
    refine G_iconst 31 rfl (0) (by decide) dX7_guard_30 ?_
    refine G_iret (ty := .boolean) rfl (by decide) ?_ dX7_guard_31
    exact Or.inr ⟨by first | exact Or.inl hno | exact Or.inr (Or.inl ⟨c14, c19⟩) | exact Or.inr (Or.inr (Or.inl e')), rfl, hR⟩

set_option maxHeartbeats 4000000 in
set_option maxRecDepth 100000 in
theorem c_X7_cancel {E : Ev} {m : Nat} {σ : Sg} {τ : Tu} {h : Hp} (hR : RR E m σ τ h) (i : Int32) (hwd : ∀ p, p < m → ∃ w, σ.1 336 p = nI w ∧ w ≤ (sPb σ p).length) : Cn E mX7_cancel (rk 2 0 0) h [.ref (aX E), .int i] (fun v h' => (∃ p, p < m ∧ i = nI p ∧ (¬ σ.1 325 p < 2 ∧ ¬ 11 < σ.1 325 p) ∧ σ.1 384 p = 1 ∧ v = some (.int 1) ∧ RR E m (cncS σ p) τ h') ∨ (((i < 0 ∨ nI m ≤ i) ∨ ∃ p, p < m ∧ i = nI p ∧ (¬ (¬ σ.1 325 p < 2 ∧ ¬ 11 < σ.1 325 p) ∨ ¬ σ.1 384 p = 1)) ∧ v = some (.int 0) ∧ RR E m σ τ h')) := by
  refine Cn_of (by decide) rfl (by simp [Value.category]) (Nat.le_of_ble_eq_true rfl) ?_
  refine G_aload_n 1 rfl rfl dX7_cancel_0 ?_
  refine G_iload_n 2 rfl rfl dX7_cancel_1 ?_
  refine G_callV 5 rfl [.int i] (c_X7_procAt hR i) ok_X7_procAt ov_X7_procAt ml_X7_78 (hR.ob (ci := 7) (i := 0) (by decide) rfl) ⟨by decide, rfl⟩ rfl ⟨by decide, by decide⟩ rfl rfl (Nat.le_of_ble_eq_true rfl) rfl dX7_cancel_2 ?_
  rintro v h' ⟨⟨p, hp, e, rfl⟩ | ⟨e, rfl⟩, rfl⟩
  · skip
    refine G_astore_n 6 rfl (by decide) dX7_cancel_5 ?_
    refine G_aload_n 7 rfl rfl dX7_cancel_6 ?_
    refine G_ifnull 10 rfl dX7_cancel_7 ?_
    refine G_aload_n 11 rfl rfl dX7_cancel_10 ?_
    refine G_callV 14 rfl [] (c_X5_isOffering hR hp) ok_X5_isOffering ov_X5_isOffering ml_X7_82 (hR.ob (ci := 5) (i := p) (by decide) hp) ⟨by decide, rfl⟩ rfl ⟨by decide, by decide⟩ rfl rfl (Nat.le_of_ble_eq_true rfl) rfl dX7_cancel_11 ?_
    rintro v h' ⟨⟨hof, rfl⟩ | ⟨hof, rfl⟩, rfl⟩
    · skip
      refine G_ifF_eq 17 rfl (by decide) ⟨28, by decide⟩ dX7_cancel_14 ?_
      refine G_aload_n 18 rfl rfl dX7_cancel_17 ?_
      refine G_p1 21 rfl hR fl_X7_63 hp dX7_cancel_18 ?_
      refine G_gi 24 rfl hR 6 0 p 384 (σ.1 384 p) fl_X7_94 hp rfl rfl rfl rfl dX7_cancel_21 ?_
      refine G_iconst 25 rfl (1) (by decide) dX7_cancel_24 ?_
      refine G_icmp_eq 30 28 rfl (by decide) dX7_cancel_25 (fun c25 => ?_) (fun c25 => ?_)
      · skip
        refine G_aload_n 31 rfl rfl dX7_cancel_30 ?_
        refine G_aload_n 32 rfl rfl dX7_cancel_31 ?_
        refine G_iconst 33 rfl (5) (by decide) dX7_cancel_32 ?_
        refine G_callV 36 rfl [.ref (aP E p), .int 5] (c_X7_putOut hR hp 5) ok_X7_putOut ov_X7_putOut ml_X7_97 (hR.ob (ci := 7) (i := 0) (by decide) rfl) ⟨by decide, rfl⟩ rfl ⟨by decide, by decide⟩ rfl rfl (Nat.le_of_ble_eq_true rfl) rfl dX7_cancel_33 ?_
        rintro v h ⟨rfl, hR⟩
        refine G_aload_n 37 rfl rfl dX7_cancel_36 ?_
        refine G_callV 40 rfl [] (c_X5_isClaiming hR hp) ok_X5_isClaiming ov_X5_isClaiming ml_X7_101 (hR.ob (ci := 5) (i := p) (by decide) hp) ⟨by decide, rfl⟩ rfl ⟨by decide, by decide⟩ rfl rfl (Nat.le_of_ble_eq_true rfl) rfl dX7_cancel_37 ?_
        rintro v h' ⟨⟨hcm, rfl⟩ | ⟨hcm, rfl⟩, rfl⟩
        · skip
          refine G_ifT_ne 47 (by decide) (by decide) dX7_cancel_40 ?_
          refine G_iconst 48 rfl (1) (by decide) dX7_cancel_47 ?_
          refine G_iret (ty := .boolean) rfl (by decide) ?_ dX7_cancel_48
          rw [putO_f _ _ _ _ _ (by decide) (by decide) (by decide) (by decide) (by decide) (by decide)] at hcm
          refine Or.inl ⟨p, hp, e, hof, c25, rfl, ?_⟩
          unfold cncS
          rw [if_pos hcm]
          exact hR
        · skip
          refine G_ifF_ne 43 rfl (by decide) ⟨47, by decide⟩ dX7_cancel_40 ?_
          refine G_aload_n 44 rfl rfl dX7_cancel_43 ?_
          obtain ⟨w, hw, hwl⟩ := hwd p hp
          refine G_callV 47 rfl [] (c_X5_beginWithdraw hR hp (w := w) (by rw [putO_f _ _ _ _ _ (by decide) (by decide) (by decide) (by decide) (by decide) (by decide)]; exact hw) (by rw [show sPb (putO σ p 5) = sPb σ by unfold sPb; rw [putO_2]]; exact hwl)) ok_X5_beginWithdraw ov_X5_beginWithdraw ml_X7_104 (hR.ob (ci := 5) (i := p) (by decide) hp) ⟨by decide, rfl⟩ rfl ⟨by decide, by decide⟩ rfl rfl (Nat.le_of_ble_eq_true rfl) rfl dX7_cancel_44 ?_
          rintro v h ⟨rfl, hR⟩
          refine G_iconst 48 rfl (1) (by decide) dX7_cancel_47 ?_
          refine G_iret (ty := .boolean) rfl (by decide) ?_ dX7_cancel_48
          rw [putO_f _ _ _ _ _ (by decide) (by decide) (by decide) (by decide) (by decide) (by decide)] at hcm
          refine Or.inl ⟨p, hp, e, hof, c25, rfl, ?_⟩
          unfold cncS
          rw [if_neg hcm]
          exact hR
      · skip
        refine G_iconst 29 rfl (0) (by decide) dX7_cancel_28 ?_
        refine G_iret (ty := .boolean) rfl (by decide) ?_ dX7_cancel_29
        exact Or.inr ⟨by first | exact Or.inl e | exact Or.inr ⟨p, hp, e, Or.inl hof⟩ | exact Or.inr ⟨p, hp, e, Or.inr c25⟩, rfl, hR⟩
    · skip
      refine G_ifT_eq 28 (by decide) (by decide) dX7_cancel_14 ?_
      refine G_iconst 29 rfl (0) (by decide) dX7_cancel_28 ?_
      refine G_iret (ty := .boolean) rfl (by decide) ?_ dX7_cancel_29
      exact Or.inr ⟨by first | exact Or.inl e | exact Or.inr ⟨p, hp, e, Or.inl hof⟩ | exact Or.inr ⟨p, hp, e, Or.inr c25⟩, rfl, hR⟩
  · skip
    refine G_astore_nN 6 rfl (by decide) dX7_cancel_5 ?_
    refine G_aload_nN 7 rfl rfl dX7_cancel_6 ?_
    refine G_ifnullN 28 (by decide) dX7_cancel_7 ?_
    refine G_iconst 29 rfl (0) (by decide) dX7_cancel_28 ?_
    refine G_iret (ty := .boolean) rfl (by decide) ?_ dX7_cancel_29
    exact Or.inr ⟨by first | exact Or.inl e | exact Or.inr ⟨p, hp, e, Or.inl hof⟩ | exact Or.inr ⟨p, hp, e, Or.inr c25⟩, rfl, hR⟩

set_option maxHeartbeats 4000000 in
set_option maxRecDepth 100000 in
theorem c_X7_tick {E : Ev} {m : Nat} {σ : Sg} {τ : Tu} {h : Hp} (hR : RR E m σ τ h)  : Cn E mX7_tick (rk 0 0 0) h [.ref (aX E)] (fun v h' => v = some (.int (σ.1 451 0 + 1)) ∧ RR E m (up σ 451 0 (σ.1 451 0 + 1)) τ h') := by
  refine Cn_of (by decide) rfl (by simp [Value.category]) (Nat.le_of_ble_eq_true rfl) ?_
  refine G_aload_n 1 rfl rfl dX7_tick_0 ?_
  refine G_dup 2 rfl rfl dX7_tick_1 ?_
  refine G_gi 5 rfl hR 7 3 0 451 (σ.1 451 0) fl_X7_72 rfl rfl rfl rfl rfl dX7_tick_2 ?_
  refine G_iconst 6 rfl (1) (by decide) dX7_tick_5 ?_
  refine G_iadd 7 rfl dX7_tick_6 ?_
  refine G_pi 10 rfl hR 7 3 0 451 fl_X7_72 rfl rfl ⟨rfl, rfl⟩ rfl rfl dX7_tick_7 (fun h hR => ?_)
  refine G_aload_n 11 rfl rfl dX7_tick_10 ?_
  refine G_gi 14 rfl hR 7 3 0 451 ((σ.1 451 0) + 1) fl_X7_72 rfl rfl rfl rfl (by simp [up]) dX7_tick_11 ?_
  refine G_iret (ty := .int) rfl rfl ?_ dX7_tick_14
  exact ⟨rfl, hR⟩

set_option maxHeartbeats 4000000 in
set_option maxRecDepth 100000 in
theorem c_X7_phase {E : Ev} {m : Nat} {σ : Sg} {τ : Tu} {h : Hp} (hR : RR E m σ τ h) (i : Int32) : Cn E mX7_phase (rk 1 0 0) h [.ref (aX E), .int i] (fun v h' => ((∃ p, p < m ∧ i = nI p ∧ v = some (.int (σ.1 325 p))) ∨ ((i < 0 ∨ nI m ≤ i) ∧ v = some (.int (-1)))) ∧ h' = h) := by
  refine Cn_of (by decide) rfl (by simp [Value.category]) (Nat.le_of_ble_eq_true rfl) ?_
  refine G_aload_n 1 rfl rfl dX7_phase_0 ?_
  refine G_iload_n 2 rfl rfl dX7_phase_1 ?_
  refine G_callV 5 rfl [.int i] (c_X7_procAt hR i) ok_X7_procAt ov_X7_procAt ml_X7_78 (hR.ob (ci := 7) (i := 0) (by decide) rfl) ⟨by decide, rfl⟩ rfl ⟨by decide, by decide⟩ rfl rfl (Nat.le_of_ble_eq_true rfl) rfl dX7_phase_2 ?_
  rintro v h' ⟨⟨p, hp, e, rfl⟩ | ⟨e, rfl⟩, rfl⟩
  · skip
    refine G_astore_n 6 rfl (by decide) dX7_phase_5 ?_
    refine G_aload_n 7 rfl rfl dX7_phase_6 ?_
    refine G_ifnonnull 14 (by decide) dX7_phase_7 ?_
    refine G_aload_n 15 rfl rfl dX7_phase_14 ?_
    refine G_gi 18 rfl hR 5 5 p 325 (σ.1 325 p) fl_X7_48 hp rfl rfl rfl rfl dX7_phase_15 ?_
    refine G_iret (ty := .int) rfl rfl ?_ dX7_phase_18
    exact ⟨Or.inl ⟨p, hp, e, rfl⟩, rfl⟩
  · skip
    refine G_astore_nN 6 rfl (by decide) dX7_phase_5 ?_
    refine G_aload_nN 7 rfl rfl dX7_phase_6 ?_
    refine G_ifnonnullN 10 rfl dX7_phase_7 ?_
    refine G_iconst 11 rfl (-1) (by decide) dX7_phase_10 ?_
    refine G_goto 18 (by decide) dX7_phase_11 ?_
    refine G_iret (ty := .int) rfl rfl ?_ dX7_phase_18
    exact ⟨Or.inr ⟨e, rfl⟩, rfl⟩

set_option maxHeartbeats 4000000 in
set_option maxRecDepth 100000 in
theorem c_X7_word {E : Ev} {m : Nat} {σ : Sg} {τ : Tu} {h : Hp} (hR : RR E m σ τ h) (i : Int32) (k : Int32) : Cn E mX7_word (rk 1 0 0) h [.ref (aX E), .int i, .int k] (fun v h' => ((∃ p, p < m ∧ i = nI p ∧ v = some (.int (if k = 0 then σ.1 384 p else if k = 1 then σ.1 385 p else if k = 2 then σ.1 386 p else -1))) ∨ ((i < 0 ∨ nI m ≤ i) ∧ v = some (.int (-1)))) ∧ h' = h) := by
  refine Cn_of (by decide) rfl (by simp [Value.category]) (Nat.le_of_ble_eq_true rfl) ?_
  refine G_aload_n 1 rfl rfl dX7_word_0 ?_
  refine G_iload_n 2 rfl rfl dX7_word_1 ?_
  refine G_callV 5 rfl [.int i] (c_X7_procAt hR i) ok_X7_procAt ov_X7_procAt ml_X7_78 (hR.ob (ci := 7) (i := 0) (by decide) rfl) ⟨by decide, rfl⟩ rfl ⟨by decide, by decide⟩ rfl rfl (Nat.le_of_ble_eq_true rfl) rfl dX7_word_2 ?_
  rintro v h' ⟨⟨p, hp, e, rfl⟩ | ⟨e, rfl⟩, rfl⟩
  · skip
    refine G_astore_n 6 rfl (by decide) dX7_word_5 ?_
    refine G_aload_n 7 rfl rfl dX7_word_6 ?_
    refine G_ifnonnull 14 (by decide) dX7_word_7 ?_
    refine G_aload_n 15 rfl rfl dX7_word_14 ?_
    refine G_p1 18 rfl hR fl_X7_63 hp dX7_word_15 ?_
    refine G_iload_n 19 rfl rfl dX7_word_18 ?_
    refine G_callV 22 rfl [.int k] (c_X6_part hR hp k) ok_X6_part ov_X6_part ml_X7_114 (hR.ob (ci := 6) (i := p) (by decide) hp) ⟨by decide, rfl⟩ rfl ⟨by decide, by decide⟩ rfl rfl (Nat.le_of_ble_eq_true rfl) rfl dX7_word_19 ?_
    rintro v h' ⟨rfl, rfl⟩
    refine G_iret (ty := .int) rfl rfl ?_ dX7_word_22
    exact ⟨Or.inl ⟨p, hp, e, rfl⟩, rfl⟩
  · skip
    refine G_astore_nN 6 rfl (by decide) dX7_word_5 ?_
    refine G_aload_nN 7 rfl rfl dX7_word_6 ?_
    refine G_ifnonnullN 10 rfl dX7_word_7 ?_
    refine G_iconst 11 rfl (-1) (by decide) dX7_word_10 ?_
    refine G_goto 22 (by decide) dX7_word_11 ?_
    refine G_iret (ty := .int) rfl rfl ?_ dX7_word_22
    exact ⟨Or.inr ⟨e, rfl⟩, rfl⟩

set_option maxHeartbeats 4000000 in
set_option maxRecDepth 100000 in
theorem c_X7_outcome {E : Ev} {m : Nat} {σ : Sg} {τ : Tu} {h : Hp} (hR : RR E m σ τ h) (i : Int32) (k : Int32) : Cn E mX7_outcome (rk 1 0 0) h [.ref (aX E), .int i, .int k] (fun v h' => ((∃ p, p < m ∧ i = nI p ∧ v = some (.int (if σ.1 192 p = 0 then -1 else if k = 0 then σ.1 193 p else if k = 1 then σ.1 194 p else if k = 2 then σ.1 195 p else if k = 3 then σ.1 196 p else -1))) ∨ ((i < 0 ∨ nI m ≤ i) ∧ v = some (.int (-1)))) ∧ h' = h) := by
  refine Cn_of (by decide) rfl (by simp [Value.category]) (Nat.le_of_ble_eq_true rfl) ?_
  refine G_aload_n 1 rfl rfl dX7_outcome_0 ?_
  refine G_iload_n 2 rfl rfl dX7_outcome_1 ?_
  refine G_callV 5 rfl [.int i] (c_X7_procAt hR i) ok_X7_procAt ov_X7_procAt ml_X7_78 (hR.ob (ci := 7) (i := 0) (by decide) rfl) ⟨by decide, rfl⟩ rfl ⟨by decide, by decide⟩ rfl rfl (Nat.le_of_ble_eq_true rfl) rfl dX7_outcome_2 ?_
  rintro v h' ⟨⟨p, hp, e, rfl⟩ | ⟨e, rfl⟩, rfl⟩
  · skip
    refine G_astore_n 6 rfl (by decide) dX7_outcome_5 ?_
    refine G_aload_n 7 rfl rfl dX7_outcome_6 ?_
    refine G_ifnonnull 14 (by decide) dX7_outcome_7 ?_
    refine G_aload_n 15 rfl rfl dX7_outcome_14 ?_
    refine G_p2 18 rfl hR fl_X7_118 hp dX7_outcome_15 ?_
    refine G_iload_n 19 rfl rfl dX7_outcome_18 ?_
    refine G_callV 22 rfl [.int k] (c_X3_part hR hp k) ok_X3_part ov_X3_part ml_X7_122 (hR.ob (ci := 3) (i := p) (by decide) hp) ⟨by decide, rfl⟩ rfl ⟨by decide, by decide⟩ rfl rfl (Nat.le_of_ble_eq_true rfl) rfl dX7_outcome_19 ?_
    rintro v h' ⟨rfl, rfl⟩
    refine G_iret (ty := .int) rfl rfl ?_ dX7_outcome_22
    exact ⟨Or.inl ⟨p, hp, e, rfl⟩, rfl⟩
  · skip
    refine G_astore_nN 6 rfl (by decide) dX7_outcome_5 ?_
    refine G_aload_nN 7 rfl rfl dX7_outcome_6 ?_
    refine G_ifnonnullN 10 rfl dX7_outcome_7 ?_
    refine G_iconst 11 rfl (-1) (by decide) dX7_outcome_10 ?_
    refine G_goto 22 (by decide) dX7_outcome_11 ?_
    refine G_iret (ty := .int) rfl rfl ?_ dX7_outcome_22
    exact ⟨Or.inr ⟨e, rfl⟩, rfl⟩

set_option maxHeartbeats 4000000 in
set_option maxRecDepth 100000 in
theorem c_X7_entry {E : Ev} {m : Nat} {σ : Sg} {τ : Tu} {h : Hp} (hR : RR E m σ τ h) (b i k : Int32) (hv : ∀ c, c < 8 → ∀ n ∈ sLs σ c, 1 ≤ n ∧ n ≤ sNp σ) : Cn E mX7_entry (rk 1 0 0) h [.ref (aX E), .int b, .int i, .int k] (fun v h' => ((∃ c j n, c < 8 ∧ b = nI c ∧ i = nI j ∧ (sLs σ c)[j]? = some n ∧ v = some (.int (if k = 0 then σ.1 0 n else if k = 1 then σ.1 2 n else if k = 2 then σ.1 4 n else if k = 3 then nI n else if k = 4 then σ.1 1 n else -1))) ∨ (((b < 0 ∨ nI 8 ≤ b) ∨ ∃ c, c < 8 ∧ b = nI c ∧ (i < 0 ∨ nI (sLs σ c).length ≤ i)) ∧ v = some (.int (-1)))) ∧ h' = h) := by
  refine Cn_of (by decide) rfl (by simp [Value.category]) (Nat.le_of_ble_eq_true rfl) ?_
  refine G_aload_n 1 rfl rfl dX7_entry_0 ?_
  refine G_iload_n 2 rfl rfl dX7_entry_1 ?_
  refine G_callV 5 rfl [.int b] (c_X7_listAt hR b) ok_X7_listAt ov_X7_listAt ml_X7_52 (hR.ob (ci := 7) (i := 0) (by decide) rfl) ⟨by decide, rfl⟩ rfl ⟨by decide, by decide⟩ rfl rfl (Nat.le_of_ble_eq_true rfl) rfl dX7_entry_2 ?_
  rintro v h' ⟨⟨c, hc, e, rfl⟩ | ⟨e, rfl⟩, rfl⟩
  · skip
    refine G_astore 7 rfl (by decide) dX7_entry_5 ?_
    refine G_aload 9 rfl rfl dX7_entry_7 ?_
    refine G_ifnonnull 16 (by decide) dX7_entry_9 ?_
    refine G_aload 18 rfl rfl dX7_entry_16 ?_
    refine G_iload_n 19 rfl rfl dX7_entry_18 ?_
    refine G_callV 22 rfl [.int i] (c_X1_at hR hc i) ok_X1_at ov_X1_at ml_X7_125 (hR.ob (ci := 1) (i := c) (by decide) hc) ⟨by decide, rfl⟩ rfl ⟨by decide, by decide⟩ rfl rfl (Nat.le_of_ble_eq_true rfl) rfl dX7_entry_19 ?_
    rintro v h' ⟨⟨j, n, e2, hj, rfl⟩ | ⟨e2, rfl⟩, rfl⟩
    · skip
      refine G_astore 24 rfl (by decide) dX7_entry_22 ?_
      refine G_aload 26 rfl rfl dX7_entry_24 ?_
      refine G_ifnonnull 33 (by decide) dX7_entry_26 ?_
      refine G_aload 35 rfl rfl dX7_entry_33 ?_
      refine G_iload_n 36 rfl rfl dX7_entry_35 ?_
      refine G_callV 39 rfl [.int k] (c_X0_part hR (hv c hc n (List.mem_of_getElem? hj)) k) ok_X0_part ov_X0_part ml_X7_129 (hR.ob (ci := 0) (i := n) (by decide) (hv c hc n (List.mem_of_getElem? hj))) ⟨by decide, rfl⟩ rfl ⟨by decide, by decide⟩ rfl rfl (Nat.le_of_ble_eq_true rfl) rfl dX7_entry_36 ?_
      rintro v h' ⟨rfl, rfl⟩
      refine G_iret (ty := .int) rfl rfl ?_ dX7_entry_39
      exact ⟨Or.inl ⟨c, j, n, hc, e, e2, hj, rfl⟩, rfl⟩
    · skip
      refine G_astoreN 24 rfl (by decide) dX7_entry_22 ?_
      refine G_aloadN 26 rfl rfl dX7_entry_24 ?_
      refine G_ifnonnullN 29 rfl dX7_entry_26 ?_
      refine G_iconst 30 rfl (-1) (by decide) dX7_entry_29 ?_
      refine G_goto 39 (by decide) dX7_entry_30 ?_
      refine G_iret (ty := .int) rfl rfl ?_ dX7_entry_39
      exact ⟨Or.inr ⟨by first | exact Or.inl e | exact Or.inr ⟨c, hc, e, e2⟩, rfl⟩, rfl⟩
  · skip
    refine G_astoreN 7 rfl (by decide) dX7_entry_5 ?_
    refine G_aloadN 9 rfl rfl dX7_entry_7 ?_
    refine G_ifnonnullN 12 rfl dX7_entry_9 ?_
    refine G_null 13 rfl dX7_entry_12 ?_
    refine G_goto 22 (by decide) dX7_entry_13 ?_
    refine G_astoreN 24 rfl (by decide) dX7_entry_22 ?_
    refine G_aloadN 26 rfl rfl dX7_entry_24 ?_
    refine G_ifnonnullN 29 rfl dX7_entry_26 ?_
    refine G_iconst 30 rfl (-1) (by decide) dX7_entry_29 ?_
    refine G_goto 39 (by decide) dX7_entry_30 ?_
    refine G_iret (ty := .int) rfl rfl ?_ dX7_entry_39
    exact ⟨Or.inr ⟨by first | exact Or.inl e | exact Or.inr ⟨c, hc, e, e2⟩, rfl⟩, rfl⟩

set_option maxHeartbeats 4000000 in
set_option maxRecDepth 100000 in
theorem c_X4_part {E : Ev} {m : Nat} {σ : Sg} {τ : Tu} {h : Hp} (hR : RR E m σ τ h) (i k : Int32) {z : Nat} (hz : σ.1 257 0 = nI z) (hzb : z < 2 ^ 30) : Cn E mX4_part (rk 0 0 0) h [.ref (aPL E m), .int i, .int k] (fun v h' => ((∃ a b, a < 200 ∧ a < z ∧ b < 8 ∧ i = nI a ∧ k = nI b ∧ v = some (.int (σ.1 900 (a * 8 + b)))) ∨ (¬ (∃ a b, a < 200 ∧ a < z ∧ b < 8 ∧ i = nI a ∧ k = nI b) ∧ v = some (.int (-1)))) ∧ h' = h) := by
  refine Cn_of (by decide) rfl (by simp [Value.category]) (Nat.le_of_ble_eq_true rfl) ?_
  refine G_iload_n 1 rfl rfl dX4_part_0 ?_
  refine G_if_lt 29 4 rfl (by decide) dX4_part_1 (fun c1 => ?_) (fun c1 => ?_)
  · skip
    refine G_iconst 30 rfl (-1) (by decide) dX4_part_29 ?_
    refine G_iret (ty := .int) rfl rfl ?_ dX4_part_30
    exact ⟨Or.inr ⟨fun ⟨a, b, z1, z2, z3, z4, z5⟩ => by
      first
      | exact absurd c1 (by rw [z4]; exact nI_pos (by omega))
      | exact absurd c9 (by rw [z4]; exact nI_ge z2 (by omega))
      | exact absurd c16 (by rw [z4]; exact nI_ge (b := 200) z1 (by omega))
      | exact absurd c20 (by rw [z5]; exact nI_pos (by omega))
      | exact absurd (show k < 8 by rw [z5]; exact nI_lt (b := 8) z3 (by omega)) c26, rfl⟩, rfl⟩
  · skip
    refine G_iload_n 5 rfl rfl dX4_part_4 ?_
    refine G_aload_n 6 rfl rfl dX4_part_5 ?_
    refine G_gi 9 rfl hR 4 1 0 257 (σ.1 257 0) fl_X4_15 rfl rfl rfl rfl rfl dX4_part_6 ?_
    rw [hz]
    refine G_icmp_ge 29 12 rfl (by decide) dX4_part_9 (fun c9 => ?_) (fun c9 => ?_)
    · skip
      refine G_iconst 30 rfl (-1) (by decide) dX4_part_29 ?_
      refine G_iret (ty := .int) rfl rfl ?_ dX4_part_30
      exact ⟨Or.inr ⟨fun ⟨a, b, z1, z2, z3, z4, z5⟩ => by
        first
        | exact absurd c1 (by rw [z4]; exact nI_pos (by omega))
        | exact absurd c9 (by rw [z4]; exact nI_ge z2 (by omega))
        | exact absurd c16 (by rw [z4]; exact nI_ge (b := 200) z1 (by omega))
        | exact absurd c20 (by rw [z5]; exact nI_pos (by omega))
        | exact absurd (show k < 8 by rw [z5]; exact nI_lt (b := 8) z3 (by omega)) c26, rfl⟩, rfl⟩
    · skip
      refine G_iload_n 13 rfl rfl dX4_part_12 ?_
      refine G_sipush 16 rfl (200) (by decide) dX4_part_13 ?_
      refine G_icmp_ge 29 19 rfl (by decide) dX4_part_16 (fun c16 => ?_) (fun c16 => ?_)
      · skip
        refine G_iconst 30 rfl (-1) (by decide) dX4_part_29 ?_
        refine G_iret (ty := .int) rfl rfl ?_ dX4_part_30
        exact ⟨Or.inr ⟨fun ⟨a, b, z1, z2, z3, z4, z5⟩ => by
          first
          | exact absurd c1 (by rw [z4]; exact nI_pos (by omega))
          | exact absurd c9 (by rw [z4]; exact nI_ge z2 (by omega))
          | exact absurd c16 (by rw [z4]; exact nI_ge (b := 200) z1 (by omega))
          | exact absurd c20 (by rw [z5]; exact nI_pos (by omega))
          | exact absurd (show k < 8 by rw [z5]; exact nI_lt (b := 8) z3 (by omega)) c26, rfl⟩, rfl⟩
      · skip
        refine G_iload_n 20 rfl rfl dX4_part_19 ?_
        refine G_if_lt 29 23 rfl (by decide) dX4_part_20 (fun c20 => ?_) (fun c20 => ?_)
        · skip
          refine G_iconst 30 rfl (-1) (by decide) dX4_part_29 ?_
          refine G_iret (ty := .int) rfl rfl ?_ dX4_part_30
          exact ⟨Or.inr ⟨fun ⟨a, b, z1, z2, z3, z4, z5⟩ => by
            first
            | exact absurd c1 (by rw [z4]; exact nI_pos (by omega))
            | exact absurd c9 (by rw [z4]; exact nI_ge z2 (by omega))
            | exact absurd c16 (by rw [z4]; exact nI_ge (b := 200) z1 (by omega))
            | exact absurd c20 (by rw [z5]; exact nI_pos (by omega))
            | exact absurd (show k < 8 by rw [z5]; exact nI_lt (b := 8) z3 (by omega)) c26, rfl⟩, rfl⟩
        · skip
          refine G_iload_n 24 rfl rfl dX4_part_23 ?_
          refine G_bipush 26 rfl (8) (by decide) dX4_part_24 ?_
          refine G_icmp_lt 31 29 rfl (by decide) dX4_part_26 (fun c26 => ?_) (fun c26 => ?_)
          · skip
            refine G_aload_n 32 rfl rfl dX4_part_31 ?_
            refine G_g0 35 rfl hR fl_X4_9 dX4_part_32 ?_
            refine G_iload_n 36 rfl rfl dX4_part_35 ?_
            refine G_bipush 38 rfl (8) (by decide) dX4_part_36 ?_
            refine G_imul 39 rfl dX4_part_38 ?_
            refine G_iload_n 40 rfl rfl dX4_part_39 ?_
            refine G_iadd 41 rfl dX4_part_40 ?_
            obtain ⟨a, ha, ea⟩ := ix_of (n := 200) (by omega) c1 c16
            obtain ⟨b, hb, eb⟩ := ix_of (n := 8) (by omega) c20 (fun q => absurd c26 (fun z => by rw [Int32.lt_iff_toInt_lt] at z; rw [Int32.le_iff_toInt_le] at q; have : (nI 8).toInt = (8 : Int32).toInt := rfl; omega))
            refine G_ppGet 42 rfl hR (j := a * 8 + b) (by rw [ea, eb]; exact e8 a b) (by omega) dX4_part_41 ?_
            refine G_iret (ty := .int) rfl rfl ?_ dX4_part_42
            exact ⟨Or.inl ⟨a, b, ha, by
              by_cases q : a < z
              · exact q
              · exact absurd (by rw [ea]; exact nI_le (by omega) (by omega)) c9, hb, ea, eb, rfl⟩, rfl⟩
          · skip
            refine G_iconst 30 rfl (-1) (by decide) dX4_part_29 ?_
            refine G_iret (ty := .int) rfl rfl ?_ dX4_part_30
            exact ⟨Or.inr ⟨fun ⟨a, b, z1, z2, z3, z4, z5⟩ => by
              first
              | exact absurd c1 (by rw [z4]; exact nI_pos (by omega))
              | exact absurd c9 (by rw [z4]; exact nI_ge z2 (by omega))
              | exact absurd c16 (by rw [z4]; exact nI_ge (b := 200) z1 (by omega))
              | exact absurd c20 (by rw [z5]; exact nI_pos (by omega))
              | exact absurd (show k < 8 by rw [z5]; exact nI_lt (b := 8) z3 (by omega)) c26, rfl⟩, rfl⟩

set_option maxHeartbeats 4000000 in
set_option maxRecDepth 100000 in
theorem c_X7_pair {E : Ev} {m : Nat} {σ : Sg} {τ : Tu} {h : Hp} (hR : RR E m σ τ h) (i k : Int32) {z : Nat} (hz : σ.1 257 0 = nI z) (hzb : z < 2 ^ 30) : Cn E mX7_pair (rk 1 0 0) h [.ref (aX E), .int i, .int k] (fun v h' => ((∃ a b, a < 200 ∧ a < z ∧ b < 8 ∧ i = nI a ∧ k = nI b ∧ v = some (.int (σ.1 900 (a * 8 + b)))) ∨ (¬ (∃ a b, a < 200 ∧ a < z ∧ b < 8 ∧ i = nI a ∧ k = nI b) ∧ v = some (.int (-1)))) ∧ h' = h) := by
  refine Cn_of (by decide) rfl (by simp [Value.category]) (Nat.le_of_ble_eq_true rfl) ?_
  refine G_aload_n 1 rfl rfl dX7_pair_0 ?_
  refine G_x2 4 rfl hR fl_X7_37 dX7_pair_1 ?_
  refine G_iload_n 5 rfl rfl dX7_pair_4 ?_
  refine G_iload_n 6 rfl rfl dX7_pair_5 ?_
  refine G_callV 9 rfl [.int i, .int k] (c_X4_part hR i k hz hzb) ok_X4_part ov_X4_part ml_X7_132 (hR.ob (ci := 4) (i := 0) (by decide) rfl) ⟨by decide, rfl⟩ rfl ⟨by decide, by decide⟩ rfl rfl (Nat.le_of_ble_eq_true rfl) rfl dX7_pair_6 ?_
  rintro v h' ⟨⟨a, b, z1, z2, z3, z4, z5, rfl⟩ | ⟨zn, rfl⟩, rfl⟩
  · skip
    refine G_iret (ty := .int) rfl rfl ?_ dX7_pair_9
    exact ⟨Or.inl ⟨a, b, z1, z2, z3, z4, z5, rfl⟩, rfl⟩
  · skip
    refine G_iret (ty := .int) rfl rfl ?_ dX7_pair_9
    exact ⟨Or.inr ⟨zn, rfl⟩, rfl⟩

set_option maxHeartbeats 4000000 in
set_option maxRecDepth 100000 in
theorem c_X7_doubles {E : Ev} {m : Nat} {σ : Sg} {τ : Tu} {h : Hp} (hR : RR E m σ τ h)  : Cn E mX7_doubles (rk 0 0 0) h [.ref (aX E)] (fun v h' => v = some (.int (σ.1 456 0)) ∧ h' = h) := by
  refine Cn_of (by decide) rfl (by simp [Value.category]) (Nat.le_of_ble_eq_true rfl) ?_
  refine G_aload_n 1 rfl rfl dX7_doubles_0 ?_
  refine G_gi 4 rfl hR 7 8 0 456 (σ.1 456 0) fl_X7_134 rfl rfl rfl rfl rfl dX7_doubles_1 ?_
  refine G_iret (ty := .int) rfl rfl ?_ dX7_doubles_4
  exact ⟨rfl, rfl⟩

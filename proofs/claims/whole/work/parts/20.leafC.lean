set_option maxHeartbeats 4000000 in
set_option maxRecDepth 100000 in
theorem c_X6_become {E : Ev} {m : Nat} {σ : Sg} {τ : Tu} {h : Hp} (hR : RR E m σ τ h) {p : Nat} (hp : p < m) (k : Int32) : Cn E mX6_become (rk 0 0 0) h [.ref (aW E p), .int k] (fun v h' => v = none ∧ RR E m (up (up σ 384 p k) 386 p (-1)) τ h') := by
  refine Cn_of (by decide) rfl (by simp [Value.category]) (Nat.le_of_ble_eq_true rfl) ?_
  refine G_aload_n 1 rfl rfl dX6_become_0 ?_
  refine G_iload_n 2 rfl rfl dX6_become_1 ?_
  refine G_pi 5 rfl hR 6 0 p 384 fl_X6_9 hp rfl ⟨rfl, rfl⟩ rfl rfl dX6_become_2 (fun h hR => ?_)
  refine G_aload_n 6 rfl rfl dX6_become_5 ?_
  refine G_iconst 7 rfl (-1) (by decide) dX6_become_6 ?_
  refine G_pi 10 rfl hR 6 2 p 386 fl_X6_15 hp rfl ⟨rfl, rfl⟩ rfl rfl dX6_become_7 (fun h hR => ?_)
  refine G_ret rfl ?_ dX6_become_10
  exact ⟨rfl, hR⟩

set_option maxHeartbeats 4000000 in
set_option maxRecDepth 100000 in
theorem c_X6_claimFor {E : Ev} {m : Nat} {σ : Sg} {τ : Tu} {h : Hp} (hR : RR E m σ τ h) {p : Nat} (hp : p < m) (k : Int32) : Cn E mX6_claimFor (rk 0 0 0) h [.ref (aW E p), .int k] (fun v h' => v = none ∧ RR E m (up (up σ 384 p 2) 386 p k) τ h') := by
  refine Cn_of (by decide) rfl (by simp [Value.category]) (Nat.le_of_ble_eq_true rfl) ?_
  refine G_aload_n 1 rfl rfl dX6_claimFor_0 ?_
  refine G_iconst 2 rfl (2) (by decide) dX6_claimFor_1 ?_
  refine G_pi 5 rfl hR 6 0 p 384 fl_X6_9 hp rfl ⟨rfl, rfl⟩ rfl rfl dX6_claimFor_2 (fun h hR => ?_)
  refine G_aload_n 6 rfl rfl dX6_claimFor_5 ?_
  refine G_iload_n 7 rfl rfl dX6_claimFor_6 ?_
  refine G_pi 10 rfl hR 6 2 p 386 fl_X6_15 hp rfl ⟨rfl, rfl⟩ rfl rfl dX6_claimFor_7 (fun h hR => ?_)
  refine G_ret rfl ?_ dX6_claimFor_10
  exact ⟨rfl, hR⟩

set_option maxHeartbeats 4000000 in
set_option maxRecDepth 100000 in
theorem c_X6_isAt {E : Ev} {m : Nat} {σ : Sg} {τ : Tu} {h : Hp} (hR : RR E m σ τ h) {p : Nat} (hp : p < m) (k n : Int32) : Cn E mX6_isAt (rk 0 0 0) h [.ref (aW E p), .int k, .int n] (fun v h' => ((σ.1 384 p = k ∧ σ.1 385 p = n) ∧ v = some (.int 1) ∨ ¬ (σ.1 384 p = k ∧ σ.1 385 p = n) ∧ v = some (.int 0)) ∧ h' = h) := by
  refine Cn_of (by decide) rfl (by simp [Value.category]) (Nat.le_of_ble_eq_true rfl) ?_
  refine G_aload_n 1 rfl rfl dX6_isAt_0 ?_
  refine G_gi 4 rfl hR 6 0 p 384 (σ.1 384 p) fl_X6_9 hp rfl rfl rfl rfl dX6_isAt_1 ?_
  refine G_iload_n 5 rfl rfl dX6_isAt_4 ?_
  refine G_icmp_ne 20 8 rfl (by decide) dX6_isAt_5 (fun c5 => ?_) (fun c5 => ?_)
  · skip
    refine G_iconst 21 rfl (0) (by decide) dX6_isAt_20 ?_
    refine G_iret (ty := .boolean) rfl (by decide) ?_ dX6_isAt_21
    exact ⟨Or.inr ⟨by first | omega | simp_all | (simp_all; omega), rfl⟩, rfl⟩
  · skip
    refine G_aload_n 9 rfl rfl dX6_isAt_8 ?_
    refine G_gi 12 rfl hR 6 1 p 385 (σ.1 385 p) fl_X6_18 hp rfl rfl rfl rfl dX6_isAt_9 ?_
    refine G_iload_n 13 rfl rfl dX6_isAt_12 ?_
    refine G_icmp_ne 20 16 rfl (by decide) dX6_isAt_13 (fun c13 => ?_) (fun c13 => ?_)
    · skip
      refine G_iconst 21 rfl (0) (by decide) dX6_isAt_20 ?_
      refine G_iret (ty := .boolean) rfl (by decide) ?_ dX6_isAt_21
      exact ⟨Or.inr ⟨by first | omega | simp_all | (simp_all; omega), rfl⟩, rfl⟩
    · skip
      refine G_iconst 17 rfl (1) (by decide) dX6_isAt_16 ?_
      refine G_goto 21 (by decide) dX6_isAt_17 ?_
      refine G_iret (ty := .boolean) rfl (by decide) ?_ dX6_isAt_21
      exact ⟨Or.inl ⟨by first | omega | simp_all | (simp_all; omega), rfl⟩, rfl⟩

set_option maxHeartbeats 4000000 in
set_option maxRecDepth 100000 in
theorem c_X6_isSettled {E : Ev} {m : Nat} {σ : Sg} {τ : Tu} {h : Hp} (hR : RR E m σ τ h) {p : Nat} (hp : p < m) : Cn E mX6_isSettled (rk 0 0 0) h [.ref (aW E p)] (fun v h' => ((σ.1 384 p = 3 ∨ σ.1 384 p = 4) ∧ v = some (.int 1) ∨ ¬ (σ.1 384 p = 3 ∨ σ.1 384 p = 4) ∧ v = some (.int 0)) ∧ h' = h) := by
  refine Cn_of (by decide) rfl (by simp [Value.category]) (Nat.le_of_ble_eq_true rfl) ?_
  refine G_aload_n 1 rfl rfl dX6_isSettled_0 ?_
  refine G_gi 4 rfl hR 6 0 p 384 (σ.1 384 p) fl_X6_9 hp rfl rfl rfl rfl dX6_isSettled_1 ?_
  refine G_iconst 5 rfl (3) (by decide) dX6_isSettled_4 ?_
  refine G_icmp_eq 16 8 rfl (by decide) dX6_isSettled_5 (fun c5 => ?_) (fun c5 => ?_)
  · skip
    refine G_iconst 17 rfl (1) (by decide) dX6_isSettled_16 ?_
    refine G_goto 21 (by decide) dX6_isSettled_17 ?_
    refine G_iret (ty := .boolean) rfl (by decide) ?_ dX6_isSettled_21
    exact ⟨Or.inl ⟨by first | omega | simp_all | (simp_all; omega), rfl⟩, rfl⟩
  · skip
    refine G_aload_n 9 rfl rfl dX6_isSettled_8 ?_
    refine G_gi 12 rfl hR 6 0 p 384 (σ.1 384 p) fl_X6_9 hp rfl rfl rfl rfl dX6_isSettled_9 ?_
    refine G_iconst 13 rfl (4) (by decide) dX6_isSettled_12 ?_
    refine G_icmp_ne 20 16 rfl (by decide) dX6_isSettled_13 (fun c13 => ?_) (fun c13 => ?_)
    · skip
      refine G_iconst 21 rfl (0) (by decide) dX6_isSettled_20 ?_
      refine G_iret (ty := .boolean) rfl (by decide) ?_ dX6_isSettled_21
      exact ⟨Or.inr ⟨by first | omega | simp_all | (simp_all; omega), rfl⟩, rfl⟩
    · skip
      refine G_iconst 17 rfl (1) (by decide) dX6_isSettled_16 ?_
      refine G_goto 21 (by decide) dX6_isSettled_17 ?_
      refine G_iret (ty := .boolean) rfl (by decide) ?_ dX6_isSettled_21
      exact ⟨Or.inl ⟨by first | omega | simp_all | (simp_all; omega), rfl⟩, rfl⟩

set_option maxHeartbeats 4000000 in
set_option maxRecDepth 100000 in
theorem c_X6_part {E : Ev} {m : Nat} {σ : Sg} {τ : Tu} {h : Hp} (hR : RR E m σ τ h) {p : Nat} (hp : p < m) (k : Int32) : Cn E mX6_part (rk 0 0 0) h [.ref (aW E p), .int k] (fun v h' => v = some (.int (if k = 0 then σ.1 384 p else if k = 1 then σ.1 385 p else if k = 2 then σ.1 386 p else -1)) ∧ h' = h) := by
  refine Cn_of (by decide) rfl (by simp [Value.category]) (Nat.le_of_ble_eq_true rfl) ?_
  refine G_iload_n 1 rfl rfl dX6_part_0 ?_
  by_cases k1_0 : k = 0
  · refine G_tableIn 28 dX6_part_1 (by rw [k1_0]; decide) (by rw [k1_0]; decide) (off := 27) (by rw [k1_0]; rfl) (by decide) ?_
    refine G_aload_n 29 rfl rfl dX6_part_28 ?_
    refine G_gi 32 rfl hR 6 0 p 384 (σ.1 384 p) fl_X6_9 hp rfl rfl rfl rfl dX6_part_29 ?_
    refine G_iret (ty := .int) rfl rfl ?_ dX6_part_32
    exact ⟨by simp_all, rfl⟩
  · skip
    by_cases k1_1 : k = 1
    · refine G_tableIn 33 dX6_part_1 (by rw [k1_1]; decide) (by rw [k1_1]; decide) (off := 32) (by rw [k1_1]; rfl) (by decide) ?_
      refine G_aload_n 34 rfl rfl dX6_part_33 ?_
      refine G_gi 37 rfl hR 6 1 p 385 (σ.1 385 p) fl_X6_18 hp rfl rfl rfl rfl dX6_part_34 ?_
      refine G_iret (ty := .int) rfl rfl ?_ dX6_part_37
      exact ⟨by simp_all, rfl⟩
    · skip
      by_cases k1_2 : k = 2
      · refine G_tableIn 38 dX6_part_1 (by rw [k1_2]; decide) (by rw [k1_2]; decide) (off := 37) (by rw [k1_2]; rfl) (by decide) ?_
        refine G_aload_n 39 rfl rfl dX6_part_38 ?_
        refine G_gi 42 rfl hR 6 2 p 386 (σ.1 386 p) fl_X6_15 hp rfl rfl rfl rfl dX6_part_39 ?_
        refine G_iret (ty := .int) rfl rfl ?_ dX6_part_42
        exact ⟨by simp_all, rfl⟩
      · skip
        refine G_tableOut 43 dX6_part_1 (tb_out (n := 2) (by decide) (fun j hj => by rcases j with _ | _ | _ | j; exact k1_0; exact k1_1; exact k1_2; omega)) (by decide) ?_
        refine G_iconst 44 rfl (-1) (by decide) dX6_part_43 ?_
        refine G_iret (ty := .int) rfl rfl ?_ dX6_part_44
        exact ⟨by simp_all, rfl⟩

set_option maxHeartbeats 4000000 in
set_option maxRecDepth 100000 in
theorem c_X3_set {E : Ev} {m : Nat} {σ : Sg} {τ : Tu} {h : Hp} (hR : RR E m σ τ h) {p : Nat} (hp : p < m) (a b c d : Int32) : Cn E mX3_set (rk 0 0 0) h [.ref (aT E p), .int a, .int b, .int c, .int d] (fun v h' => v = none ∧ RR E m (up (up (up (up (up σ 192 p 1) 193 p a) 194 p b) 195 p c) 196 p d) τ h') := by
  refine Cn_of (by decide) rfl (by simp [Value.category]) (Nat.le_of_ble_eq_true rfl) ?_
  refine G_aload_n 1 rfl rfl dX3_set_0 ?_
  refine G_iconst 2 rfl (1) (by decide) dX3_set_1 ?_
  refine G_pz 5 rfl hR 3 0 p 192 fl_X3_9 hp rfl ⟨rfl, rfl⟩ (by decide) rfl rfl dX3_set_2 (fun h hR => ?_)
  refine G_aload_n 6 rfl rfl dX3_set_5 ?_
  refine G_iload_n 7 rfl rfl dX3_set_6 ?_
  refine G_pi 10 rfl hR 3 1 p 193 fl_X3_15 hp rfl ⟨rfl, rfl⟩ rfl rfl dX3_set_7 (fun h hR => ?_)
  refine G_aload_n 11 rfl rfl dX3_set_10 ?_
  refine G_iload_n 12 rfl rfl dX3_set_11 ?_
  refine G_pi 15 rfl hR 3 2 p 194 fl_X3_19 hp rfl ⟨rfl, rfl⟩ rfl rfl dX3_set_12 (fun h hR => ?_)
  refine G_aload_n 16 rfl rfl dX3_set_15 ?_
  refine G_iload_n 17 rfl rfl dX3_set_16 ?_
  refine G_pi 20 rfl hR 3 3 p 195 fl_X3_22 hp rfl ⟨rfl, rfl⟩ rfl rfl dX3_set_17 (fun h hR => ?_)
  refine G_aload_n 21 rfl rfl dX3_set_20 ?_
  refine G_iload 23 rfl rfl dX3_set_21 ?_
  refine G_pi 26 rfl hR 3 4 p 196 fl_X3_25 hp rfl ⟨rfl, rfl⟩ rfl rfl dX3_set_23 (fun h hR => ?_)
  refine G_ret rfl ?_ dX3_set_26
  exact ⟨rfl, hR⟩

set_option maxHeartbeats 4000000 in
set_option maxRecDepth 100000 in
theorem c_X3_part {E : Ev} {m : Nat} {σ : Sg} {τ : Tu} {h : Hp} (hR : RR E m σ τ h) {p : Nat} (hp : p < m) (k : Int32) : Cn E mX3_part (rk 0 0 0) h [.ref (aT E p), .int k] (fun v h' => v = some (.int (if σ.1 192 p = 0 then -1 else if k = 0 then σ.1 193 p else if k = 1 then σ.1 194 p else if k = 2 then σ.1 195 p else if k = 3 then σ.1 196 p else -1)) ∧ h' = h) := by
  refine Cn_of (by decide) rfl (by simp [Value.category]) (Nat.le_of_ble_eq_true rfl) ?_
  refine G_aload_n 1 rfl rfl dX3_part_0 ?_
  refine G_gi 4 rfl hR 3 0 p 192 (σ.1 192 p) fl_X3_9 hp rfl rfl rfl rfl dX3_part_1 ?_
  refine G_if_ne 9 7 rfl (by decide) dX3_part_4 (fun c4 => ?_) (fun c4 => ?_)
  · skip
    refine G_iload_n 10 rfl rfl dX3_part_9 ?_
    by_cases k10_0 : k = 0
    · refine G_tableIn 40 dX3_part_10 (by rw [k10_0]; decide) (by rw [k10_0]; decide) (off := 30) (by rw [k10_0]; rfl) (by decide) ?_
      refine G_aload_n 41 rfl rfl dX3_part_40 ?_
      refine G_gi 44 rfl hR 3 1 p 193 (σ.1 193 p) fl_X3_15 hp rfl rfl rfl rfl dX3_part_41 ?_
      refine G_iret (ty := .int) rfl rfl ?_ dX3_part_44
      exact ⟨by simp_all, rfl⟩
    · skip
      by_cases k10_1 : k = 1
      · refine G_tableIn 45 dX3_part_10 (by rw [k10_1]; decide) (by rw [k10_1]; decide) (off := 35) (by rw [k10_1]; rfl) (by decide) ?_
        refine G_aload_n 46 rfl rfl dX3_part_45 ?_
        refine G_gi 49 rfl hR 3 2 p 194 (σ.1 194 p) fl_X3_19 hp rfl rfl rfl rfl dX3_part_46 ?_
        refine G_iret (ty := .int) rfl rfl ?_ dX3_part_49
        exact ⟨by simp_all, rfl⟩
      · skip
        by_cases k10_2 : k = 2
        · refine G_tableIn 50 dX3_part_10 (by rw [k10_2]; decide) (by rw [k10_2]; decide) (off := 40) (by rw [k10_2]; rfl) (by decide) ?_
          refine G_aload_n 51 rfl rfl dX3_part_50 ?_
          refine G_gi 54 rfl hR 3 3 p 195 (σ.1 195 p) fl_X3_22 hp rfl rfl rfl rfl dX3_part_51 ?_
          refine G_iret (ty := .int) rfl rfl ?_ dX3_part_54
          exact ⟨by simp_all, rfl⟩
        · skip
          by_cases k10_3 : k = 3
          · refine G_tableIn 55 dX3_part_10 (by rw [k10_3]; decide) (by rw [k10_3]; decide) (off := 45) (by rw [k10_3]; rfl) (by decide) ?_
            refine G_aload_n 56 rfl rfl dX3_part_55 ?_
            refine G_gi 59 rfl hR 3 4 p 196 (σ.1 196 p) fl_X3_25 hp rfl rfl rfl rfl dX3_part_56 ?_
            refine G_iret (ty := .int) rfl rfl ?_ dX3_part_59
            exact ⟨by simp_all, rfl⟩
          · skip
            refine G_tableOut 60 dX3_part_10 (tb_out (n := 3) (by decide) (fun j hj => by rcases j with _ | _ | _ | _ | j; exact k10_0; exact k10_1; exact k10_2; exact k10_3; omega)) (by decide) ?_
            refine G_iconst 61 rfl (-1) (by decide) dX3_part_60 ?_
            refine G_iret (ty := .int) rfl rfl ?_ dX3_part_61
            exact ⟨by simp_all, rfl⟩
  · skip
    refine G_iconst 8 rfl (-1) (by decide) dX3_part_7 ?_
    refine G_iret (ty := .int) rfl rfl ?_ dX3_part_8
    exact ⟨by simp_all, rfl⟩

set_option maxHeartbeats 4000000 in
set_option maxRecDepth 100000 in
theorem c_X0_part {E : Ev} {m : Nat} {σ : Sg} {τ : Tu} {h : Hp} (hR : RR E m σ τ h) {n : Nat} (hn : 1 ≤ n ∧ n ≤ sNp σ) (k : Int32) : Cn E mX0_part (rk 0 0 0) h [.ref (aE E m n), .int k] (fun v h' => v = some (.int (if k = 0 then σ.1 0 n else if k = 1 then σ.1 2 n else if k = 2 then σ.1 4 n else if k = 3 then nI n else if k = 4 then σ.1 1 n else -1)) ∧ h' = h) := by
  refine Cn_of (by decide) rfl (by simp [Value.category]) (Nat.le_of_ble_eq_true rfl) ?_
  refine G_iload_n 1 rfl rfl dX0_part_0 ?_
  by_cases k1_0 : k = 0
  · refine G_tableIn 36 dX0_part_1 (by rw [k1_0]; decide) (by rw [k1_0]; decide) (off := 35) (by rw [k1_0]; rfl) (by decide) ?_
    refine G_aload_n 37 rfl rfl dX0_part_36 ?_
    refine G_gi 40 rfl hR 0 0 n 0 (σ.1 0 n) fl_X0_9 hn rfl rfl rfl rfl dX0_part_37 ?_
    refine G_iret (ty := .int) rfl rfl ?_ dX0_part_40
    exact ⟨by simp_all, rfl⟩
  · skip
    by_cases k1_1 : k = 1
    · refine G_tableIn 41 dX0_part_1 (by rw [k1_1]; decide) (by rw [k1_1]; decide) (off := 40) (by rw [k1_1]; rfl) (by decide) ?_
      refine G_aload_n 42 rfl rfl dX0_part_41 ?_
      refine G_gi 45 rfl hR 0 2 n 2 (σ.1 2 n) fl_X0_23 hn rfl rfl rfl rfl dX0_part_42 ?_
      refine G_iret (ty := .int) rfl rfl ?_ dX0_part_45
      exact ⟨by simp_all, rfl⟩
    · skip
      by_cases k1_2 : k = 2
      · refine G_tableIn 46 dX0_part_1 (by rw [k1_2]; decide) (by rw [k1_2]; decide) (off := 45) (by rw [k1_2]; rfl) (by decide) ?_
        refine G_aload_n 47 rfl rfl dX0_part_46 ?_
        refine G_gi 50 rfl hR 0 4 n 4 (σ.1 4 n) fl_X0_31 hn rfl rfl rfl rfl dX0_part_47 ?_
        refine G_iret (ty := .int) rfl rfl ?_ dX0_part_50
        exact ⟨by simp_all, rfl⟩
      · skip
        by_cases k1_3 : k = 3
        · refine G_tableIn 51 dX0_part_1 (by rw [k1_3]; decide) (by rw [k1_3]; decide) (off := 50) (by rw [k1_3]; rfl) (by decide) ?_
          refine G_aload_n 52 rfl rfl dX0_part_51 ?_
          refine G_e5 55 rfl hR fl_X0_32 hn dX0_part_52 ?_
          refine G_iret (ty := .int) rfl rfl ?_ dX0_part_55
          exact ⟨by simp_all, rfl⟩
        · skip
          by_cases k1_4 : k = 4
          · refine G_tableIn 56 dX0_part_1 (by rw [k1_4]; decide) (by rw [k1_4]; decide) (off := 55) (by rw [k1_4]; rfl) (by decide) ?_
            refine G_aload_n 57 rfl rfl dX0_part_56 ?_
            refine G_gi 60 rfl hR 0 1 n 1 (σ.1 1 n) fl_X0_15 hn rfl rfl rfl rfl dX0_part_57 ?_
            refine G_iret (ty := .int) rfl rfl ?_ dX0_part_60
            exact ⟨by simp_all, rfl⟩
          · skip
            refine G_tableOut 61 dX0_part_1 (tb_out (n := 4) (by decide) (fun j hj => by rcases j with _ | _ | _ | _ | _ | j; exact k1_0; exact k1_1; exact k1_2; exact k1_3; exact k1_4; omega)) (by decide) ?_
            refine G_iconst 62 rfl (-1) (by decide) dX0_part_61 ?_
            refine G_iret (ty := .int) rfl rfl ?_ dX0_part_62
            exact ⟨by simp_all, rfl⟩

set_option maxHeartbeats 4000000 in
set_option maxRecDepth 100000 in
theorem c_X2_matches {E : Ev} {m : Nat} {σ : Sg} {τ : Tu} {h : Hp} (hR : RR E m σ τ h) {a b : Nat} (ha : a < 8 * m) (hb : b < 8 * m) : Cn E mX2_matches (rk 0 0 0) h [.ref (aG E a), .ref (aG E b)] (fun v h' => ((¬ σ.1 131 a = 0 ∧ ¬ σ.1 131 b = 0 ∧ σ.1 129 a = σ.1 129 b ∧ ¬ σ.1 128 a = σ.1 128 b) ∧ v = some (.int 1) ∨ ¬ (¬ σ.1 131 a = 0 ∧ ¬ σ.1 131 b = 0 ∧ σ.1 129 a = σ.1 129 b ∧ ¬ σ.1 128 a = σ.1 128 b) ∧ v = some (.int 0)) ∧ h' = h) := by
  refine Cn_of (by decide) rfl (by simp [Value.category]) (Nat.le_of_ble_eq_true rfl) ?_
  refine G_aload_n 1 rfl rfl dX2_matches_0 ?_
  refine G_gi 4 rfl hR 2 3 a 131 (σ.1 131 a) fl_X2_7 ha rfl rfl rfl rfl dX2_matches_1 ?_
  refine G_if_eq 40 7 rfl (by decide) dX2_matches_4 (fun c4 => ?_) (fun c4 => ?_)
  · skip
    refine G_iconst 41 rfl (0) (by decide) dX2_matches_40 ?_
    refine G_iret (ty := .boolean) rfl (by decide) ?_ dX2_matches_41
    exact ⟨Or.inr ⟨by first | omega | simp_all | (simp_all; omega), rfl⟩, rfl⟩
  · skip
    refine G_aload_n 8 rfl rfl dX2_matches_7 ?_
    refine G_gi 11 rfl hR 2 3 b 131 (σ.1 131 b) fl_X2_7 hb rfl rfl rfl rfl dX2_matches_8 ?_
    refine G_if_eq 40 14 rfl (by decide) dX2_matches_11 (fun c11 => ?_) (fun c11 => ?_)
    · skip
      refine G_iconst 41 rfl (0) (by decide) dX2_matches_40 ?_
      refine G_iret (ty := .boolean) rfl (by decide) ?_ dX2_matches_41
      exact ⟨Or.inr ⟨by first | omega | simp_all | (simp_all; omega), rfl⟩, rfl⟩
    · skip
      refine G_aload_n 15 rfl rfl dX2_matches_14 ?_
      refine G_gi 18 rfl hR 2 1 a 129 (σ.1 129 a) fl_X2_13 ha rfl rfl rfl rfl dX2_matches_15 ?_
      refine G_aload_n 19 rfl rfl dX2_matches_18 ?_
      refine G_gi 22 rfl hR 2 1 b 129 (σ.1 129 b) fl_X2_13 hb rfl rfl rfl rfl dX2_matches_19 ?_
      refine G_icmp_ne 40 25 rfl (by decide) dX2_matches_22 (fun c22 => ?_) (fun c22 => ?_)
      · skip
        refine G_iconst 41 rfl (0) (by decide) dX2_matches_40 ?_
        refine G_iret (ty := .boolean) rfl (by decide) ?_ dX2_matches_41
        exact ⟨Or.inr ⟨by first | omega | simp_all | (simp_all; omega), rfl⟩, rfl⟩
      · skip
        refine G_aload_n 26 rfl rfl dX2_matches_25 ?_
        refine G_gi 29 rfl hR 2 0 a 128 (σ.1 128 a) fl_X2_17 ha rfl rfl rfl rfl dX2_matches_26 ?_
        refine G_aload_n 30 rfl rfl dX2_matches_29 ?_
        refine G_gi 33 rfl hR 2 0 b 128 (σ.1 128 b) fl_X2_17 hb rfl rfl rfl rfl dX2_matches_30 ?_
        refine G_icmp_eq 40 36 rfl (by decide) dX2_matches_33 (fun c33 => ?_) (fun c33 => ?_)
        · skip
          refine G_iconst 41 rfl (0) (by decide) dX2_matches_40 ?_
          refine G_iret (ty := .boolean) rfl (by decide) ?_ dX2_matches_41
          exact ⟨Or.inr ⟨by first | omega | simp_all | (simp_all; omega), rfl⟩, rfl⟩
        · skip
          refine G_iconst 37 rfl (1) (by decide) dX2_matches_36 ?_
          refine G_goto 41 (by decide) dX2_matches_37 ?_
          refine G_iret (ty := .boolean) rfl (by decide) ?_ dX2_matches_41
          exact ⟨Or.inl ⟨by first | omega | simp_all | (simp_all; omega), rfl⟩, rfl⟩

set_option maxHeartbeats 4000000 in
set_option maxRecDepth 100000 in
theorem c_X5_becomeIdle {E : Ev} {m : Nat} {σ : Sg} {τ : Tu} {h : Hp} (hR : RR E m σ τ h) {p : Nat} (hp : p < m) : Cn E mX5_becomeIdle (rk 0 0 0) h [.ref (aP E p)] (fun v h' => v = none ∧ RR E m (up (up (up σ 325 p 1) 326 p 0) 327 p 0) τ h') := by
  refine Cn_of (by decide) rfl (by simp [Value.category]) (Nat.le_of_ble_eq_true rfl) ?_
  refine G_aload_n 1 rfl rfl dX5_becomeIdle_0 ?_
  refine G_iconst 2 rfl (1) (by decide) dX5_becomeIdle_1 ?_
  refine G_pi 5 rfl hR 5 5 p 325 fl_X5_37 hp rfl ⟨rfl, rfl⟩ rfl rfl dX5_becomeIdle_2 (fun h hR => ?_)
  refine G_aload_n 6 rfl rfl dX5_becomeIdle_5 ?_
  refine G_iconst 7 rfl (0) (by decide) dX5_becomeIdle_6 ?_
  refine G_pi 10 rfl hR 5 6 p 326 fl_X5_48 hp rfl ⟨rfl, rfl⟩ rfl rfl dX5_becomeIdle_7 (fun h hR => ?_)
  refine G_aload_n 11 rfl rfl dX5_becomeIdle_10 ?_
  refine G_iconst 12 rfl (0) (by decide) dX5_becomeIdle_11 ?_
  refine G_pi 15 rfl hR 5 7 p 327 fl_X5_51 hp rfl ⟨rfl, rfl⟩ rfl rfl dX5_becomeIdle_12 (fun h hR => ?_)
  refine G_ret rfl ?_ dX5_becomeIdle_15
  exact ⟨rfl, hR⟩

set_option maxHeartbeats 4000000 in
set_option maxRecDepth 100000 in
theorem c_X5_isOffering {E : Ev} {m : Nat} {σ : Sg} {τ : Tu} {h : Hp} (hR : RR E m σ τ h) {p : Nat} (hp : p < m) : Cn E mX5_isOffering (rk 0 0 0) h [.ref (aP E p)] (fun v h' => ((¬ σ.1 325 p < 2 ∧ ¬ 11 < σ.1 325 p) ∧ v = some (.int 1) ∨ ¬ (¬ σ.1 325 p < 2 ∧ ¬ 11 < σ.1 325 p) ∧ v = some (.int 0)) ∧ h' = h) := by
  refine Cn_of (by decide) rfl (by simp [Value.category]) (Nat.le_of_ble_eq_true rfl) ?_
  refine G_aload_n 1 rfl rfl dX5_isOffering_0 ?_
  refine G_gi 4 rfl hR 5 5 p 325 (σ.1 325 p) fl_X5_37 hp rfl rfl rfl rfl dX5_isOffering_1 ?_
  refine G_iconst 5 rfl (2) (by decide) dX5_isOffering_4 ?_
  refine G_icmp_lt 21 8 rfl (by decide) dX5_isOffering_5 (fun c5 => ?_) (fun c5 => ?_)
  · skip
    refine G_iconst 22 rfl (0) (by decide) dX5_isOffering_21 ?_
    refine G_iret (ty := .boolean) rfl (by decide) ?_ dX5_isOffering_22
    exact ⟨Or.inr ⟨by first | omega | simp_all | (simp_all; omega), rfl⟩, rfl⟩
  · skip
    refine G_aload_n 9 rfl rfl dX5_isOffering_8 ?_
    refine G_gi 12 rfl hR 5 5 p 325 (σ.1 325 p) fl_X5_37 hp rfl rfl rfl rfl dX5_isOffering_9 ?_
    refine G_bipush 14 rfl (11) (by decide) dX5_isOffering_12 ?_
    refine G_icmp_gt 21 17 rfl (by decide) dX5_isOffering_14 (fun c14 => ?_) (fun c14 => ?_)
    · skip
      refine G_iconst 22 rfl (0) (by decide) dX5_isOffering_21 ?_
      refine G_iret (ty := .boolean) rfl (by decide) ?_ dX5_isOffering_22
      exact ⟨Or.inr ⟨by first | omega | simp_all | (simp_all; omega), rfl⟩, rfl⟩
    · skip
      refine G_iconst 18 rfl (1) (by decide) dX5_isOffering_17 ?_
      refine G_goto 22 (by decide) dX5_isOffering_18 ?_
      refine G_iret (ty := .boolean) rfl (by decide) ?_ dX5_isOffering_22
      exact ⟨Or.inl ⟨by first | omega | simp_all | (simp_all; omega), rfl⟩, rfl⟩

set_option maxHeartbeats 4000000 in
set_option maxRecDepth 100000 in
theorem c_X5_isClaiming {E : Ev} {m : Nat} {σ : Sg} {τ : Tu} {h : Hp} (hR : RR E m σ τ h) {p : Nat} (hp : p < m) : Cn E mX5_isClaiming (rk 0 0 0) h [.ref (aP E p)] (fun v h' => ((¬ σ.1 325 p < 5 ∧ ¬ 8 < σ.1 325 p) ∧ v = some (.int 1) ∨ ¬ (¬ σ.1 325 p < 5 ∧ ¬ 8 < σ.1 325 p) ∧ v = some (.int 0)) ∧ h' = h) := by
  refine Cn_of (by decide) rfl (by simp [Value.category]) (Nat.le_of_ble_eq_true rfl) ?_
  refine G_aload_n 1 rfl rfl dX5_isClaiming_0 ?_
  refine G_gi 4 rfl hR 5 5 p 325 (σ.1 325 p) fl_X5_37 hp rfl rfl rfl rfl dX5_isClaiming_1 ?_
  refine G_iconst 5 rfl (5) (by decide) dX5_isClaiming_4 ?_
  refine G_icmp_lt 21 8 rfl (by decide) dX5_isClaiming_5 (fun c5 => ?_) (fun c5 => ?_)
  · skip
    refine G_iconst 22 rfl (0) (by decide) dX5_isClaiming_21 ?_
    refine G_iret (ty := .boolean) rfl (by decide) ?_ dX5_isClaiming_22
    exact ⟨Or.inr ⟨by first | omega | simp_all | (simp_all; omega), rfl⟩, rfl⟩
  · skip
    refine G_aload_n 9 rfl rfl dX5_isClaiming_8 ?_
    refine G_gi 12 rfl hR 5 5 p 325 (σ.1 325 p) fl_X5_37 hp rfl rfl rfl rfl dX5_isClaiming_9 ?_
    refine G_bipush 14 rfl (8) (by decide) dX5_isClaiming_12 ?_
    refine G_icmp_gt 21 17 rfl (by decide) dX5_isClaiming_14 (fun c14 => ?_) (fun c14 => ?_)
    · skip
      refine G_iconst 22 rfl (0) (by decide) dX5_isClaiming_21 ?_
      refine G_iret (ty := .boolean) rfl (by decide) ?_ dX5_isClaiming_22
      exact ⟨Or.inr ⟨by first | omega | simp_all | (simp_all; omega), rfl⟩, rfl⟩
    · skip
      refine G_iconst 18 rfl (1) (by decide) dX5_isClaiming_17 ?_
      refine G_goto 22 (by decide) dX5_isClaiming_18 ?_
      refine G_iret (ty := .boolean) rfl (by decide) ?_ dX5_isClaiming_22
      exact ⟨Or.inl ⟨by first | omega | simp_all | (simp_all; omega), rfl⟩, rfl⟩

set_option maxHeartbeats 4000000 in
set_option maxRecDepth 100000 in
theorem c_X5_heedsTime {E : Ev} {m : Nat} {σ : Sg} {τ : Tu} {h : Hp} (hR : RR E m σ τ h) {p : Nat} (hp : p < m) : Cn E mX5_heedsTime (rk 0 0 0) h [.ref (aP E p)] (fun v h' => ((σ.1 325 p = 2 ∨ σ.1 325 p = 3 ∨ σ.1 325 p = 9 ∨ σ.1 325 p = 10) ∧ v = some (.int 1) ∨ ¬ (σ.1 325 p = 2 ∨ σ.1 325 p = 3 ∨ σ.1 325 p = 9 ∨ σ.1 325 p = 10) ∧ v = some (.int 0)) ∧ h' = h) := by
  refine Cn_of (by decide) rfl (by simp [Value.category]) (Nat.le_of_ble_eq_true rfl) ?_
  refine G_aload_n 1 rfl rfl dX5_heedsTime_0 ?_
  refine G_gi 4 rfl hR 5 5 p 325 (σ.1 325 p) fl_X5_37 hp rfl rfl rfl rfl dX5_heedsTime_1 ?_
  refine G_iconst 5 rfl (2) (by decide) dX5_heedsTime_4 ?_
  refine G_icmp_eq 34 8 rfl (by decide) dX5_heedsTime_5 (fun c5 => ?_) (fun c5 => ?_)
  · skip
    refine G_iconst 35 rfl (1) (by decide) dX5_heedsTime_34 ?_
    refine G_goto 39 (by decide) dX5_heedsTime_35 ?_
    refine G_iret (ty := .boolean) rfl (by decide) ?_ dX5_heedsTime_39
    exact ⟨Or.inl ⟨by first | omega | simp_all | (simp_all; omega), rfl⟩, rfl⟩
  · skip
    refine G_aload_n 9 rfl rfl dX5_heedsTime_8 ?_
    refine G_gi 12 rfl hR 5 5 p 325 (σ.1 325 p) fl_X5_37 hp rfl rfl rfl rfl dX5_heedsTime_9 ?_
    refine G_iconst 13 rfl (3) (by decide) dX5_heedsTime_12 ?_
    refine G_icmp_eq 34 16 rfl (by decide) dX5_heedsTime_13 (fun c13 => ?_) (fun c13 => ?_)
    · skip
      refine G_iconst 35 rfl (1) (by decide) dX5_heedsTime_34 ?_
      refine G_goto 39 (by decide) dX5_heedsTime_35 ?_
      refine G_iret (ty := .boolean) rfl (by decide) ?_ dX5_heedsTime_39
      exact ⟨Or.inl ⟨by first | omega | simp_all | (simp_all; omega), rfl⟩, rfl⟩
    · skip
      refine G_aload_n 17 rfl rfl dX5_heedsTime_16 ?_
      refine G_gi 20 rfl hR 5 5 p 325 (σ.1 325 p) fl_X5_37 hp rfl rfl rfl rfl dX5_heedsTime_17 ?_
      refine G_bipush 22 rfl (9) (by decide) dX5_heedsTime_20 ?_
      refine G_icmp_eq 34 25 rfl (by decide) dX5_heedsTime_22 (fun c22 => ?_) (fun c22 => ?_)
      · skip
        refine G_iconst 35 rfl (1) (by decide) dX5_heedsTime_34 ?_
        refine G_goto 39 (by decide) dX5_heedsTime_35 ?_
        refine G_iret (ty := .boolean) rfl (by decide) ?_ dX5_heedsTime_39
        exact ⟨Or.inl ⟨by first | omega | simp_all | (simp_all; omega), rfl⟩, rfl⟩
      · skip
        refine G_aload_n 26 rfl rfl dX5_heedsTime_25 ?_
        refine G_gi 29 rfl hR 5 5 p 325 (σ.1 325 p) fl_X5_37 hp rfl rfl rfl rfl dX5_heedsTime_26 ?_
        refine G_bipush 31 rfl (10) (by decide) dX5_heedsTime_29 ?_
        refine G_icmp_ne 38 34 rfl (by decide) dX5_heedsTime_31 (fun c31 => ?_) (fun c31 => ?_)
        · skip
          refine G_iconst 39 rfl (0) (by decide) dX5_heedsTime_38 ?_
          refine G_iret (ty := .boolean) rfl (by decide) ?_ dX5_heedsTime_39
          exact ⟨Or.inr ⟨by first | omega | simp_all | (simp_all; omega), rfl⟩, rfl⟩
        · skip
          refine G_iconst 35 rfl (1) (by decide) dX5_heedsTime_34 ?_
          refine G_goto 39 (by decide) dX5_heedsTime_35 ?_
          refine G_iret (ty := .boolean) rfl (by decide) ?_ dX5_heedsTime_39
          exact ⟨Or.inl ⟨by first | omega | simp_all | (simp_all; omega), rfl⟩, rfl⟩

set_option maxHeartbeats 4000000 in
set_option maxRecDepth 100000 in
theorem c_X5_isDue {E : Ev} {m : Nat} {σ : Sg} {τ : Tu} {h : Hp} (hR : RR E m σ τ h) {p : Nat} (hp : p < m) (k : Int32) : Cn E mX5_isDue (rk 0 0 0) h [.ref (aP E p), .int k] (fun v h' => ((¬ σ.1 328 p = -1 ∧ ¬ k < σ.1 328 p) ∧ v = some (.int 1) ∨ ¬ (¬ σ.1 328 p = -1 ∧ ¬ k < σ.1 328 p) ∧ v = some (.int 0)) ∧ h' = h) := by
  refine Cn_of (by decide) rfl (by simp [Value.category]) (Nat.le_of_ble_eq_true rfl) ?_
  refine G_aload_n 1 rfl rfl dX5_isDue_0 ?_
  refine G_gi 4 rfl hR 5 8 p 328 (σ.1 328 p) fl_X5_41 hp rfl rfl rfl rfl dX5_isDue_1 ?_
  refine G_iconst 5 rfl (-1) (by decide) dX5_isDue_4 ?_
  refine G_icmp_eq 20 8 rfl (by decide) dX5_isDue_5 (fun c5 => ?_) (fun c5 => ?_)
  · skip
    refine G_iconst 21 rfl (0) (by decide) dX5_isDue_20 ?_
    refine G_iret (ty := .boolean) rfl (by decide) ?_ dX5_isDue_21
    exact ⟨Or.inr ⟨by first | omega | simp_all | (simp_all; omega), rfl⟩, rfl⟩
  · skip
    refine G_iload_n 9 rfl rfl dX5_isDue_8 ?_
    refine G_aload_n 10 rfl rfl dX5_isDue_9 ?_
    refine G_gi 13 rfl hR 5 8 p 328 (σ.1 328 p) fl_X5_41 hp rfl rfl rfl rfl dX5_isDue_10 ?_
    refine G_icmp_lt 20 16 rfl (by decide) dX5_isDue_13 (fun c13 => ?_) (fun c13 => ?_)
    · skip
      refine G_iconst 21 rfl (0) (by decide) dX5_isDue_20 ?_
      refine G_iret (ty := .boolean) rfl (by decide) ?_ dX5_isDue_21
      exact ⟨Or.inr ⟨by first | omega | simp_all | (simp_all; omega), rfl⟩, rfl⟩
    · skip
      refine G_iconst 17 rfl (1) (by decide) dX5_isDue_16 ?_
      refine G_goto 21 (by decide) dX5_isDue_17 ?_
      refine G_iret (ty := .boolean) rfl (by decide) ?_ dX5_isDue_21
      exact ⟨Or.inl ⟨by first | omega | simp_all | (simp_all; omega), rfl⟩, rfl⟩

set_option maxHeartbeats 4000000 in
set_option maxRecDepth 100000 in
theorem c_X5_lookAt {E : Ev} {m : Nat} {σ : Sg} {τ : Tu} {h : Hp} (hR : RR E m σ τ h) {p : Nat} (hp : p < m) (k : Int32) : Cn E mX5_lookAt (rk 0 0 0) h [.ref (aP E p), .int k] (fun v h' => v = none ∧ RR E m (up (up (up σ 329 p k) 330 p 0) 325 p 3) τ h') := by
  refine Cn_of (by decide) rfl (by simp [Value.category]) (Nat.le_of_ble_eq_true rfl) ?_
  refine G_aload_n 1 rfl rfl dX5_lookAt_0 ?_
  refine G_iload_n 2 rfl rfl dX5_lookAt_1 ?_
  refine G_pi 5 rfl hR 5 9 p 329 fl_X5_112 hp rfl ⟨rfl, rfl⟩ rfl rfl dX5_lookAt_2 (fun h hR => ?_)
  refine G_aload_n 6 rfl rfl dX5_lookAt_5 ?_
  refine G_iconst 7 rfl (0) (by decide) dX5_lookAt_6 ?_
  refine G_pi 10 rfl hR 5 10 p 330 fl_X5_119 hp rfl ⟨rfl, rfl⟩ rfl rfl dX5_lookAt_7 (fun h hR => ?_)
  refine G_aload_n 11 rfl rfl dX5_lookAt_10 ?_
  refine G_iconst 12 rfl (3) (by decide) dX5_lookAt_11 ?_
  refine G_pi 15 rfl hR 5 5 p 325 fl_X5_37 hp rfl ⟨rfl, rfl⟩ rfl rfl dX5_lookAt_12 (fun h hR => ?_)
  refine G_ret rfl ?_ dX5_lookAt_15
  exact ⟨rfl, hR⟩

set_option maxHeartbeats 4000000 in
set_option maxRecDepth 100000 in
theorem c_X5_standing {E : Ev} {m : Nat} {σ : Sg} {τ : Tu} {h : Hp} (hR : RR E m σ τ h) {p : Nat} (hp : p < m) : Cn E mX5_standing (rk 0 0 0) h [.ref (aP E p)] (fun v h' => v = some (.int (if σ.1 325 p = 0 then -1 else if σ.1 325 p = 1 then 4 else if σ.1 325 p = 10 then 1 else if σ.1 325 p = 12 then (if σ.1 384 p = 3 then 2 else σ.1 334 p) else 0)) ∧ h' = h) := by
  refine Cn_of (by decide) rfl (by simp [Value.category]) (Nat.le_of_ble_eq_true rfl) ?_
  refine G_aload_n 1 rfl rfl dX5_standing_0 ?_
  refine G_gi 4 rfl hR 5 5 p 325 (σ.1 325 p) fl_X5_37 hp rfl rfl rfl rfl dX5_standing_1 ?_
  by_cases k4_0 : σ.1 325 p = 0
  · refine G_lookup 48 (x := σ.1 325 p) dX5_standing_4 (by decide) (off := 44) (by rw [k4_0]; decide) (by decide) ?_
    refine G_iconst 49 rfl (-1) (by decide) dX5_standing_48 ?_
    refine G_iret (ty := .int) rfl rfl ?_ dX5_standing_49
    exact ⟨by simp_all, rfl⟩
  · skip
    by_cases k4_1 : σ.1 325 p = 1
    · refine G_lookup 50 (x := σ.1 325 p) dX5_standing_4 (by decide) (off := 46) (by rw [k4_1]; decide) (by decide) ?_
      refine G_iconst 51 rfl (4) (by decide) dX5_standing_50 ?_
      refine G_iret (ty := .int) rfl rfl ?_ dX5_standing_51
      exact ⟨by simp_all, rfl⟩
    · skip
      by_cases k4_10 : σ.1 325 p = 10
      · refine G_lookup 52 (x := σ.1 325 p) dX5_standing_4 (by decide) (off := 48) (by rw [k4_10]; decide) (by decide) ?_
        refine G_iconst 53 rfl (1) (by decide) dX5_standing_52 ?_
        refine G_iret (ty := .int) rfl rfl ?_ dX5_standing_53
        exact ⟨by simp_all, rfl⟩
      · skip
        by_cases k4_12 : σ.1 325 p = 12
        · refine G_lookup 54 (x := σ.1 325 p) dX5_standing_4 (by decide) (off := 50) (by rw [k4_12]; decide) (by decide) ?_
          refine G_aload_n 55 rfl rfl dX5_standing_54 ?_
          refine G_p1 58 rfl hR fl_X5_12 hp dX5_standing_55 ?_
          refine G_gi 61 rfl hR 6 0 p 384 (σ.1 384 p) fl_X5_115 hp rfl rfl rfl rfl dX5_standing_58 ?_
          refine G_iconst 62 rfl (3) (by decide) dX5_standing_61 ?_
          refine G_icmp_ne 69 65 rfl (by decide) dX5_standing_62 (fun c62 => ?_) (fun c62 => ?_)
          · skip
            refine G_aload_n 70 rfl rfl dX5_standing_69 ?_
            refine G_gi 73 rfl hR 5 14 p 334 (σ.1 334 p) fl_X5_84 hp rfl rfl rfl rfl dX5_standing_70 ?_
            refine G_iret (ty := .int) rfl rfl ?_ dX5_standing_73
            exact ⟨by simp_all, rfl⟩
          · skip
            refine G_iconst 66 rfl (2) (by decide) dX5_standing_65 ?_
            refine G_goto 73 (by decide) dX5_standing_66 ?_
            refine G_iret (ty := .int) rfl rfl ?_ dX5_standing_73
            exact ⟨by simp_all, rfl⟩
        · skip
          refine G_lookup 74 dX5_standing_4 (by decide) (off := 70) (look_out k4_0 k4_1 k4_10 k4_12) (by decide) ?_
          refine G_iconst 75 rfl (0) (by decide) dX5_standing_74 ?_
          refine G_iret (ty := .int) rfl rfl ?_ dX5_standing_75
          exact ⟨by simp_all, rfl⟩

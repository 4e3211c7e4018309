theorem ctA_succ (f : Nat → Bool) (n a : Nat) (s : Int32) : ctA f (n + 1) a s = ctA f n (a + 1) (if f a then s + 1 else s) := rfl
theorem smA_succ (f : Nat → Int32) (n a : Nat) (s : Int32) : smA f (n + 1) a s = smA f n (a + 1) (s + f a) := rfl
def cnt7 (σ : Sg) (m : Nat) (k : Int32) : Int32 := if k = 0 then nI m else if k = 1 then ctA (fun i => !decide (σ.1 325 i = 0)) m 0 0 else if k = 2 then σ.1 257 0 else if k = 3 then σ.1 451 0 else if k = 4 then σ.1 452 0 else if k = 5 then smA (fun c => nI (sLs σ c).length) 8 0 0 else if k = 6 then σ.1 453 0 else if k = 7 then σ.1 454 0 else if k = 8 then σ.1 455 0 else -1
def hB (σ : Sg) (m i : Nat) : Bool := decide (σ.1 384 i = 2 ∧ ∃ c, c < m ∧ σ.1 386 i = nI c ∧ ¬ (¬ σ.1 325 c < 5 ∧ ¬ 8 < σ.1 325 c))
def stdg (σ : Sg) (p : Nat) : Int32 := if σ.1 325 p = 0 then -1 else if σ.1 325 p = 1 then 4 else if σ.1 325 p = 10 then 1 else if σ.1 325 p = 12 then (if σ.1 384 p = 3 then 2 else σ.1 334 p) else 0
set_option maxHeartbeats 4000000 in
set_option maxRecDepth 100000 in
theorem lp_X7_present {E : Ev} {m : Nat} {σ : Sg} {τ : Tu} {h : Hp} (hR : RR E m σ τ h)  : ∀ (r a : Nat) (s : Int32), a + r = m → ctA (fun i => !decide (σ.1 325 i = 0)) r a s = ctA (fun i => !decide (σ.1 325 i = 0)) m 0 0 → G E mX7_present (rk 0 0 0) (fun v h' => v = some (.int (ctA (fun i => !decide (σ.1 325 i = 0)) m 0 0)) ∧ h' = h) 4 [some (.ref (aX E)), some (.int s), some (.int (nI a))] [] h 0 0 := by
  intro r
  induction r with
  | zero =>
    intro a s ha hv
    have hm := hR.1.1
    refine G_iload_n 5 rfl rfl dX7_present_4 ?_
    refine G_aload_n 6 rfl rfl dX7_present_5 ?_
    refine G_x0 9 rfl hR fl_X7_20 dX7_present_6 ?_
    refine G_lenPA 10 rfl hR dX7_present_9 ?_
    refine G_icmpT_ge 34 (nI_le (by omega) (by omega)) (by decide) dX7_present_10 ?_
    refine G_iload_n 35 rfl rfl dX7_present_34 ?_
    refine G_iret (ty := .int) rfl rfl ?_ dX7_present_35
    exact ⟨by rw [← hv]; rfl, rfl⟩
  | succ r ih =>
    intro a s ha hv
    have hm := hR.1.1
    refine G_iload_n 5 rfl rfl dX7_present_4 ?_
    refine G_aload_n 6 rfl rfl dX7_present_5 ?_
    refine G_x0 9 rfl hR fl_X7_20 dX7_present_6 ?_
    refine G_lenPA 10 rfl hR dX7_present_9 ?_
    refine G_icmpF_ge 13 rfl (nI_ge (by omega) (by omega)) ⟨34, by decide⟩ dX7_present_10 ?_
    refine G_aload_n 14 rfl rfl dX7_present_13 ?_
    refine G_x0 17 rfl hR fl_X7_20 dX7_present_14 ?_
    refine G_iload_n 18 rfl rfl dX7_present_17 ?_
    refine G_procs 19 rfl hR (p := a) rfl (show a < m by omega) dX7_present_18 ?_
    refine G_gi 22 rfl hR 5 5 a 325 (σ.1 325 a) fl_X7_48 (show a < m by omega) rfl rfl rfl rfl dX7_present_19 ?_
    refine G_if_eq 28 25 rfl (by decide) dX7_present_22 (fun c22 => ?_) (fun c22 => ?_)
    · skip
      refine G_iinc 31 rfl (nI (a + 1)) rfl (inc1 a) (by decide) dX7_present_28 ?_
      refine G_goto 4 (by decide) dX7_present_31 ?_
      exact ih (a + 1) _ (by omega) (by rw [← hv, ctA_succ]; simp [c22])
    · skip
      refine G_iinc 28 rfl (s + 1) rfl (rfl) (by decide) dX7_present_25 ?_
      refine G_iinc 31 rfl (nI (a + 1)) rfl (inc1 a) (by decide) dX7_present_28 ?_
      refine G_goto 4 (by decide) dX7_present_31 ?_
      exact ih (a + 1) _ (by omega) (by rw [← hv, ctA_succ]; simp [c22])

set_option maxHeartbeats 4000000 in
set_option maxRecDepth 100000 in
theorem c_X7_present {E : Ev} {m : Nat} {σ : Sg} {τ : Tu} {h : Hp} (hR : RR E m σ τ h)  : Cn E mX7_present (rk 0 0 0) h [.ref (aX E)] (fun v h' => v = some (.int (ctA (fun i => !decide (σ.1 325 i = 0)) m 0 0)) ∧ h' = h) := by
  refine Cn_of (by decide) rfl (by simp [Value.category]) (Nat.le_of_ble_eq_true rfl) ?_
  refine G_iconst 1 rfl (0) (by decide) dX7_present_0 ?_
  refine G_istore_n 2 rfl (by decide) dX7_present_1 ?_
  refine G_iconst 3 rfl (0) (by decide) dX7_present_2 ?_
  refine G_istore_n 4 rfl (by decide) dX7_present_3 ?_
  exact lp_X7_present hR m 0 0 (by omega) rfl

set_option maxHeartbeats 4000000 in
set_option maxRecDepth 100000 in
theorem lp_X7_listed {E : Ev} {m : Nat} {σ : Sg} {τ : Tu} {h : Hp} (hR : RR E m σ τ h)  : ∀ (r a : Nat) (s : Int32), a + r = 8 → smA (fun c => nI (sLs σ c).length) r a s = smA (fun c => nI (sLs σ c).length) 8 0 0 → G E mX7_listed (rk 0 0 0) (fun v h' => v = some (.int (smA (fun c => nI (sLs σ c).length) 8 0 0)) ∧ h' = h) 4 [some (.ref (aX E)), some (.int s), some (.int (nI a))] [] h 0 0 := by
  intro r
  induction r with
  | zero =>
    intro a s ha hv
    have hm := hR.1.1
    refine G_iload_n 5 rfl rfl dX7_listed_4 ?_
    refine G_aload_n 6 rfl rfl dX7_listed_5 ?_
    refine G_x1 9 rfl hR fl_X7_29 dX7_listed_6 ?_
    refine G_lenLL 10 rfl hR dX7_listed_9 ?_
    refine G_icmpT_ge 31 (nI_le (a := 8) (by omega) (by omega)) (by decide) dX7_listed_10 ?_
    refine G_iload_n 32 rfl rfl dX7_listed_31 ?_
    refine G_iret (ty := .int) rfl rfl ?_ dX7_listed_32
    exact ⟨by rw [← hv]; rfl, rfl⟩
  | succ r ih =>
    intro a s ha hv
    have hm := hR.1.1
    refine G_iload_n 5 rfl rfl dX7_listed_4 ?_
    refine G_aload_n 6 rfl rfl dX7_listed_5 ?_
    refine G_x1 9 rfl hR fl_X7_29 dX7_listed_6 ?_
    refine G_lenLL 10 rfl hR dX7_listed_9 ?_
    refine G_icmpF_ge 13 rfl (nI_ge (b := 8) (by omega) (by omega)) ⟨31, by decide⟩ dX7_listed_10 ?_
    refine G_iload_n 14 rfl rfl dX7_listed_13 ?_
    refine G_aload_n 15 rfl rfl dX7_listed_14 ?_
    refine G_x1 18 rfl hR fl_X7_29 dX7_listed_15 ?_
    refine G_iload_n 19 rfl rfl dX7_listed_18 ?_
    refine G_lists 20 rfl hR (c := a) rfl (show a < 8 by omega) dX7_listed_19 ?_
    refine G_l1 23 rfl hR fl_X7_162 (show a < 8 by omega) dX7_listed_20 ?_
    refine G_iadd 24 rfl dX7_listed_23 ?_
    refine G_istore_n 25 rfl (by decide) dX7_listed_24 ?_
    refine G_iinc 28 rfl (nI (a + 1)) rfl (inc1 a) (by decide) dX7_listed_25 ?_
    refine G_goto 4 (by decide) dX7_listed_28 ?_
    exact ih (a + 1) _ (by omega) (by rw [← hv, smA_succ])

set_option maxHeartbeats 4000000 in
set_option maxRecDepth 100000 in
theorem c_X7_listed {E : Ev} {m : Nat} {σ : Sg} {τ : Tu} {h : Hp} (hR : RR E m σ τ h)  : Cn E mX7_listed (rk 0 0 0) h [.ref (aX E)] (fun v h' => v = some (.int (smA (fun c => nI (sLs σ c).length) 8 0 0)) ∧ h' = h) := by
  refine Cn_of (by decide) rfl (by simp [Value.category]) (Nat.le_of_ble_eq_true rfl) ?_
  refine G_iconst 1 rfl (0) (by decide) dX7_listed_0 ?_
  refine G_istore_n 2 rfl (by decide) dX7_listed_1 ?_
  refine G_iconst 3 rfl (0) (by decide) dX7_listed_2 ?_
  refine G_istore_n 4 rfl (by decide) dX7_listed_3 ?_
  exact lp_X7_listed hR 8 0 0 (by omega) rfl

set_option maxHeartbeats 4000000 in
set_option maxRecDepth 100000 in
theorem c_X7_count {E : Ev} {m : Nat} {σ : Sg} {τ : Tu} {h : Hp} (hR : RR E m σ τ h) (k : Int32) : Cn E mX7_count (rk 1 0 0) h [.ref (aX E), .int k] (fun v h' => v = some (.int (cnt7 σ m k)) ∧ h' = h) := by
  refine Cn_of (by decide) rfl (by simp [Value.category]) (Nat.le_of_ble_eq_true rfl) ?_
  refine G_iload_n 1 rfl rfl dX7_count_0 ?_
  by_cases k1_0 : k = 0
  · refine G_tableIn 52 dX7_count_1 (by rw [k1_0]; decide) (by rw [k1_0]; decide) (off := 51) (by rw [k1_0]; rfl) (by decide) ?_
    refine G_aload_n 53 rfl rfl dX7_count_52 ?_
    refine G_x0 56 rfl hR fl_X7_20 dX7_count_53 ?_
    refine G_lenPA 57 rfl hR dX7_count_56 ?_
    refine G_iret (ty := .int) rfl rfl ?_ dX7_count_57
    exact ⟨by unfold cnt7; simp [*], rfl⟩
  · skip
    by_cases k1_1 : k = 1
    · refine G_tableIn 58 dX7_count_1 (by rw [k1_1]; decide) (by rw [k1_1]; decide) (off := 57) (by rw [k1_1]; rfl) (by decide) ?_
      refine G_aload_n 59 rfl rfl dX7_count_58 ?_
      refine G_callV 62 rfl [] (c_X7_present hR) ok_X7_present ov_X7_present ml_X7_144 (hR.ob (ci := 7) (i := 0) (by decide) rfl) ⟨by decide, rfl⟩ rfl ⟨by decide, by decide⟩ rfl rfl (Nat.le_of_ble_eq_true rfl) rfl dX7_count_59 ?_
      rintro v h' ⟨rfl, rfl⟩
      refine G_iret (ty := .int) rfl rfl ?_ dX7_count_62
      exact ⟨by unfold cnt7; simp [*], rfl⟩
    · skip
      by_cases k1_2 : k = 2
      · refine G_tableIn 63 dX7_count_1 (by rw [k1_2]; decide) (by rw [k1_2]; decide) (off := 62) (by rw [k1_2]; rfl) (by decide) ?_
        refine G_aload_n 64 rfl rfl dX7_count_63 ?_
        refine G_x2 67 rfl hR fl_X7_37 dX7_count_64 ?_
        refine G_gi 70 rfl hR 4 1 0 257 (σ.1 257 0) fl_X7_110 rfl rfl rfl rfl rfl dX7_count_67 ?_
        refine G_iret (ty := .int) rfl rfl ?_ dX7_count_70
        exact ⟨by unfold cnt7; simp [*], rfl⟩
      · skip
        by_cases k1_3 : k = 3
        · refine G_tableIn 71 dX7_count_1 (by rw [k1_3]; decide) (by rw [k1_3]; decide) (off := 70) (by rw [k1_3]; rfl) (by decide) ?_
          refine G_aload_n 72 rfl rfl dX7_count_71 ?_
          refine G_gi 75 rfl hR 7 3 0 451 (σ.1 451 0) fl_X7_72 rfl rfl rfl rfl rfl dX7_count_72 ?_
          refine G_iret (ty := .int) rfl rfl ?_ dX7_count_75
          exact ⟨by unfold cnt7; simp [*], rfl⟩
        · skip
          by_cases k1_4 : k = 4
          · refine G_tableIn 76 dX7_count_1 (by rw [k1_4]; decide) (by rw [k1_4]; decide) (off := 75) (by rw [k1_4]; rfl) (by decide) ?_
            refine G_aload_n 77 rfl rfl dX7_count_76 ?_
            refine G_gi 80 rfl hR 7 4 0 452 (σ.1 452 0) fl_X7_147 rfl rfl rfl rfl rfl dX7_count_77 ?_
            refine G_iret (ty := .int) rfl rfl ?_ dX7_count_80
            exact ⟨by unfold cnt7; simp [*], rfl⟩
          · skip
            by_cases k1_5 : k = 5
            · refine G_tableIn 81 dX7_count_1 (by rw [k1_5]; decide) (by rw [k1_5]; decide) (off := 80) (by rw [k1_5]; rfl) (by decide) ?_
              refine G_aload_n 82 rfl rfl dX7_count_81 ?_
              refine G_callV 85 rfl [] (c_X7_listed hR) ok_X7_listed ov_X7_listed ml_X7_150 (hR.ob (ci := 7) (i := 0) (by decide) rfl) ⟨by decide, rfl⟩ rfl ⟨by decide, by decide⟩ rfl rfl (Nat.le_of_ble_eq_true rfl) rfl dX7_count_82 ?_
              rintro v h' ⟨rfl, rfl⟩
              refine G_iret (ty := .int) rfl rfl ?_ dX7_count_85
              exact ⟨by unfold cnt7; simp [*], rfl⟩
            · skip
              by_cases k1_6 : k = 6
              · refine G_tableIn 86 dX7_count_1 (by rw [k1_6]; decide) (by rw [k1_6]; decide) (off := 85) (by rw [k1_6]; rfl) (by decide) ?_
                refine G_aload_n 87 rfl rfl dX7_count_86 ?_
                refine G_gi 90 rfl hR 7 5 0 453 (σ.1 453 0) fl_X7_153 rfl rfl rfl rfl rfl dX7_count_87 ?_
                refine G_iret (ty := .int) rfl rfl ?_ dX7_count_90
                exact ⟨by unfold cnt7; simp [*], rfl⟩
              · skip
                by_cases k1_7 : k = 7
                · refine G_tableIn 91 dX7_count_1 (by rw [k1_7]; decide) (by rw [k1_7]; decide) (off := 90) (by rw [k1_7]; rfl) (by decide) ?_
                  refine G_aload_n 92 rfl rfl dX7_count_91 ?_
                  refine G_gi 95 rfl hR 7 6 0 454 (σ.1 454 0) fl_X7_156 rfl rfl rfl rfl rfl dX7_count_92 ?_
                  refine G_iret (ty := .int) rfl rfl ?_ dX7_count_95
                  exact ⟨by unfold cnt7; simp [*], rfl⟩
                · skip
                  by_cases k1_8 : k = 8
                  · refine G_tableIn 96 dX7_count_1 (by rw [k1_8]; decide) (by rw [k1_8]; decide) (off := 95) (by rw [k1_8]; rfl) (by decide) ?_
                    refine G_aload_n 97 rfl rfl dX7_count_96 ?_
                    refine G_gi 100 rfl hR 7 7 0 455 (σ.1 455 0) fl_X7_159 rfl rfl rfl rfl rfl dX7_count_97 ?_
                    refine G_iret (ty := .int) rfl rfl ?_ dX7_count_100
                    exact ⟨by unfold cnt7; simp [*], rfl⟩
                  · skip
                    refine G_tableOut 101 dX7_count_1 (tb_out (n := 8) (by decide) (fun j hj => by rcases j with _ | _ | _ | _ | _ | _ | _ | _ | _ | j; exact k1_0; exact k1_1; exact k1_2; exact k1_3; exact k1_4; exact k1_5; exact k1_6; exact k1_7; exact k1_8; omega)) (by decide) ?_
                    refine G_iconst 102 rfl (-1) (by decide) dX7_count_101 ?_
                    refine G_iret (ty := .int) rfl rfl ?_ dX7_count_102
                    exact ⟨by unfold cnt7; simp [*], rfl⟩

set_option maxHeartbeats 4000000 in
set_option maxRecDepth 100000 in
theorem lp_X7_held {E : Ev} {m : Nat} {σ : Sg} {τ : Tu} {h : Hp} (hR : RR E m σ τ h)  : ∀ (r a : Nat) (s : Int32), a + r = m → ctA (hB σ m) r a s = ctA (hB σ m) m 0 0 → G E mX7_held (rk 1 0 0) (fun v h' => v = some (.int (ctA (hB σ m) m 0 0)) ∧ h' = h) 4 [some (.ref (aX E)), some (.int s), some (.int (nI a)), none, none] [] h 0 0 := by
  intro r
  induction r with
  | zero =>
    intro a s ha hv
    have hm := hR.1.1
    refine G_iload_n 5 rfl rfl dX7_held_4 ?_
    refine G_aload_n 6 rfl rfl dX7_held_5 ?_
    refine G_x0 9 rfl hR fl_X7_20 dX7_held_6 ?_
    refine G_lenPA 10 rfl hR dX7_held_9 ?_
    refine G_icmpT_ge 67 (nI_le (by omega) (by omega)) (by decide) dX7_held_10 ?_
    refine G_iload_n 68 rfl rfl dX7_held_67 ?_
    refine G_iret (ty := .int) rfl rfl ?_ dX7_held_68
    exact ⟨by rw [← hv]; rfl, rfl⟩
  | succ r ih =>
    intro a s ha hv
    have hm := hR.1.1
    refine G_iload_n 5 rfl rfl dX7_held_4 ?_
    refine G_aload_n 6 rfl rfl dX7_held_5 ?_
    refine G_x0 9 rfl hR fl_X7_20 dX7_held_6 ?_
    refine G_lenPA 10 rfl hR dX7_held_9 ?_
    refine G_icmpF_ge 13 rfl (nI_ge (by omega) (by omega)) ⟨67, by decide⟩ dX7_held_10 ?_
    refine G_aload_n 14 rfl rfl dX7_held_13 ?_
    refine G_x0 17 rfl hR fl_X7_20 dX7_held_14 ?_
    refine G_iload_n 18 rfl rfl dX7_held_17 ?_
    refine G_procs 19 rfl hR (p := a) rfl (show a < m by omega) dX7_held_18 ?_
    refine G_p1 22 rfl hR fl_X7_63 (show a < m by omega) dX7_held_19 ?_
    refine G_astore_n 23 rfl (by decide) dX7_held_22 ?_
    refine G_aload_n 24 rfl rfl dX7_held_23 ?_
    refine G_gi 27 rfl hR 6 0 a 384 (σ.1 384 a) fl_X7_94 (show a < m by omega) rfl rfl rfl rfl dX7_held_24 ?_
    refine G_iconst 28 rfl (2) (by decide) dX7_held_27 ?_
    refine G_icmp_ne 42 31 rfl (by decide) dX7_held_28 (fun c28 => ?_) (fun c28 => ?_)
    · skip
      refine G_null 43 rfl dX7_held_42 ?_
      refine G_astoreN 45 rfl (by decide) dX7_held_43 ?_
      refine G_aloadN 47 rfl rfl dX7_held_45 ?_
      refine G_ifnullN 61 (by decide) dX7_held_47 ?_
      refine G_iinc 64 rfl (nI (a + 1)) rfl (inc1 a) (by decide) dX7_held_61 ?_
      refine G_goto 4 (by decide) dX7_held_64 ?_
      refine G_lw [some (.ref (aX E)), some (.int (s)), some (.int (nI (a + 1))), none, none] (by intro x y hx; rcases x with _ | _ | _ | _ | _ | x <;> first | exact hx | cases hx) ?_
      exact ih (a + 1) _ (by omega) (by
        rw [← hv, ctA_succ, if_neg (show ¬ hB σ m a = true from fun z => ?_)]
        obtain ⟨z1, c, z2, z3, z4⟩ := of_decide_eq_true z
        first
        | exact c28 z1
        | exact absurd e (by rw [z3]; exact fun y => y.elim (nI_pos (by omega)) (nI_ge z2 (by omega)))
        | exact z4 (by rw [← (nI_eq (by omega) (by omega)).mp (e.symm.trans z3)]; exact hcm))
    · skip
      refine G_aload_n 32 rfl rfl dX7_held_31 ?_
      refine G_aload_n 33 rfl rfl dX7_held_32 ?_
      refine G_gi 36 rfl hR 6 2 a 386 (σ.1 386 a) fl_X7_141 (show a < m by omega) rfl rfl rfl rfl dX7_held_33 ?_
      refine G_callV 39 rfl [.int (σ.1 386 a)] (c_X7_procAt hR (σ.1 386 a)) ok_X7_procAt ov_X7_procAt ml_X7_78 (hR.ob (ci := 7) (i := 0) (by decide) rfl) ⟨by decide, rfl⟩ rfl ⟨by decide, by decide⟩ rfl rfl (Nat.le_of_ble_eq_true rfl) rfl dX7_held_36 ?_
      rintro v h' ⟨⟨q, hq, e, rfl⟩ | ⟨e, rfl⟩, rfl⟩
      · skip
        refine G_goto 43 (by decide) dX7_held_39 ?_
        refine G_astore 45 rfl (by decide) dX7_held_43 ?_
        refine G_aload 47 rfl rfl dX7_held_45 ?_
        refine G_ifnull 50 rfl dX7_held_47 ?_
        refine G_aload 52 rfl rfl dX7_held_50 ?_
        refine G_callV 55 rfl [] (c_X5_isClaiming hR hq) ok_X5_isClaiming ov_X5_isClaiming ml_X7_101 (hR.ob (ci := 5) (i := q) (by decide) hq) ⟨by decide, rfl⟩ rfl ⟨by decide, by decide⟩ rfl rfl (Nat.le_of_ble_eq_true rfl) rfl dX7_held_52 ?_
        rintro v h' ⟨⟨hcm, rfl⟩ | ⟨hcm, rfl⟩, rfl⟩
        · skip
          refine G_ifT_ne 61 (by decide) (by decide) dX7_held_55 ?_
          refine G_iinc 64 rfl (nI (a + 1)) rfl (inc1 a) (by decide) dX7_held_61 ?_
          refine G_goto 4 (by decide) dX7_held_64 ?_
          refine G_lw [some (.ref (aX E)), some (.int (s)), some (.int (nI (a + 1))), none, none] (by intro x y hx; rcases x with _ | _ | _ | _ | _ | x <;> first | exact hx | cases hx) ?_
          exact ih (a + 1) _ (by omega) (by
            rw [← hv, ctA_succ, if_neg (show ¬ hB σ m a = true from fun z => ?_)]
            obtain ⟨z1, c, z2, z3, z4⟩ := of_decide_eq_true z
            first
            | exact c28 z1
            | exact absurd e (by rw [z3]; exact fun y => y.elim (nI_pos (by omega)) (nI_ge z2 (by omega)))
            | exact z4 (by rw [← (nI_eq (by omega) (by omega)).mp (e.symm.trans z3)]; exact hcm))
        · skip
          refine G_ifF_ne 58 rfl (by decide) ⟨61, by decide⟩ dX7_held_55 ?_
          refine G_iinc 61 rfl (s + 1) rfl (rfl) (by decide) dX7_held_58 ?_
          refine G_iinc 64 rfl (nI (a + 1)) rfl (inc1 a) (by decide) dX7_held_61 ?_
          refine G_goto 4 (by decide) dX7_held_64 ?_
          refine G_lw [some (.ref (aX E)), some (.int (s + 1)), some (.int (nI (a + 1))), none, none] (by intro x y hx; rcases x with _ | _ | _ | _ | _ | x <;> first | exact hx | cases hx) ?_
          exact ih (a + 1) _ (by omega) (by rw [← hv, ctA_succ, if_pos (show hB σ m a = true from decide_eq_true ⟨c28, q, hq, e, hcm⟩)])
      · skip
        refine G_goto 43 (by decide) dX7_held_39 ?_
        refine G_astoreN 45 rfl (by decide) dX7_held_43 ?_
        refine G_aloadN 47 rfl rfl dX7_held_45 ?_
        refine G_ifnullN 61 (by decide) dX7_held_47 ?_
        refine G_iinc 64 rfl (nI (a + 1)) rfl (inc1 a) (by decide) dX7_held_61 ?_
        refine G_goto 4 (by decide) dX7_held_64 ?_
        refine G_lw [some (.ref (aX E)), some (.int (s)), some (.int (nI (a + 1))), none, none] (by intro x y hx; rcases x with _ | _ | _ | _ | _ | x <;> first | exact hx | cases hx) ?_
        exact ih (a + 1) _ (by omega) (by
          rw [← hv, ctA_succ, if_neg (show ¬ hB σ m a = true from fun z => ?_)]
          obtain ⟨z1, c, z2, z3, z4⟩ := of_decide_eq_true z
          first
          | exact c28 z1
          | exact absurd e (by rw [z3]; exact fun y => y.elim (nI_pos (by omega)) (nI_ge z2 (by omega)))
          | exact z4 (by rw [← (nI_eq (by omega) (by omega)).mp (e.symm.trans z3)]; exact hcm))

set_option maxHeartbeats 4000000 in
set_option maxRecDepth 100000 in
theorem c_X7_held {E : Ev} {m : Nat} {σ : Sg} {τ : Tu} {h : Hp} (hR : RR E m σ τ h)  : Cn E mX7_held (rk 1 0 0) h [.ref (aX E)] (fun v h' => v = some (.int (ctA (hB σ m) m 0 0)) ∧ h' = h) := by
  refine Cn_of (by decide) rfl (by simp [Value.category]) (Nat.le_of_ble_eq_true rfl) ?_
  refine G_iconst 1 rfl (0) (by decide) dX7_held_0 ?_
  refine G_istore_n 2 rfl (by decide) dX7_held_1 ?_
  refine G_iconst 3 rfl (0) (by decide) dX7_held_2 ?_
  refine G_istore_n 4 rfl (by decide) dX7_held_3 ?_
  exact lp_X7_held hR m 0 0 (by omega) rfl

set_option maxHeartbeats 4000000 in
set_option maxRecDepth 100000 in
theorem c_X7_step {E : Ev} {m : Nat} {σ : Sg} {τ : Tu} {h : Hp} (hR : RR E m σ τ h) (i : Int32) (hAO : ∀ p, p < m → AO m σ p) : Cn E mX7_step (rk 5 1 6) h [.ref (aX E), .int i] (fun v h' => (∃ p, p < m ∧ i = nI p ∧ (((¬ σ.1 325 p < 2 ∧ ¬ 11 < σ.1 325 p) ∧ v = some (.int (stdg (acc σ p) p)) ∧ RR E m (acc σ p) τ h') ∨ (¬ (¬ σ.1 325 p < 2 ∧ ¬ 11 < σ.1 325 p) ∧ v = some (.int (stdg σ p)) ∧ RR E m σ τ h'))) ∨ ((i < 0 ∨ nI m ≤ i) ∧ v = some (.int (-1)) ∧ RR E m σ τ h')) := by
  refine Cn_of (by decide) rfl (by simp [Value.category]) (Nat.le_of_ble_eq_true rfl) ?_
  refine G_aload_n 1 rfl rfl dX7_step_0 ?_
  refine G_iload_n 2 rfl rfl dX7_step_1 ?_
  refine G_callV 5 rfl [.int i] (c_X7_procAt hR i) ok_X7_procAt ov_X7_procAt ml_X7_78 (hR.ob (ci := 7) (i := 0) (by decide) rfl) ⟨by decide, rfl⟩ rfl ⟨by decide, by decide⟩ rfl rfl (Nat.le_of_ble_eq_true rfl) rfl dX7_step_2 ?_
  rintro v h' ⟨⟨p, hp, e, rfl⟩ | ⟨e, rfl⟩, rfl⟩
  · skip
    refine G_astore_n 6 rfl (by decide) dX7_step_5 ?_
    refine G_aload_n 7 rfl rfl dX7_step_6 ?_
    refine G_ifnonnull 12 (by decide) dX7_step_7 ?_
    refine G_aload_n 13 rfl rfl dX7_step_12 ?_
    refine G_callV 16 rfl [] (c_X5_isOffering hR hp) ok_X5_isOffering ov_X5_isOffering ml_X7_82 (hR.ob (ci := 5) (i := p) (by decide) hp) ⟨by decide, rfl⟩ rfl ⟨by decide, by decide⟩ rfl rfl (Nat.le_of_ble_eq_true rfl) rfl dX7_step_13 ?_
    rintro v h' ⟨⟨hof, rfl⟩ | ⟨hof, rfl⟩, rfl⟩
    · skip
      refine G_ifF_eq 19 rfl (by decide) ⟨24, by decide⟩ dX7_step_16 ?_
      refine G_aload_n 20 rfl rfl dX7_step_19 ?_
      refine G_aload_n 21 rfl rfl dX7_step_20 ?_
      refine G_callV 24 rfl [.ref (aP E p)] (c_X7_access hR hp hof.1 hof.2 (hAO p hp)) ok_X7_access ov_X7_access ml_X7_86 (hR.ob (ci := 7) (i := 0) (by decide) rfl) ⟨by decide, rfl⟩ rfl ⟨by decide, by decide⟩ (ac' := 0) (as' := 0) rfl rfl (Nat.le_of_ble_eq_true rfl) rfl dX7_step_21 ?_
      rintro v h ⟨rfl, hR⟩
      refine G_aload_n 25 rfl rfl dX7_step_24 ?_
      refine G_callV 28 rfl [] (c_X5_standing hR hp) ok_X5_standing ov_X5_standing ml_X7_90 (hR.ob (ci := 5) (i := p) (by decide) hp) ⟨by decide, rfl⟩ rfl ⟨by decide, by decide⟩ rfl rfl (Nat.le_of_ble_eq_true rfl) rfl dX7_step_25 ?_
      rintro v h' ⟨rfl, rfl⟩
      refine G_iret (ty := .int) rfl rfl ?_ dX7_step_28
      exact Or.inl ⟨p, hp, e, Or.inl ⟨hof, rfl, hR⟩⟩
    · skip
      refine G_ifT_eq 24 (by decide) (by decide) dX7_step_16 ?_
      refine G_aload_n 25 rfl rfl dX7_step_24 ?_
      refine G_callV 28 rfl [] (c_X5_standing hR hp) ok_X5_standing ov_X5_standing ml_X7_90 (hR.ob (ci := 5) (i := p) (by decide) hp) ⟨by decide, rfl⟩ rfl ⟨by decide, by decide⟩ rfl rfl (Nat.le_of_ble_eq_true rfl) rfl dX7_step_25 ?_
      rintro v h' ⟨rfl, rfl⟩
      refine G_iret (ty := .int) rfl rfl ?_ dX7_step_28
      exact Or.inl ⟨p, hp, e, Or.inr ⟨hof, rfl, hR⟩⟩
  · skip
    refine G_astore_nN 6 rfl (by decide) dX7_step_5 ?_
    refine G_aload_nN 7 rfl rfl dX7_step_6 ?_
    refine G_ifnonnullN 10 rfl dX7_step_7 ?_
    refine G_iconst 11 rfl (-1) (by decide) dX7_step_10 ?_
    refine G_iret (ty := .int) rfl rfl ?_ dX7_step_11
    exact Or.inr ⟨e, rfl, hR⟩

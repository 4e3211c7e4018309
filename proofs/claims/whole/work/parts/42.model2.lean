set_option maxHeartbeats 4000000 in
set_option maxRecDepth 100000 in
theorem m_publishes {E : Ev} {m : Nat} {σ : Sg} {τ : Tu} {h : Hp} (hR : RR E m σ τ h) {p : Nat} (hp : p < m) {j : Nat} (hat : τ 18 p = nI j) (hj8 : j < 8) {e : Nat} (he : τ 31 0 = nI e) (heb : e < 130) : Cn E mX8_publishes (rk 0 0 0) h [.ref (aM E m), .int (nI p)] (fun v h' => v = none ∧ RR E m σ (mPb τ p j e) h') := by
  refine Cn_of (by decide) rfl (by simp [Value.category]) (Nat.le_of_ble_eq_true rfl) ?_
  have hm := hR.1.1
  refine G_bipush 2 rfl (8) (by decide) dX8_publishes_0 ?_
  refine G_iload_n 3 rfl rfl dX8_publishes_2 ?_
  refine G_imul 4 rfl dX8_publishes_3 ?_
  refine G_aload_n 5 rfl rfl dX8_publishes_4 ?_
  refine G_mR 8 rfl hR fl_X8_44 ia_18 rfl dX8_publishes_5 ?_
  refine G_iload_n 9 rfl rfl dX8_publishes_8 ?_
  refine G_mldV 10 rfl hR (k := 18) p (v := τ 18 p) rfl rfl ia_18 rfl (show p < 16 by omega) dX8_publishes_9 ?_
  refine G_iadd 11 rfl dX8_publishes_10 ?_
  rw [hat, e88]
  refine G_istore_n 12 rfl (by decide) dX8_publishes_11 ?_
  refine G_aload_n 13 rfl rfl dX8_publishes_12 ?_
  refine G_dup 14 rfl rfl dX8_publishes_13 ?_
  refine G_mi 17 rfl hR (v := τ 4 0) rfl fl_X8_133 (by decide) rfl dX8_publishes_14 ?_
  refine G_iconst 18 rfl (1) (by decide) dX8_publishes_17 ?_
  refine G_iadd 19 rfl dX8_publishes_18 ?_
  refine G_pM 22 rfl hR fl_X8_133 (by decide) ⟨rfl, rfl, rfl⟩ dX8_publishes_19 (fun h hR => ?_)
  refine G_aload_n 23 rfl rfl dX8_publishes_22 ?_
  refine G_mR 26 rfl hR fl_X8_83 ia_32 rfl dX8_publishes_23 ?_
  refine G_aload_n 27 rfl rfl dX8_publishes_26 ?_
  refine G_mi 30 rfl hR (v := τ 31 0) rfl fl_X8_136 (by decide) rfl dX8_publishes_27 ?_
  refine G_iload_n 31 rfl rfl dX8_publishes_30 ?_
  refine G_mst 32 rfl hR (k := 32) e he ia_32 rfl (show e < 130 by omega) dX8_publishes_31 (fun h hR => ?_)
  refine G_aload_n 33 rfl rfl dX8_publishes_32 ?_
  refine G_mR 36 rfl hR fl_X8_86 ia_33 rfl dX8_publishes_33 ?_
  refine G_aload_n 37 rfl rfl dX8_publishes_36 ?_
  refine G_mi 40 rfl hR (v := τ 31 0) rfl fl_X8_136 (by decide) rfl dX8_publishes_37 ?_
  refine G_aload_n 41 rfl rfl dX8_publishes_40 ?_
  refine G_mR 44 rfl hR fl_X8_38 ia_16 rfl dX8_publishes_41 ?_
  refine G_iload_n 45 rfl rfl dX8_publishes_44 ?_
  refine G_mldV 46 rfl hR (k := 16) p (v := τ 16 p) rfl rfl ia_16 rfl (show p < 16 by omega) dX8_publishes_45 ?_
  refine G_mst 47 rfl hR (k := 33) e he ia_33 rfl (show e < 130 by omega) dX8_publishes_46 (fun h hR => ?_)
  refine G_aload_n 48 rfl rfl dX8_publishes_47 ?_
  refine G_mR 51 rfl hR fl_X8_89 ia_34 rfl dX8_publishes_48 ?_
  refine G_aload_n 52 rfl rfl dX8_publishes_51 ?_
  refine G_mi 55 rfl hR (v := τ 31 0) rfl fl_X8_136 (by decide) rfl dX8_publishes_52 ?_
  refine G_aload_n 56 rfl rfl dX8_publishes_55 ?_
  refine G_mR 59 rfl hR fl_X8_16 ia_9 rfl dX8_publishes_56 ?_
  refine G_iload_n 60 rfl rfl dX8_publishes_59 ?_
  refine G_mldV 61 rfl hR (k := 9) (8 * p + j) (v := τ 9 (8 * p + j)) rfl rfl ia_9 rfl (show 8 * p + j < 128 by omega) dX8_publishes_60 ?_
  refine G_mst 62 rfl hR (k := 34) e he ia_34 rfl (show e < 130 by omega) dX8_publishes_61 (fun h hR => ?_)
  refine G_aload_n 63 rfl rfl dX8_publishes_62 ?_
  refine G_mR 66 rfl hR fl_X8_92 ia_35 rfl dX8_publishes_63 ?_
  refine G_aload_n 67 rfl rfl dX8_publishes_66 ?_
  refine G_mi 70 rfl hR (v := τ 31 0) rfl fl_X8_136 (by decide) rfl dX8_publishes_67 ?_
  refine G_aload_n 71 rfl rfl dX8_publishes_70 ?_
  refine G_mR 74 rfl hR fl_X8_22 ia_11 rfl dX8_publishes_71 ?_
  refine G_iload_n 75 rfl rfl dX8_publishes_74 ?_
  refine G_mldV 76 rfl hR (k := 11) (8 * p + j) (v := τ 11 (8 * p + j)) rfl rfl ia_11 rfl (show 8 * p + j < 128 by omega) dX8_publishes_75 ?_
  refine G_mst 77 rfl hR (k := 35) e he ia_35 rfl (show e < 130 by omega) dX8_publishes_76 (fun h hR => ?_)
  refine G_aload_n 78 rfl rfl dX8_publishes_77 ?_
  refine G_mR 81 rfl hR fl_X8_95 ia_36 rfl dX8_publishes_78 ?_
  refine G_aload_n 82 rfl rfl dX8_publishes_81 ?_
  refine G_mi 85 rfl hR (v := τ 31 0) rfl fl_X8_136 (by decide) rfl dX8_publishes_82 ?_
  refine G_aload_n 86 rfl rfl dX8_publishes_85 ?_
  refine G_mi 89 rfl hR (v := (τ 4 0) + 1) (by simp [ut]) fl_X8_133 (by decide) rfl dX8_publishes_86 ?_
  refine G_mst 90 rfl hR (k := 36) e he ia_36 rfl (show e < 130 by omega) dX8_publishes_89 (fun h hR => ?_)
  refine G_aload_n 91 rfl rfl dX8_publishes_90 ?_
  refine G_mR 94 rfl hR fl_X8_98 ia_37 rfl dX8_publishes_91 ?_
  refine G_aload_n 95 rfl rfl dX8_publishes_94 ?_
  refine G_mi 98 rfl hR (v := τ 31 0) rfl fl_X8_136 (by decide) rfl dX8_publishes_95 ?_
  refine G_aload_n 99 rfl rfl dX8_publishes_98 ?_
  refine G_mR 102 rfl hR fl_X8_19 ia_10 rfl dX8_publishes_99 ?_
  refine G_iload_n 103 rfl rfl dX8_publishes_102 ?_
  refine G_mldV 104 rfl hR (k := 10) (8 * p + j) (v := τ 10 (8 * p + j)) rfl rfl ia_10 rfl (show 8 * p + j < 128 by omega) dX8_publishes_103 ?_
  refine G_mst 105 rfl hR (k := 37) e he ia_37 rfl (show e < 130 by omega) dX8_publishes_104 (fun h hR => ?_)
  refine G_aload_n 106 rfl rfl dX8_publishes_105 ?_
  refine G_dup 107 rfl rfl dX8_publishes_106 ?_
  refine G_mi 110 rfl hR (v := τ 31 0) rfl fl_X8_136 (by decide) rfl dX8_publishes_107 ?_
  refine G_iconst 111 rfl (1) (by decide) dX8_publishes_110 ?_
  refine G_iadd 112 rfl dX8_publishes_111 ?_
  refine G_pM 115 rfl hR fl_X8_136 (by decide) ⟨rfl, rfl, rfl⟩ dX8_publishes_112 (fun h hR => ?_)
  refine G_ret rfl ?_ dX8_publishes_115
  exact ⟨rfl, hR⟩

set_option maxHeartbeats 4000000 in
set_option maxRecDepth 100000 in
theorem lp_X8_removes {E : Ev} {m : Nat} {σ : Sg} {τ : Tu} {k e1 : Nat} (he : τ 31 0 = nI e1) (heb : e1 ≤ 128) : ∀ (r a : Nat), a + r = e1 → k ≤ a → ∀ (h : Hp), RR E m σ (shf τ k a) h → G E mX8_removes (rk 0 0 0) (fun v h' => v = none ∧ RR E m σ (shf τ k e1) h') 12 [some (.ref (aM E m)), some (.int (nI k)), some (.int (nI a))] [] h 0 0 := by
  intro r
  induction r with
  | zero =>
    intro a ha hka h hR
    obtain rfl : a = e1 := by omega
    refine G_iload_n 13 rfl rfl dX8_removes_12 ?_
    refine G_aload_n 14 rfl rfl dX8_removes_13 ?_
    refine G_mi 17 rfl hR (v := nI a) (by rw [shf_k _ _ _ _ _ (by omega)]; exact he) fl_X8_136 (by decide) rfl dX8_removes_14 ?_
    refine G_icmpT_ge 110 (nI_le (Nat.le_refl _) (by omega)) (by decide) dX8_removes_17 ?_
    refine G_ret rfl ?_ dX8_removes_110
    exact ⟨rfl, hR⟩
  | succ r ih =>
    intro a ha hka h hR
    refine G_iload_n 13 rfl rfl dX8_removes_12 ?_
    refine G_aload_n 14 rfl rfl dX8_removes_13 ?_
    refine G_mi 17 rfl hR (v := nI e1) (by rw [shf_k _ _ _ _ _ (by omega)]; exact he) fl_X8_136 (by decide) rfl dX8_removes_14 ?_
    refine G_icmpF_ge 20 rfl (nI_ge (by omega) (by omega)) ⟨110, by decide⟩ dX8_removes_17 ?_
    refine G_aload_n 21 rfl rfl dX8_removes_20 ?_
    refine G_mR 24 rfl hR fl_X8_83 ia_32 rfl dX8_removes_21 ?_
    refine G_iload_n 25 rfl rfl dX8_removes_24 ?_
    refine G_aload_n 26 rfl rfl dX8_removes_25 ?_
    refine G_mR 29 rfl hR fl_X8_83 ia_32 rfl dX8_removes_26 ?_
    refine G_iload_n 30 rfl rfl dX8_removes_29 ?_
    refine G_iconst 31 rfl (1) (by decide) dX8_removes_30 ?_
    refine G_iadd 32 rfl dX8_removes_31 ?_
    refine G_mldV 33 rfl hR (k := 32) (a + 1) (v := τ 32 (a + 1)) (shf_at τ k a 32 (a + 1) (by omega)) (nI_1 a) ia_32 rfl (show a + 1 < 130 by omega) dX8_removes_32 ?_
    refine G_mst 34 rfl hR (k := 32) a rfl ia_32 rfl (show a < 130 by omega) dX8_removes_33 (fun h hR => ?_)
    refine G_aload_n 35 rfl rfl dX8_removes_34 ?_
    refine G_mR 38 rfl hR fl_X8_86 ia_33 rfl dX8_removes_35 ?_
    refine G_iload_n 39 rfl rfl dX8_removes_38 ?_
    refine G_aload_n 40 rfl rfl dX8_removes_39 ?_
    refine G_mR 43 rfl hR fl_X8_86 ia_33 rfl dX8_removes_40 ?_
    refine G_iload_n 44 rfl rfl dX8_removes_43 ?_
    refine G_iconst 45 rfl (1) (by decide) dX8_removes_44 ?_
    refine G_iadd 46 rfl dX8_removes_45 ?_
    refine G_mldV 47 rfl hR (k := 33) (a + 1) (v := τ 33 (a + 1)) (shf_at τ k a 33 (a + 1) (by omega)) (nI_1 a) ia_33 rfl (show a + 1 < 130 by omega) dX8_removes_46 ?_
    refine G_mst 48 rfl hR (k := 33) a rfl ia_33 rfl (show a < 130 by omega) dX8_removes_47 (fun h hR => ?_)
    refine G_aload_n 49 rfl rfl dX8_removes_48 ?_
    refine G_mR 52 rfl hR fl_X8_89 ia_34 rfl dX8_removes_49 ?_
    refine G_iload_n 53 rfl rfl dX8_removes_52 ?_
    refine G_aload_n 54 rfl rfl dX8_removes_53 ?_
    refine G_mR 57 rfl hR fl_X8_89 ia_34 rfl dX8_removes_54 ?_
    refine G_iload_n 58 rfl rfl dX8_removes_57 ?_
    refine G_iconst 59 rfl (1) (by decide) dX8_removes_58 ?_
    refine G_iadd 60 rfl dX8_removes_59 ?_
    refine G_mldV 61 rfl hR (k := 34) (a + 1) (v := τ 34 (a + 1)) (shf_at τ k a 34 (a + 1) (by omega)) (nI_1 a) ia_34 rfl (show a + 1 < 130 by omega) dX8_removes_60 ?_
    refine G_mst 62 rfl hR (k := 34) a rfl ia_34 rfl (show a < 130 by omega) dX8_removes_61 (fun h hR => ?_)
    refine G_aload_n 63 rfl rfl dX8_removes_62 ?_
    refine G_mR 66 rfl hR fl_X8_92 ia_35 rfl dX8_removes_63 ?_
    refine G_iload_n 67 rfl rfl dX8_removes_66 ?_
    refine G_aload_n 68 rfl rfl dX8_removes_67 ?_
    refine G_mR 71 rfl hR fl_X8_92 ia_35 rfl dX8_removes_68 ?_
    refine G_iload_n 72 rfl rfl dX8_removes_71 ?_
    refine G_iconst 73 rfl (1) (by decide) dX8_removes_72 ?_
    refine G_iadd 74 rfl dX8_removes_73 ?_
    refine G_mldV 75 rfl hR (k := 35) (a + 1) (v := τ 35 (a + 1)) (shf_at τ k a 35 (a + 1) (by omega)) (nI_1 a) ia_35 rfl (show a + 1 < 130 by omega) dX8_removes_74 ?_
    refine G_mst 76 rfl hR (k := 35) a rfl ia_35 rfl (show a < 130 by omega) dX8_removes_75 (fun h hR => ?_)
    refine G_aload_n 77 rfl rfl dX8_removes_76 ?_
    refine G_mR 80 rfl hR fl_X8_95 ia_36 rfl dX8_removes_77 ?_
    refine G_iload_n 81 rfl rfl dX8_removes_80 ?_
    refine G_aload_n 82 rfl rfl dX8_removes_81 ?_
    refine G_mR 85 rfl hR fl_X8_95 ia_36 rfl dX8_removes_82 ?_
    refine G_iload_n 86 rfl rfl dX8_removes_85 ?_
    refine G_iconst 87 rfl (1) (by decide) dX8_removes_86 ?_
    refine G_iadd 88 rfl dX8_removes_87 ?_
    refine G_mldV 89 rfl hR (k := 36) (a + 1) (v := τ 36 (a + 1)) (shf_at τ k a 36 (a + 1) (by omega)) (nI_1 a) ia_36 rfl (show a + 1 < 130 by omega) dX8_removes_88 ?_
    refine G_mst 90 rfl hR (k := 36) a rfl ia_36 rfl (show a < 130 by omega) dX8_removes_89 (fun h hR => ?_)
    refine G_aload_n 91 rfl rfl dX8_removes_90 ?_
    refine G_mR 94 rfl hR fl_X8_98 ia_37 rfl dX8_removes_91 ?_
    refine G_iload_n 95 rfl rfl dX8_removes_94 ?_
    refine G_aload_n 96 rfl rfl dX8_removes_95 ?_
    refine G_mR 99 rfl hR fl_X8_98 ia_37 rfl dX8_removes_96 ?_
    refine G_iload_n 100 rfl rfl dX8_removes_99 ?_
    refine G_iconst 101 rfl (1) (by decide) dX8_removes_100 ?_
    refine G_iadd 102 rfl dX8_removes_101 ?_
    refine G_mldV 103 rfl hR (k := 37) (a + 1) (v := τ 37 (a + 1)) (shf_at τ k a 37 (a + 1) (by omega)) (nI_1 a) ia_37 rfl (show a + 1 < 130 by omega) dX8_removes_102 ?_
    refine G_mst 104 rfl hR (k := 37) a rfl ia_37 rfl (show a < 130 by omega) dX8_removes_103 (fun h hR => ?_)
    refine G_iinc 107 rfl (nI (a + 1)) rfl (inc1 a) (by decide) dX8_removes_104 ?_
    refine G_goto 12 (by decide) dX8_removes_107 ?_
    rw [shf_s τ hka] at hR
    exact ih (a + 1) (by omega) (by omega) _ hR

set_option maxHeartbeats 4000000 in
set_option maxRecDepth 100000 in
theorem m_removes {E : Ev} {m : Nat} {σ : Sg} {τ : Tu} {h : Hp} (hR : RR E m σ τ h) {k e : Nat} (hk : k < e) (he : τ 31 0 = nI e) (heb : e ≤ 129) : Cn E mX8_removes (rk 0 0 0) h [.ref (aM E m), .int (nI k)] (fun v h' => v = none ∧ RR E m σ (mRem τ k) h') := by
  refine Cn_of (by decide) rfl (by simp [Value.category]) (Nat.le_of_ble_eq_true rfl) ?_
  have hm := hR.1.1
  refine G_aload_n 1 rfl rfl dX8_removes_0 ?_
  refine G_dup 2 rfl rfl dX8_removes_1 ?_
  refine G_mi 5 rfl hR (v := τ 31 0) rfl fl_X8_136 (by decide) rfl dX8_removes_2 ?_
  refine G_iconst 6 rfl (1) (by decide) dX8_removes_5 ?_
  refine G_isub 7 rfl dX8_removes_6 ?_
  refine G_pM 10 rfl hR fl_X8_136 (by decide) ⟨rfl, rfl, rfl⟩ dX8_removes_7 (fun h hR => ?_)
  refine G_iload_n 11 rfl rfl dX8_removes_10 ?_
  refine G_istore_n 12 rfl (by decide) dX8_removes_11 ?_
  obtain ⟨e1, rfl⟩ : ∃ x, e = x + 1 := ⟨e - 1, by omega⟩
  have e3 : τ 31 0 - 1 = nI e1 := by rw [he]; exact nI_pred e1
  have hlp := lp_X8_removes (σ := σ) (E := E) (m := m) (τ := ut τ 31 0 (τ 31 0 - 1)) (k := k) (e1 := e1) (by rw [ut_same]; exact e3) (by omega) (e1 - k) k (by omega) (Nat.le_refl _) h (by rw [shf_0]; exact hR)
  have e4 : mRem τ k = shf (ut τ 31 0 (τ 31 0 - 1)) k e1 := by unfold mRem mEn; rw [he, cN_nI (by omega)]; rfl
  rw [e4]
  exact hlp

set_option maxHeartbeats 4000000 in
set_option maxRecDepth 100000 in
theorem lp_X8_looks {E : Ev} {m : Nat} {σ : Sg} {τ : Tu} {h : Hp} (hR : RR E m σ τ h) {p : Nat} (hp : p < m) {g : Nat} (hg : τ 8 p = nI g) (hg8 : g ≤ 8) {j : Nat} (hat : τ 18 p = nI j) (hj8 : j < 8) {e : Nat} (he : τ 31 0 = nI e) (heb : e ≤ 129) : ∀ (n a : Nat), a + n = e → fBy (mLooP τ p j) n a = fBy (mLooP τ p j) e 0 → G E mX8_looks (rk 1 0 0) (fun v h' => v = none ∧ RR E m σ (mLoo τ p j) h') 19 [some (.ref (aM E m)), some (.int (nI p)), some (.int (τ 10 (8 * p + j))), some (.int (nI a))] [] h 0 0 := by
  intro n
  induction n with
  | zero =>
    intro a ha hb
    have hm := hR.1.1
    have hen : mEn τ = e := by unfold mEn; rw [he]; exact cN_nI (by omega)
    refine G_iload_n 20 rfl rfl dX8_looks_19 ?_
    refine G_aload_n 21 rfl rfl dX8_looks_20 ?_
    refine G_mi 24 rfl hR (v := τ 31 0) rfl fl_X8_136 (by decide) rfl dX8_looks_21 ?_
    refine G_icmpT_ge 58 (by rw [he]; exact nI_le (by omega) (by omega)) (by decide) dX8_looks_24 ?_
    refine G_iload_n 59 rfl rfl dX8_looks_58 ?_
    refine G_aload_n 60 rfl rfl dX8_looks_59 ?_
    refine G_mi 63 rfl hR (v := τ 31 0) rfl fl_X8_136 (by decide) rfl dX8_looks_60 ?_
    refine G_icmpF_ne 66 rfl (by rw [he]; congr 1) ⟨83, by decide⟩ dX8_looks_63 ?_
    refine G_aload_n 67 rfl rfl dX8_looks_66 ?_
    refine G_iload_n 68 rfl rfl dX8_looks_67 ?_
    refine G_aload_n 69 rfl rfl dX8_looks_68 ?_
    refine G_iload_n 70 rfl rfl dX8_looks_69 ?_
    refine G_aload_n 71 rfl rfl dX8_looks_70 ?_
    refine G_mR 74 rfl hR fl_X8_44 ia_18 rfl dX8_looks_71 ?_
    refine G_iload_n 75 rfl rfl dX8_looks_74 ?_
    refine G_mldV 76 rfl hR (k := 18) p (v := τ 18 p) rfl rfl ia_18 rfl (show p < 16 by omega) dX8_looks_75 ?_
    refine G_callV 79 rfl [.int (nI p), .int (τ 18 p)] (m_onBehind hR hp hg hg8 (j + 1) (by omega) (τ 18 p) (by rw [hat]; exact nI_1 j)) ok_X8_onBehind ov_X8_onBehind ml_X8_126 (hR.ob (ci := 8) (i := 0) (by decide) rfl) ⟨by decide, rfl⟩ rfl ⟨by decide, by decide⟩ rfl rfl (Nat.le_of_ble_eq_true rfl) rfl dX8_looks_76 ?_
    rintro v h' ⟨rfl, rfl⟩
    have hnx : ∀ i, mNx τ p (j + 1) = some i → i < 9 := fun i hi => by
      have := fOn_some hi
      rw [hg, cN_nI (by omega)] at this
      omega
    refine G_callV 82 rfl [.int (nI p), .int (oI (mNx τ p (j + 1)))] (m_looksOn hR hp (mNx τ p (j + 1)) hnx) ok_X8_looksOn ov_X8_looksOn ml_X8_149 (hR.ob (ci := 8) (i := 0) (by decide) rfl) ⟨by decide, rfl⟩ rfl ⟨by decide, by decide⟩ rfl rfl (Nat.le_of_ble_eq_true rfl) rfl dX8_looks_79 ?_
    rintro v h ⟨rfl, hR⟩
    refine G_ret rfl ?_ dX8_looks_82
    refine ⟨rfl, ?_⟩
    unfold mLoo
    rw [hen, ← hb]
    exact hR
  | succ n ih =>
    intro a ha hb
    have hm := hR.1.1
    have hen : mEn τ = e := by unfold mEn; rw [he]; exact cN_nI (by omega)
    refine G_iload_n 20 rfl rfl dX8_looks_19 ?_
    refine G_aload_n 21 rfl rfl dX8_looks_20 ?_
    refine G_mi 24 rfl hR (v := τ 31 0) rfl fl_X8_136 (by decide) rfl dX8_looks_21 ?_
    refine G_icmpF_ge 27 rfl (by rw [he]; exact nI_ge (by omega) (by omega)) ⟨58, by decide⟩ dX8_looks_24 ?_
    refine G_aload_n 28 rfl rfl dX8_looks_27 ?_
    refine G_mR 31 rfl hR fl_X8_98 ia_37 rfl dX8_looks_28 ?_
    refine G_iload_n 32 rfl rfl dX8_looks_31 ?_
    refine G_mldV 33 rfl hR (k := 37) a (v := τ 37 a) rfl rfl ia_37 rfl (show a < 130 by omega) dX8_looks_32 ?_
    refine G_iload_n 34 rfl rfl dX8_looks_33 ?_
    refine G_icmp_ne 52 37 rfl (by decide) dX8_looks_34 (fun c34 => ?_) (fun c34 => ?_)
    · skip
      refine G_iinc 55 rfl (nI (a + 1)) rfl (inc1 a) (by decide) dX8_looks_52 ?_
      refine G_goto 19 (by decide) dX8_looks_55 ?_
      exact ih (a + 1) (by omega) (by rw [← hb, fBy_succ, if_neg (by unfold mLooP; simp only [Bool.and_eq_true, decide_eq_true_eq]; first | exact fun z => c49 z.2 | exact fun z => c34 z.1)])
    · skip
      refine G_aload_n 38 rfl rfl dX8_looks_37 ?_
      refine G_mR 41 rfl hR fl_X8_95 ia_36 rfl dX8_looks_38 ?_
      refine G_iload_n 42 rfl rfl dX8_looks_41 ?_
      refine G_mldV 43 rfl hR (k := 36) a (v := τ 36 a) rfl rfl ia_36 rfl (show a < 130 by omega) dX8_looks_42 ?_
      refine G_aload_n 44 rfl rfl dX8_looks_43 ?_
      refine G_mR 47 rfl hR fl_X8_47 ia_19 rfl dX8_looks_44 ?_
      refine G_iload_n 48 rfl rfl dX8_looks_47 ?_
      refine G_mldV 49 rfl hR (k := 19) p (v := τ 19 p) rfl rfl ia_19 rfl (show p < 16 by omega) dX8_looks_48 ?_
      refine G_icmp_gt 58 52 rfl (by decide) dX8_looks_49 (fun c49 => ?_) (fun c49 => ?_)
      · skip
        refine G_iload_n 59 rfl rfl dX8_looks_58 ?_
        refine G_aload_n 60 rfl rfl dX8_looks_59 ?_
        refine G_mi 63 rfl hR (v := τ 31 0) rfl fl_X8_136 (by decide) rfl dX8_looks_60 ?_
        refine G_icmpT_ne 83 (by rw [he]; exact fun z => absurd ((nI_eq (by omega) (by omega)).mp z) (by omega)) (by decide) dX8_looks_63 ?_
        refine G_aload_n 84 rfl rfl dX8_looks_83 ?_
        refine G_mR 87 rfl hR fl_X8_47 ia_19 rfl dX8_looks_84 ?_
        refine G_iload_n 88 rfl rfl dX8_looks_87 ?_
        refine G_aload_n 89 rfl rfl dX8_looks_88 ?_
        refine G_mR 92 rfl hR fl_X8_95 ia_36 rfl dX8_looks_89 ?_
        refine G_iload_n 93 rfl rfl dX8_looks_92 ?_
        refine G_mldV 94 rfl hR (k := 36) a (v := τ 36 a) rfl rfl ia_36 rfl (show a < 130 by omega) dX8_looks_93 ?_
        refine G_mst 95 rfl hR (k := 19) p rfl ia_19 rfl (show p < 16 by omega) dX8_looks_94 (fun h hR => ?_)
        refine G_aload_n 96 rfl rfl dX8_looks_95 ?_
        refine G_mR 99 rfl hR fl_X8_83 ia_32 rfl dX8_looks_96 ?_
        refine G_iload_n 100 rfl rfl dX8_looks_99 ?_
        refine G_mldV 101 rfl hR (k := 32) a (v := τ 32 a) rfl rfl ia_32 rfl (show a < 130 by omega) dX8_looks_100 ?_
        refine G_iload_n 102 rfl rfl dX8_looks_101 ?_
        refine G_icmp_eq 130 105 rfl (by decide) dX8_looks_102 (fun c102 => ?_) (fun c102 => ?_)
        · skip
          refine G_ret rfl ?_ dX8_looks_130
          refine ⟨rfl, ?_⟩
          unfold mLoo
          rw [hen, ← hb]
          rw [fBy_succ, if_pos (by unfold mLooP; simp only [Bool.and_eq_true, decide_eq_true_eq]; exact ⟨c34, c49⟩)]
          show RR E m σ (if _ then _ else _) h
          rw [if_pos (by first | exact Or.inr c127 | exact Or.inl c102)]
          exact hR
        · skip
          refine G_aload_n 106 rfl rfl dX8_looks_105 ?_
          refine G_mR 109 rfl hR fl_X8_89 ia_34 rfl dX8_looks_106 ?_
          refine G_iload_n 110 rfl rfl dX8_looks_109 ?_
          refine G_mldV 111 rfl hR (k := 34) a (v := τ 34 a) rfl rfl ia_34 rfl (show a < 130 by omega) dX8_looks_110 ?_
          refine G_aload_n 112 rfl rfl dX8_looks_111 ?_
          refine G_mR 115 rfl hR fl_X8_16 ia_9 rfl dX8_looks_112 ?_
          refine G_bipush 117 rfl (8) (by decide) dX8_looks_115 ?_
          refine G_iload_n 118 rfl rfl dX8_looks_117 ?_
          refine G_imul 119 rfl dX8_looks_118 ?_
          refine G_aload_n 120 rfl rfl dX8_looks_119 ?_
          refine G_mR 123 rfl hR fl_X8_44 ia_18 rfl dX8_looks_120 ?_
          refine G_iload_n 124 rfl rfl dX8_looks_123 ?_
          refine G_mldV 125 rfl hR (k := 18) p (v := τ 18 p) rfl rfl ia_18 rfl (show p < 16 by omega) dX8_looks_124 ?_
          refine G_iadd 126 rfl dX8_looks_125 ?_
          rw [hat, e88]
          refine G_mldV 127 rfl hR (k := 9) (8 * p + j) (v := τ 9 (8 * p + j)) rfl rfl ia_9 rfl (show 8 * p + j < 128 by omega) dX8_looks_126 ?_
          refine G_icmp_ne 131 130 rfl (by decide) dX8_looks_127 (fun c127 => ?_) (fun c127 => ?_)
          · skip
            refine G_aload_n 132 rfl rfl dX8_looks_131 ?_
            refine G_mR 135 rfl hR fl_X8_53 ia_21 rfl dX8_looks_132 ?_
            refine G_iload_n 136 rfl rfl dX8_looks_135 ?_
            refine G_aload_n 137 rfl rfl dX8_looks_136 ?_
            refine G_mR 140 rfl hR fl_X8_83 ia_32 rfl dX8_looks_137 ?_
            refine G_iload_n 141 rfl rfl dX8_looks_140 ?_
            refine G_mldV 142 rfl hR (k := 32) a (v := τ 32 a) rfl rfl ia_32 rfl (show a < 130 by omega) dX8_looks_141 ?_
            refine G_mst 143 rfl hR (k := 21) p rfl ia_21 rfl (show p < 16 by omega) dX8_looks_142 (fun h hR => ?_)
            refine G_aload_n 144 rfl rfl dX8_looks_143 ?_
            refine G_mR 147 rfl hR fl_X8_56 ia_22 rfl dX8_looks_144 ?_
            refine G_iload_n 148 rfl rfl dX8_looks_147 ?_
            refine G_aload_n 149 rfl rfl dX8_looks_148 ?_
            refine G_mR 152 rfl hR fl_X8_86 ia_33 rfl dX8_looks_149 ?_
            refine G_iload_n 153 rfl rfl dX8_looks_152 ?_
            refine G_mldV 154 rfl hR (k := 33) a (v := τ 33 a) rfl rfl ia_33 rfl (show a < 130 by omega) dX8_looks_153 ?_
            refine G_mst 155 rfl hR (k := 22) p rfl ia_22 rfl (show p < 16 by omega) dX8_looks_154 (fun h hR => ?_)
            refine G_aload_n 156 rfl rfl dX8_looks_155 ?_
            refine G_mR 159 rfl hR fl_X8_59 ia_23 rfl dX8_looks_156 ?_
            refine G_iload_n 160 rfl rfl dX8_looks_159 ?_
            refine G_aload_n 161 rfl rfl dX8_looks_160 ?_
            refine G_mR 164 rfl hR fl_X8_92 ia_35 rfl dX8_looks_161 ?_
            refine G_iload_n 165 rfl rfl dX8_looks_164 ?_
            refine G_mldV 166 rfl hR (k := 35) a (v := τ 35 a) rfl rfl ia_35 rfl (show a < 130 by omega) dX8_looks_165 ?_
            refine G_mst 167 rfl hR (k := 23) p rfl ia_23 rfl (show p < 16 by omega) dX8_looks_166 (fun h hR => ?_)
            refine G_aload_n 168 rfl rfl dX8_looks_167 ?_
            refine G_mR 171 rfl hR fl_X8_9 ia_7 rfl dX8_looks_168 ?_
            refine G_iload_n 172 rfl rfl dX8_looks_171 ?_
            refine G_iconst 173 rfl (4) (by decide) dX8_looks_172 ?_
            refine G_mst 174 rfl hR (k := 7) p rfl ia_7 rfl (show p < 16 by omega) dX8_looks_173 (fun h hR => ?_)
            refine G_ret rfl ?_ dX8_looks_174
            refine ⟨rfl, ?_⟩
            unfold mLoo
            rw [hen, ← hb]
            rw [fBy_succ, if_pos (by unfold mLooP; simp only [Bool.and_eq_true, decide_eq_true_eq]; exact ⟨c34, c49⟩)]
            show RR E m σ (if _ then _ else _) h
            rw [if_neg (by first | exact fun z => z.elim c102 c127)]
            exact hR
          · skip
            refine G_ret rfl ?_ dX8_looks_130
            refine ⟨rfl, ?_⟩
            unfold mLoo
            rw [hen, ← hb]
            rw [fBy_succ, if_pos (by unfold mLooP; simp only [Bool.and_eq_true, decide_eq_true_eq]; exact ⟨c34, c49⟩)]
            show RR E m σ (if _ then _ else _) h
            rw [if_pos (by first | exact Or.inr c127 | exact Or.inl c102)]
            exact hR
      · skip
        refine G_iinc 55 rfl (nI (a + 1)) rfl (inc1 a) (by decide) dX8_looks_52 ?_
        refine G_goto 19 (by decide) dX8_looks_55 ?_
        exact ih (a + 1) (by omega) (by rw [← hb, fBy_succ, if_neg (by unfold mLooP; simp only [Bool.and_eq_true, decide_eq_true_eq]; first | exact fun z => c49 z.2 | exact fun z => c34 z.1)])

set_option maxHeartbeats 4000000 in
set_option maxRecDepth 100000 in
theorem m_looks {E : Ev} {m : Nat} {σ : Sg} {τ : Tu} {h : Hp} (hR : RR E m σ τ h) {p : Nat} (hp : p < m) {g : Nat} (hg : τ 8 p = nI g) (hg8 : g ≤ 8) {j : Nat} (hat : τ 18 p = nI j) (hj8 : j < 8) {e : Nat} (he : τ 31 0 = nI e) (heb : e ≤ 129) : Cn E mX8_looks (rk 1 0 0) h [.ref (aM E m), .int (nI p)] (fun v h' => v = none ∧ RR E m σ (mLoo τ p j) h') := by
  refine Cn_of (by decide) rfl (by simp [Value.category]) (Nat.le_of_ble_eq_true rfl) ?_
  have hm := hR.1.1
  refine G_aload_n 1 rfl rfl dX8_looks_0 ?_
  refine G_mR 4 rfl hR fl_X8_19 ia_10 rfl dX8_looks_1 ?_
  refine G_bipush 6 rfl (8) (by decide) dX8_looks_4 ?_
  refine G_iload_n 7 rfl rfl dX8_looks_6 ?_
  refine G_imul 8 rfl dX8_looks_7 ?_
  refine G_aload_n 9 rfl rfl dX8_looks_8 ?_
  refine G_mR 12 rfl hR fl_X8_44 ia_18 rfl dX8_looks_9 ?_
  refine G_iload_n 13 rfl rfl dX8_looks_12 ?_
  refine G_mldV 14 rfl hR (k := 18) p (v := τ 18 p) rfl rfl ia_18 rfl (show p < 16 by omega) dX8_looks_13 ?_
  refine G_iadd 15 rfl dX8_looks_14 ?_
  rw [hat, e88]
  refine G_mldV 16 rfl hR (k := 10) (8 * p + j) (v := τ 10 (8 * p + j)) rfl rfl ia_10 rfl (show 8 * p + j < 128 by omega) dX8_looks_15 ?_
  refine G_istore_n 17 rfl (by decide) dX8_looks_16 ?_
  refine G_iconst 18 rfl (0) (by decide) dX8_looks_17 ?_
  refine G_istore_n 19 rfl (by decide) dX8_looks_18 ?_
  exact lp_X8_looks hR hp hg hg8 hat hj8 he heb e 0 (by omega) rfl

set_option maxHeartbeats 4000000 in
set_option maxRecDepth 100000 in
theorem m_claims {E : Ev} {m : Nat} {σ : Sg} {τ : Tu} {h : Hp} (hR : RR E m σ τ h) {p : Nat} (hp : p < m) {q : Nat} (hq : q < m) (hq0 : τ 21 p = nI q) (hqp : q ≠ p) {e : Nat} (he : τ 31 0 = nI e) (heb : e ≤ 129) : Cn E mX8_claims (rk 2 0 0) h [.ref (aM E m), .int (nI p)] (fun v h' => v = none ∧ RR E m σ (mClm τ p q) h') := by
  refine Cn_of (by decide) rfl (by simp [Value.category]) (Nat.le_of_ble_eq_true rfl) ?_
  have hm := hR.1.1
  refine G_iload_n 1 rfl rfl dX8_claims_0 ?_
  refine G_aload_n 2 rfl rfl dX8_claims_1 ?_
  refine G_mR 5 rfl hR fl_X8_53 ia_21 rfl dX8_claims_2 ?_
  refine G_iload_n 6 rfl rfl dX8_claims_5 ?_
  refine G_mldV 7 rfl hR (k := 21) p (v := τ 21 p) rfl rfl ia_21 rfl (show p < 16 by omega) dX8_claims_6 ?_
  rw [hq0]
  by_cases hpq : p < q
  · skip
    refine G_icmpF_ge 10 rfl (nI_ge hpq (by omega)) ⟨14, by decide⟩ dX8_claims_7 ?_
    refine G_iload_n 11 rfl rfl dX8_claims_10 ?_
    refine G_goto 20 (by decide) dX8_claims_11 ?_
    refine G_istore_n 21 rfl (by decide) dX8_claims_20 ?_
    refine G_aload_n 22 rfl rfl dX8_claims_21 ?_
    refine G_iload_n 23 rfl rfl dX8_claims_22 ?_
    refine G_iload_n 24 rfl rfl dX8_claims_23 ?_
    refine G_callV 27 rfl [.int (nI p), .int (nI p)] (m_versionOf hR hp hp) ok_X8_versionOf ov_X8_versionOf ml_X8_153 (hR.ob (ci := 8) (i := 0) (by decide) rfl) ⟨by decide, rfl⟩ rfl ⟨by decide, by decide⟩ rfl rfl (Nat.le_of_ble_eq_true rfl) rfl dX8_claims_24 ?_
    rintro v h' ⟨rfl, rfl⟩
    refine G_istore_n 28 rfl (by decide) dX8_claims_27 ?_
    refine G_aload_n 29 rfl rfl dX8_claims_28 ?_
    refine G_iload_n 30 rfl rfl dX8_claims_29 ?_
    refine G_iload_n 31 rfl rfl dX8_claims_30 ?_
    refine G_iload_n 32 rfl rfl dX8_claims_31 ?_
    refine G_callV 35 rfl [.int (nI p), .int (nI p), .int (mVs τ p p)] (m_tries hR hp hp (mVs τ p p)) ok_X8_tries ov_X8_tries ml_X8_156 (hR.ob (ci := 8) (i := 0) (by decide) rfl) ⟨by decide, rfl⟩ rfl ⟨by decide, by decide⟩ rfl rfl (Nat.le_of_ble_eq_true rfl) rfl dX8_claims_32 ?_
    rintro v h (⟨ht1, rfl, hR⟩ | ⟨ht1, rfl, hR⟩)
    · skip
      refine G_ifF_eq 38 rfl (by decide) ⟨48, by decide⟩ dX8_claims_35 ?_
      refine G_aload_n 39 rfl rfl dX8_claims_38 ?_
      refine G_mR 42 rfl hR fl_X8_9 ia_7 rfl dX8_claims_39 ?_
      refine G_iload_n 43 rfl rfl dX8_claims_42 ?_
      refine G_iconst 44 rfl (5) (by decide) dX8_claims_43 ?_
      refine G_mst 45 rfl hR (k := 7) p rfl ia_7 rfl (show p < 16 by omega) dX8_claims_44 (fun h hR => ?_)
      refine G_goto 83 (by decide) dX8_claims_45 ?_
      refine G_ret rfl ?_ dX8_claims_83
      refine ⟨rfl, ?_⟩
      unfold mClm loT
      first | rw [if_pos hpq] | rw [if_neg hpq]
      rw [if_pos ht1]
      exact hR
    · skip
      refine G_ifT_eq 48 (by decide) (by decide) dX8_claims_35 ?_
      refine G_iload_n 49 rfl rfl dX8_claims_48 ?_
      refine G_iload_n 50 rfl rfl dX8_claims_49 ?_
      refine G_icmpF_ne 53 rfl rfl ⟨69, by decide⟩ dX8_claims_50 ?_
      refine G_aload_n 54 rfl rfl dX8_claims_53 ?_
      refine G_iload_n 55 rfl rfl dX8_claims_54 ?_
      refine G_callV 58 rfl [.int (nI p)] (m_isEnded hR hp) ok_X8_isEnded ov_X8_isEnded ml_X8_160 (hR.ob (ci := 8) (i := 0) (by decide) rfl) ⟨by decide, rfl⟩ rfl ⟨by decide, by decide⟩ rfl rfl (Nat.le_of_ble_eq_true rfl) rfl dX8_claims_55 ?_
      rintro v h' ⟨⟨hs, rfl⟩ | ⟨hs, rfl⟩, rfl⟩
      · skip
        refine G_ifF_eq 61 rfl (by decide) ⟨69, by decide⟩ dX8_claims_58 ?_
        refine G_aload_n 62 rfl rfl dX8_claims_61 ?_
        refine G_iload_n 63 rfl rfl dX8_claims_62 ?_
        refine G_callV 66 rfl [.int (nI p)] (m_withdraws hR hp (e := e) he heb) ok_X8_withdraws ov_X8_withdraws ml_X8_163 (hR.ob (ci := 8) (i := 0) (by decide) rfl) ⟨by decide, rfl⟩ rfl ⟨by decide, by decide⟩ rfl rfl (Nat.le_of_ble_eq_true rfl) rfl dX8_claims_63 ?_
        rintro v h ⟨rfl, hR⟩
        refine G_goto 83 (by decide) dX8_claims_66 ?_
        refine G_ret rfl ?_ dX8_claims_83
        refine ⟨rfl, ?_⟩
        unfold mClm loT
        first | rw [if_pos hpq] | rw [if_neg hpq]
        rw [if_neg ht1, if_pos ⟨rfl, hs⟩]
        exact hR
      · skip
        refine G_ifT_eq 69 (by decide) (by decide) dX8_claims_58 ?_
        refine G_aload_n 70 rfl rfl dX8_claims_69 ?_
        refine G_iload_n 71 rfl rfl dX8_claims_70 ?_
        refine G_iload_n 72 rfl rfl dX8_claims_71 ?_
        refine G_iload_n 73 rfl rfl dX8_claims_72 ?_
        refine G_callV 76 rfl [.int (nI p), .int (nI p), .int (mVs τ p p)] (m_isBusy hR hp hp (mVs τ p p)) ok_X8_isBusy ov_X8_isBusy ml_X8_166 (hR.ob (ci := 8) (i := 0) (by decide) rfl) ⟨by decide, rfl⟩ rfl ⟨by decide, by decide⟩ rfl rfl (Nat.le_of_ble_eq_true rfl) rfl dX8_claims_73 ?_
        rintro v h ⟨rfl, hR⟩
        refine G_aload_n 77 rfl rfl dX8_claims_76 ?_
        refine G_mR 80 rfl hR fl_X8_9 ia_7 rfl dX8_claims_77 ?_
        refine G_iload_n 81 rfl rfl dX8_claims_80 ?_
        refine G_iconst 82 rfl (3) (by decide) dX8_claims_81 ?_
        refine G_mst 83 rfl hR (k := 7) p rfl ia_7 rfl (show p < 16 by omega) dX8_claims_82 (fun h hR => ?_)
        refine G_ret rfl ?_ dX8_claims_83
        refine ⟨rfl, ?_⟩
        unfold mClm loT
        first | rw [if_pos hpq] | rw [if_neg hpq]
        rw [if_neg ht1, if_neg (by first | exact fun z => hs z.2 | exact fun z => hqp z.1)]
        exact hR
  · skip
    refine G_icmpT_ge 14 (nI_le (by omega) (by omega)) (by decide) dX8_claims_7 ?_
    refine G_aload_n 15 rfl rfl dX8_claims_14 ?_
    refine G_mR 18 rfl hR fl_X8_53 ia_21 rfl dX8_claims_15 ?_
    refine G_iload_n 19 rfl rfl dX8_claims_18 ?_
    refine G_mldV 20 rfl hR (k := 21) p (v := τ 21 p) rfl rfl ia_21 rfl (show p < 16 by omega) dX8_claims_19 ?_
    rw [hq0]
    refine G_istore_n 21 rfl (by decide) dX8_claims_20 ?_
    refine G_aload_n 22 rfl rfl dX8_claims_21 ?_
    refine G_iload_n 23 rfl rfl dX8_claims_22 ?_
    refine G_iload_n 24 rfl rfl dX8_claims_23 ?_
    refine G_callV 27 rfl [.int (nI p), .int (nI q)] (m_versionOf hR hp hq) ok_X8_versionOf ov_X8_versionOf ml_X8_153 (hR.ob (ci := 8) (i := 0) (by decide) rfl) ⟨by decide, rfl⟩ rfl ⟨by decide, by decide⟩ rfl rfl (Nat.le_of_ble_eq_true rfl) rfl dX8_claims_24 ?_
    rintro v h' ⟨rfl, rfl⟩
    refine G_istore_n 28 rfl (by decide) dX8_claims_27 ?_
    refine G_aload_n 29 rfl rfl dX8_claims_28 ?_
    refine G_iload_n 30 rfl rfl dX8_claims_29 ?_
    refine G_iload_n 31 rfl rfl dX8_claims_30 ?_
    refine G_iload_n 32 rfl rfl dX8_claims_31 ?_
    refine G_callV 35 rfl [.int (nI p), .int (nI q), .int (mVs τ p q)] (m_tries hR hp hq (mVs τ p q)) ok_X8_tries ov_X8_tries ml_X8_156 (hR.ob (ci := 8) (i := 0) (by decide) rfl) ⟨by decide, rfl⟩ rfl ⟨by decide, by decide⟩ rfl rfl (Nat.le_of_ble_eq_true rfl) rfl dX8_claims_32 ?_
    rintro v h (⟨ht1, rfl, hR⟩ | ⟨ht1, rfl, hR⟩)
    · skip
      refine G_ifF_eq 38 rfl (by decide) ⟨48, by decide⟩ dX8_claims_35 ?_
      refine G_aload_n 39 rfl rfl dX8_claims_38 ?_
      refine G_mR 42 rfl hR fl_X8_9 ia_7 rfl dX8_claims_39 ?_
      refine G_iload_n 43 rfl rfl dX8_claims_42 ?_
      refine G_iconst 44 rfl (5) (by decide) dX8_claims_43 ?_
      refine G_mst 45 rfl hR (k := 7) p rfl ia_7 rfl (show p < 16 by omega) dX8_claims_44 (fun h hR => ?_)
      refine G_goto 83 (by decide) dX8_claims_45 ?_
      refine G_ret rfl ?_ dX8_claims_83
      refine ⟨rfl, ?_⟩
      unfold mClm loT
      first | rw [if_pos hpq] | rw [if_neg hpq]
      rw [if_pos ht1]
      exact hR
    · skip
      refine G_ifT_eq 48 (by decide) (by decide) dX8_claims_35 ?_
      refine G_iload_n 49 rfl rfl dX8_claims_48 ?_
      refine G_iload_n 50 rfl rfl dX8_claims_49 ?_
      refine G_icmpT_ne 69 (fun z => hqp ((nI_eq (by omega) (by omega)).mp z)) (by decide) dX8_claims_50 ?_
      refine G_aload_n 70 rfl rfl dX8_claims_69 ?_
      refine G_iload_n 71 rfl rfl dX8_claims_70 ?_
      refine G_iload_n 72 rfl rfl dX8_claims_71 ?_
      refine G_iload_n 73 rfl rfl dX8_claims_72 ?_
      refine G_callV 76 rfl [.int (nI p), .int (nI q), .int (mVs τ p q)] (m_isBusy hR hp hq (mVs τ p q)) ok_X8_isBusy ov_X8_isBusy ml_X8_166 (hR.ob (ci := 8) (i := 0) (by decide) rfl) ⟨by decide, rfl⟩ rfl ⟨by decide, by decide⟩ rfl rfl (Nat.le_of_ble_eq_true rfl) rfl dX8_claims_73 ?_
      rintro v h ⟨rfl, hR⟩
      refine G_aload_n 77 rfl rfl dX8_claims_76 ?_
      refine G_mR 80 rfl hR fl_X8_9 ia_7 rfl dX8_claims_77 ?_
      refine G_iload_n 81 rfl rfl dX8_claims_80 ?_
      refine G_iconst 82 rfl (3) (by decide) dX8_claims_81 ?_
      refine G_mst 83 rfl hR (k := 7) p rfl ia_7 rfl (show p < 16 by omega) dX8_claims_82 (fun h hR => ?_)
      refine G_ret rfl ?_ dX8_claims_83
      refine ⟨rfl, ?_⟩
      unfold mClm loT
      first | rw [if_pos hpq] | rw [if_neg hpq]
      rw [if_neg ht1, if_neg (by first | exact fun z => hs z.2 | exact fun z => hqp z.1)]
      exact hR

set_option maxHeartbeats 4000000 in
set_option maxRecDepth 100000 in
theorem m_meets {E : Ev} {m : Nat} {σ : Sg} {τ : Tu} {h : Hp} (hR : RR E m σ τ h) {p : Nat} (hp : p < m) {q : Nat} (hq : q < m) (hq0 : τ 21 p = nI q) (hqp : q ≠ p) {j : Nat} (hat : τ 18 p = nI j) (hj8 : j < 8) {v1 v2 z : Nat} (hv1 : τ 16 p = nI v1) (hv1b : v1 ≤ 1000) (hv2 : τ 22 p = nI v2) (hv2b : v2 ≤ 1000) (hz : τ 3 0 = nI z) (hzb : z < 2 ^ 30) : Cn E mX8_meets (rk 0 0 0) h [.ref (aM E m), .int (nI p)] (fun v h' => v = none ∧ RR E m σ (mMt τ p q j) h') := by
  refine Cn_of (by decide) rfl (by simp [Value.category]) (Nat.le_of_ble_eq_true rfl) ?_
  have hm := hR.1.1
  refine G_aload_n 1 rfl rfl dX8_meets_0 ?_
  refine G_mR 4 rfl hR fl_X8_53 ia_21 rfl dX8_meets_1 ?_
  refine G_iload_n 5 rfl rfl dX8_meets_4 ?_
  refine G_mldV 6 rfl hR (k := 21) p (v := τ 21 p) rfl rfl ia_21 rfl (show p < 16 by omega) dX8_meets_5 ?_
  rw [hq0]
  refine G_istore_n 7 rfl (by decide) dX8_meets_6 ?_
  refine G_bipush 9 rfl (8) (by decide) dX8_meets_7 ?_
  refine G_iload_n 10 rfl rfl dX8_meets_9 ?_
  refine G_imul 11 rfl dX8_meets_10 ?_
  refine G_aload_n 12 rfl rfl dX8_meets_11 ?_
  refine G_mR 15 rfl hR fl_X8_44 ia_18 rfl dX8_meets_12 ?_
  refine G_iload_n 16 rfl rfl dX8_meets_15 ?_
  refine G_mldV 17 rfl hR (k := 18) p (v := τ 18 p) rfl rfl ia_18 rfl (show p < 16 by omega) dX8_meets_16 ?_
  refine G_iadd 18 rfl dX8_meets_17 ?_
  rw [hat, e88]
  refine G_istore_n 19 rfl (by decide) dX8_meets_18 ?_
  refine G_aload_n 20 rfl rfl dX8_meets_19 ?_
  refine G_mR 23 rfl hR fl_X8_104 ia_39 rfl dX8_meets_20 ?_
  refine G_sipush 26 rfl (1001) (by decide) dX8_meets_23 ?_
  refine G_iload_n 27 rfl rfl dX8_meets_26 ?_
  refine G_imul 28 rfl dX8_meets_27 ?_
  refine G_aload_n 29 rfl rfl dX8_meets_28 ?_
  refine G_mR 32 rfl hR fl_X8_38 ia_16 rfl dX8_meets_29 ?_
  refine G_iload_n 33 rfl rfl dX8_meets_32 ?_
  refine G_mldV 34 rfl hR (k := 16) p (v := τ 16 p) rfl rfl ia_16 rfl (show p < 16 by omega) dX8_meets_33 ?_
  refine G_iadd 35 rfl dX8_meets_34 ?_
  rw [hv1, e1001]
  refine G_dup2 36 rfl rfl rfl dX8_meets_35 ?_
  refine G_mldV 37 rfl hR (k := 39) (1001 * p + v1) (v := τ 39 (1001 * p + v1)) rfl rfl ia_39 rfl (show 1001 * p + v1 < 16016 by omega) dX8_meets_36 ?_
  refine G_iconst 38 rfl (1) (by decide) dX8_meets_37 ?_
  refine G_iadd 39 rfl dX8_meets_38 ?_
  refine G_mst 40 rfl hR (k := 39) (1001 * p + v1) rfl ia_39 rfl (show 1001 * p + v1 < 16016 by omega) dX8_meets_39 (fun h hR => ?_)
  refine G_aload_n 41 rfl rfl dX8_meets_40 ?_
  refine G_mR 44 rfl hR fl_X8_104 ia_39 rfl dX8_meets_41 ?_
  refine G_sipush 47 rfl (1001) (by decide) dX8_meets_44 ?_
  refine G_iload_n 48 rfl rfl dX8_meets_47 ?_
  refine G_imul 49 rfl dX8_meets_48 ?_
  refine G_aload_n 50 rfl rfl dX8_meets_49 ?_
  refine G_mR 53 rfl hR fl_X8_56 ia_22 rfl dX8_meets_50 ?_
  refine G_iload_n 54 rfl rfl dX8_meets_53 ?_
  refine G_mldV 55 rfl hR (k := 22) p (v := τ 22 p) rfl rfl ia_22 rfl (show p < 16 by omega) dX8_meets_54 ?_
  refine G_iadd 56 rfl dX8_meets_55 ?_
  rw [hv2, e1001]
  refine G_dup2 57 rfl rfl rfl dX8_meets_56 ?_
  refine G_mldV 58 rfl hR (k := 39) (1001 * q + v2) (v := mBk1 τ p v1 39 (1001 * q + v2)) rfl rfl ia_39 rfl (show 1001 * q + v2 < 16016 by omega) dX8_meets_57 ?_
  refine G_iconst 59 rfl (1) (by decide) dX8_meets_58 ?_
  refine G_iadd 60 rfl dX8_meets_59 ?_
  refine G_mst 61 rfl hR (k := 39) (1001 * q + v2) rfl ia_39 rfl (show 1001 * q + v2 < 16016 by omega) dX8_meets_60 (fun h hR => ?_)
  refine G_aload_n 62 rfl rfl dX8_meets_61 ?_
  refine G_mi 65 rfl hR (v := τ 3 0) rfl fl_X8_173 (by decide) rfl dX8_meets_62 ?_
  refine G_sipush 68 rfl (200) (by decide) dX8_meets_65 ?_
  by_cases hz2 : z < 200
  · skip
    refine G_icmpF_ge 71 rfl (by rw [hz]; exact nI_ge (b := 200) hz2 (by omega)) ⟨214, by decide⟩ dX8_meets_68 ?_
    refine G_bipush 73 rfl (8) (by decide) dX8_meets_71 ?_
    refine G_aload_n 74 rfl rfl dX8_meets_73 ?_
    refine G_mi 77 rfl hR (v := τ 3 0) rfl fl_X8_173 (by decide) rfl dX8_meets_74 ?_
    refine G_imul 78 rfl dX8_meets_77 ?_
    rw [hz, e8m]
    refine G_istore 80 rfl (by decide) dX8_meets_78 ?_
    refine G_aload_n 81 rfl rfl dX8_meets_80 ?_
    refine G_mR 84 rfl hR fl_X8_101 ia_38 rfl dX8_meets_81 ?_
    refine G_iload 86 rfl rfl dX8_meets_84 ?_
    refine G_iload_n 87 rfl rfl dX8_meets_86 ?_
    refine G_mst 88 rfl hR (k := 38) (8 * z) rfl ia_38 rfl (show 8 * z < 1600 by omega) dX8_meets_87 (fun h hR => ?_)
    refine G_aload_n 89 rfl rfl dX8_meets_88 ?_
    refine G_mR 92 rfl hR fl_X8_101 ia_38 rfl dX8_meets_89 ?_
    refine G_iload 94 rfl rfl dX8_meets_92 ?_
    refine G_iconst 95 rfl (1) (by decide) dX8_meets_94 ?_
    refine G_iadd 96 rfl dX8_meets_95 ?_
    refine G_iload_n 97 rfl rfl dX8_meets_96 ?_
    refine G_mst 98 rfl hR (k := 38) (8 * z + 1) (nI_add (8 * z) 1) ia_38 rfl (show 8 * z + 1 < 1600 by omega) dX8_meets_97 (fun h hR => ?_)
    refine G_aload_n 99 rfl rfl dX8_meets_98 ?_
    refine G_mR 102 rfl hR fl_X8_101 ia_38 rfl dX8_meets_99 ?_
    refine G_iload 104 rfl rfl dX8_meets_102 ?_
    refine G_iconst 105 rfl (2) (by decide) dX8_meets_104 ?_
    refine G_iadd 106 rfl dX8_meets_105 ?_
    refine G_aload_n 107 rfl rfl dX8_meets_106 ?_
    refine G_mR 110 rfl hR fl_X8_19 ia_10 rfl dX8_meets_107 ?_
    refine G_iload_n 111 rfl rfl dX8_meets_110 ?_
    refine G_mldV 112 rfl hR (k := 10) (8 * p + j) (v := τ 10 (8 * p + j)) rfl rfl ia_10 rfl (show 8 * p + j < 128 by omega) dX8_meets_111 ?_
    refine G_mst 113 rfl hR (k := 38) (8 * z + 2) (nI_add (8 * z) 2) ia_38 rfl (show 8 * z + 2 < 1600 by omega) dX8_meets_112 (fun h hR => ?_)
    refine G_aload_n 114 rfl rfl dX8_meets_113 ?_
    refine G_mR 117 rfl hR fl_X8_101 ia_38 rfl dX8_meets_114 ?_
    refine G_iload 119 rfl rfl dX8_meets_117 ?_
    refine G_iconst 120 rfl (3) (by decide) dX8_meets_119 ?_
    refine G_iadd 121 rfl dX8_meets_120 ?_
    refine G_aload_n 122 rfl rfl dX8_meets_121 ?_
    refine G_mR 125 rfl hR fl_X8_16 ia_9 rfl dX8_meets_122 ?_
    refine G_iload_n 126 rfl rfl dX8_meets_125 ?_
    refine G_mldV 127 rfl hR (k := 9) (8 * p + j) (v := τ 9 (8 * p + j)) rfl rfl ia_9 rfl (show 8 * p + j < 128 by omega) dX8_meets_126 ?_
    by_cases c127 : τ 9 (8 * p + j) = 0
    · skip
      refine G_ifF_ne 130 rfl c127 ⟨139, by decide⟩ dX8_meets_127 ?_
      refine G_aload_n 131 rfl rfl dX8_meets_130 ?_
      refine G_mR 134 rfl hR fl_X8_22 ia_11 rfl dX8_meets_131 ?_
      refine G_iload_n 135 rfl rfl dX8_meets_134 ?_
      refine G_mldV 136 rfl hR (k := 11) (8 * p + j) (v := τ 11 (8 * p + j)) rfl rfl ia_11 rfl (show 8 * p + j < 128 by omega) dX8_meets_135 ?_
      refine G_goto 145 (by decide) dX8_meets_136 ?_
      refine G_mst 146 rfl hR (k := 38) (8 * z + 3) (nI_add (8 * z) 3) ia_38 rfl (show 8 * z + 3 < 1600 by omega) dX8_meets_145 (fun h hR => ?_)
      refine G_aload_n 147 rfl rfl dX8_meets_146 ?_
      refine G_mR 150 rfl hR fl_X8_101 ia_38 rfl dX8_meets_147 ?_
      refine G_iload 152 rfl rfl dX8_meets_150 ?_
      refine G_iconst 153 rfl (4) (by decide) dX8_meets_152 ?_
      refine G_iadd 154 rfl dX8_meets_153 ?_
      refine G_aload_n 155 rfl rfl dX8_meets_154 ?_
      refine G_mR 158 rfl hR fl_X8_16 ia_9 rfl dX8_meets_155 ?_
      refine G_iload_n 159 rfl rfl dX8_meets_158 ?_
      refine G_mldV 160 rfl hR (k := 9) (8 * p + j) (v := τ 9 (8 * p + j)) rfl rfl ia_9 rfl (show 8 * p + j < 128 by omega) dX8_meets_159 ?_
      refine G_ifF_ne 163 rfl c127 ⟨167, by decide⟩ dX8_meets_160 ?_
      refine G_iload_n 164 rfl rfl dX8_meets_163 ?_
      refine G_goto 168 (by decide) dX8_meets_164 ?_
      refine G_mst 169 rfl hR (k := 38) (8 * z + 4) (nI_add (8 * z) 4) ia_38 rfl (show 8 * z + 4 < 1600 by omega) dX8_meets_168 (fun h hR => ?_)
      refine G_aload_n 170 rfl rfl dX8_meets_169 ?_
      refine G_mR 173 rfl hR fl_X8_101 ia_38 rfl dX8_meets_170 ?_
      refine G_iload 175 rfl rfl dX8_meets_173 ?_
      refine G_iconst 176 rfl (5) (by decide) dX8_meets_175 ?_
      refine G_iadd 177 rfl dX8_meets_176 ?_
      refine G_aload_n 178 rfl rfl dX8_meets_177 ?_
      refine G_mR 181 rfl hR fl_X8_38 ia_16 rfl dX8_meets_178 ?_
      refine G_iload_n 182 rfl rfl dX8_meets_181 ?_
      refine G_mldV 183 rfl hR (k := 16) p (v := τ 16 p) rfl rfl ia_16 rfl (show p < 16 by omega) dX8_meets_182 ?_
      refine G_mst 184 rfl hR (k := 38) (8 * z + 5) (nI_add (8 * z) 5) ia_38 rfl (show 8 * z + 5 < 1600 by omega) dX8_meets_183 (fun h hR => ?_)
      refine G_aload_n 185 rfl rfl dX8_meets_184 ?_
      refine G_mR 188 rfl hR fl_X8_101 ia_38 rfl dX8_meets_185 ?_
      refine G_iload 190 rfl rfl dX8_meets_188 ?_
      refine G_bipush 192 rfl (6) (by decide) dX8_meets_190 ?_
      refine G_iadd 193 rfl dX8_meets_192 ?_
      refine G_aload_n 194 rfl rfl dX8_meets_193 ?_
      refine G_mR 197 rfl hR fl_X8_56 ia_22 rfl dX8_meets_194 ?_
      refine G_iload_n 198 rfl rfl dX8_meets_197 ?_
      refine G_mldV 199 rfl hR (k := 22) p (v := τ 22 p) rfl rfl ia_22 rfl (show p < 16 by omega) dX8_meets_198 ?_
      refine G_mst 200 rfl hR (k := 38) (8 * z + 6) (nI_add (8 * z) 6) ia_38 rfl (show 8 * z + 6 < 1600 by omega) dX8_meets_199 (fun h hR => ?_)
      refine G_aload_n 201 rfl rfl dX8_meets_200 ?_
      refine G_mR 204 rfl hR fl_X8_101 ia_38 rfl dX8_meets_201 ?_
      refine G_iload 206 rfl rfl dX8_meets_204 ?_
      refine G_bipush 208 rfl (7) (by decide) dX8_meets_206 ?_
      refine G_iadd 209 rfl dX8_meets_208 ?_
      refine G_aload_n 210 rfl rfl dX8_meets_209 ?_
      refine G_mi 213 rfl hR (v := τ 2 0) rfl fl_X8_176 (by decide) rfl dX8_meets_210 ?_
      refine G_mst 214 rfl hR (k := 38) (8 * z + 7) (nI_add (8 * z) 7) ia_38 rfl (show 8 * z + 7 < 1600 by omega) dX8_meets_213 (fun h hR => ?_)
      refine G_aload_n 215 rfl rfl dX8_meets_214 ?_
      refine G_dup 216 rfl rfl dX8_meets_215 ?_
      refine G_mi 219 rfl hR (v := τ 3 0) rfl fl_X8_173 (by decide) rfl dX8_meets_216 ?_
      refine G_iconst 220 rfl (1) (by decide) dX8_meets_219 ?_
      refine G_iadd 221 rfl dX8_meets_220 ?_
      refine G_pM 224 rfl hR fl_X8_173 (by decide) ⟨rfl, rfl, rfl⟩ dX8_meets_221 (fun h hR => ?_)
      refine G_ret rfl ?_ dX8_meets_224
      refine ⟨rfl, ?_⟩
      have e1 : mMt τ p q j = if z < 200 then ut (mRow (mBk1 (mBk1 τ p v1) q v2) p q j z) 3 0 (τ 3 0 + 1) else ut (mBk1 (mBk1 τ p v1) q v2) 3 0 (τ 3 0 + 1) := by
        unfold mMt
        have f1 : cN (τ 3 0) = z := by rw [hz]; exact cN_nI (by omega)
        have f2 : cN (τ 16 p) = v1 := by rw [hv1]; exact cN_nI (by omega)
        have f3 : cN (τ 22 p) = v2 := by rw [hv2]; exact cN_nI (by omega)
        rw [f1, f2, f3]
      rw [e1]
      rw [if_pos hz2]
      unfold mRow
      rw [if_pos (show (mBk1 (mBk1 τ p v1) q v2) 9 (8 * p + j) = 0 from c127), if_pos (show (mBk1 (mBk1 τ p v1) q v2) 9 (8 * p + j) = 0 from c127)]
      exact hR
    · skip
      refine G_ifT_ne 139 c127 (by decide) dX8_meets_127 ?_
      refine G_aload_n 140 rfl rfl dX8_meets_139 ?_
      refine G_mR 143 rfl hR fl_X8_59 ia_23 rfl dX8_meets_140 ?_
      refine G_iload_n 144 rfl rfl dX8_meets_143 ?_
      refine G_mldV 145 rfl hR (k := 23) p (v := τ 23 p) rfl rfl ia_23 rfl (show p < 16 by omega) dX8_meets_144 ?_
      refine G_mst 146 rfl hR (k := 38) (8 * z + 3) (nI_add (8 * z) 3) ia_38 rfl (show 8 * z + 3 < 1600 by omega) dX8_meets_145 (fun h hR => ?_)
      refine G_aload_n 147 rfl rfl dX8_meets_146 ?_
      refine G_mR 150 rfl hR fl_X8_101 ia_38 rfl dX8_meets_147 ?_
      refine G_iload 152 rfl rfl dX8_meets_150 ?_
      refine G_iconst 153 rfl (4) (by decide) dX8_meets_152 ?_
      refine G_iadd 154 rfl dX8_meets_153 ?_
      refine G_aload_n 155 rfl rfl dX8_meets_154 ?_
      refine G_mR 158 rfl hR fl_X8_16 ia_9 rfl dX8_meets_155 ?_
      refine G_iload_n 159 rfl rfl dX8_meets_158 ?_
      refine G_mldV 160 rfl hR (k := 9) (8 * p + j) (v := τ 9 (8 * p + j)) rfl rfl ia_9 rfl (show 8 * p + j < 128 by omega) dX8_meets_159 ?_
      refine G_ifT_ne 167 c127 (by decide) dX8_meets_160 ?_
      refine G_iload_n 168 rfl rfl dX8_meets_167 ?_
      refine G_mst 169 rfl hR (k := 38) (8 * z + 4) (nI_add (8 * z) 4) ia_38 rfl (show 8 * z + 4 < 1600 by omega) dX8_meets_168 (fun h hR => ?_)
      refine G_aload_n 170 rfl rfl dX8_meets_169 ?_
      refine G_mR 173 rfl hR fl_X8_101 ia_38 rfl dX8_meets_170 ?_
      refine G_iload 175 rfl rfl dX8_meets_173 ?_
      refine G_iconst 176 rfl (5) (by decide) dX8_meets_175 ?_
      refine G_iadd 177 rfl dX8_meets_176 ?_
      refine G_aload_n 178 rfl rfl dX8_meets_177 ?_
      refine G_mR 181 rfl hR fl_X8_38 ia_16 rfl dX8_meets_178 ?_
      refine G_iload_n 182 rfl rfl dX8_meets_181 ?_
      refine G_mldV 183 rfl hR (k := 16) p (v := τ 16 p) rfl rfl ia_16 rfl (show p < 16 by omega) dX8_meets_182 ?_
      refine G_mst 184 rfl hR (k := 38) (8 * z + 5) (nI_add (8 * z) 5) ia_38 rfl (show 8 * z + 5 < 1600 by omega) dX8_meets_183 (fun h hR => ?_)
      refine G_aload_n 185 rfl rfl dX8_meets_184 ?_
      refine G_mR 188 rfl hR fl_X8_101 ia_38 rfl dX8_meets_185 ?_
      refine G_iload 190 rfl rfl dX8_meets_188 ?_
      refine G_bipush 192 rfl (6) (by decide) dX8_meets_190 ?_
      refine G_iadd 193 rfl dX8_meets_192 ?_
      refine G_aload_n 194 rfl rfl dX8_meets_193 ?_
      refine G_mR 197 rfl hR fl_X8_56 ia_22 rfl dX8_meets_194 ?_
      refine G_iload_n 198 rfl rfl dX8_meets_197 ?_
      refine G_mldV 199 rfl hR (k := 22) p (v := τ 22 p) rfl rfl ia_22 rfl (show p < 16 by omega) dX8_meets_198 ?_
      refine G_mst 200 rfl hR (k := 38) (8 * z + 6) (nI_add (8 * z) 6) ia_38 rfl (show 8 * z + 6 < 1600 by omega) dX8_meets_199 (fun h hR => ?_)
      refine G_aload_n 201 rfl rfl dX8_meets_200 ?_
      refine G_mR 204 rfl hR fl_X8_101 ia_38 rfl dX8_meets_201 ?_
      refine G_iload 206 rfl rfl dX8_meets_204 ?_
      refine G_bipush 208 rfl (7) (by decide) dX8_meets_206 ?_
      refine G_iadd 209 rfl dX8_meets_208 ?_
      refine G_aload_n 210 rfl rfl dX8_meets_209 ?_
      refine G_mi 213 rfl hR (v := τ 2 0) rfl fl_X8_176 (by decide) rfl dX8_meets_210 ?_
      refine G_mst 214 rfl hR (k := 38) (8 * z + 7) (nI_add (8 * z) 7) ia_38 rfl (show 8 * z + 7 < 1600 by omega) dX8_meets_213 (fun h hR => ?_)
      refine G_aload_n 215 rfl rfl dX8_meets_214 ?_
      refine G_dup 216 rfl rfl dX8_meets_215 ?_
      refine G_mi 219 rfl hR (v := τ 3 0) rfl fl_X8_173 (by decide) rfl dX8_meets_216 ?_
      refine G_iconst 220 rfl (1) (by decide) dX8_meets_219 ?_
      refine G_iadd 221 rfl dX8_meets_220 ?_
      refine G_pM 224 rfl hR fl_X8_173 (by decide) ⟨rfl, rfl, rfl⟩ dX8_meets_221 (fun h hR => ?_)
      refine G_ret rfl ?_ dX8_meets_224
      refine ⟨rfl, ?_⟩
      have e1 : mMt τ p q j = if z < 200 then ut (mRow (mBk1 (mBk1 τ p v1) q v2) p q j z) 3 0 (τ 3 0 + 1) else ut (mBk1 (mBk1 τ p v1) q v2) 3 0 (τ 3 0 + 1) := by
        unfold mMt
        have f1 : cN (τ 3 0) = z := by rw [hz]; exact cN_nI (by omega)
        have f2 : cN (τ 16 p) = v1 := by rw [hv1]; exact cN_nI (by omega)
        have f3 : cN (τ 22 p) = v2 := by rw [hv2]; exact cN_nI (by omega)
        rw [f1, f2, f3]
      rw [e1]
      rw [if_pos hz2]
      unfold mRow
      rw [if_neg (show ¬ (mBk1 (mBk1 τ p v1) q v2) 9 (8 * p + j) = 0 from c127), if_neg (show ¬ (mBk1 (mBk1 τ p v1) q v2) 9 (8 * p + j) = 0 from c127)]
      exact hR
  · skip
    refine G_icmpT_ge 214 (by rw [hz]; exact nI_le (a := 200) (by omega) (by omega)) (by decide) dX8_meets_68 ?_
    refine G_aload_n 215 rfl rfl dX8_meets_214 ?_
    refine G_dup 216 rfl rfl dX8_meets_215 ?_
    refine G_mi 219 rfl hR (v := τ 3 0) rfl fl_X8_173 (by decide) rfl dX8_meets_216 ?_
    refine G_iconst 220 rfl (1) (by decide) dX8_meets_219 ?_
    refine G_iadd 221 rfl dX8_meets_220 ?_
    refine G_pM 224 rfl hR fl_X8_173 (by decide) ⟨rfl, rfl, rfl⟩ dX8_meets_221 (fun h hR => ?_)
    refine G_ret rfl ?_ dX8_meets_224
    refine ⟨rfl, ?_⟩
    have e1 : mMt τ p q j = if z < 200 then ut (mRow (mBk1 (mBk1 τ p v1) q v2) p q j z) 3 0 (τ 3 0 + 1) else ut (mBk1 (mBk1 τ p v1) q v2) 3 0 (τ 3 0 + 1) := by
      unfold mMt
      have f1 : cN (τ 3 0) = z := by rw [hz]; exact cN_nI (by omega)
      have f2 : cN (τ 16 p) = v1 := by rw [hv1]; exact cN_nI (by omega)
      have f3 : cN (τ 22 p) = v2 := by rw [hv2]; exact cN_nI (by omega)
      rw [f1, f2, f3]
    rw [e1]
    rw [if_neg hz2]
    exact hR

set_option maxHeartbeats 4000000 in
set_option maxRecDepth 100000 in
theorem m_seconds {E : Ev} {m : Nat} {σ : Sg} {τ : Tu} {h : Hp} (hR : RR E m σ τ h) {p : Nat} (hp : p < m) {q : Nat} (hq : q < m) (hq0 : τ 21 p = nI q) (hqp : q ≠ p) {j : Nat} (hat : τ 18 p = nI j) (hj8 : j < 8) {v1 v2 z : Nat} (hv1 : τ 16 p = nI v1) (hv1b : v1 ≤ 1000) (hv2 : τ 22 p = nI v2) (hv2b : v2 ≤ 1000) (hz : τ 3 0 = nI z) (hzb : z < 2 ^ 30) : Cn E mX8_seconds (rk 1 0 0) h [.ref (aM E m), .int (nI p)] (fun v h' => v = none ∧ RR E m σ (mSec τ p q j) h') := by
  refine Cn_of (by decide) rfl (by simp [Value.category]) (Nat.le_of_ble_eq_true rfl) ?_
  have hm := hR.1.1
  refine G_iload_n 1 rfl rfl dX8_seconds_0 ?_
  refine G_aload_n 2 rfl rfl dX8_seconds_1 ?_
  refine G_mR 5 rfl hR fl_X8_53 ia_21 rfl dX8_seconds_2 ?_
  refine G_iload_n 6 rfl rfl dX8_seconds_5 ?_
  refine G_mldV 7 rfl hR (k := 21) p (v := τ 21 p) rfl rfl ia_21 rfl (show p < 16 by omega) dX8_seconds_6 ?_
  rw [hq0]
  by_cases hpq : p < q
  · skip
    refine G_icmpT_le 14 (nI_le (by omega) (by omega)) (by decide) dX8_seconds_7 ?_
    refine G_aload_n 15 rfl rfl dX8_seconds_14 ?_
    refine G_mR 18 rfl hR fl_X8_53 ia_21 rfl dX8_seconds_15 ?_
    refine G_iload_n 19 rfl rfl dX8_seconds_18 ?_
    refine G_mldV 20 rfl hR (k := 21) p (v := τ 21 p) rfl rfl ia_21 rfl (show p < 16 by omega) dX8_seconds_19 ?_
    rw [hq0]
    refine G_istore_n 21 rfl (by decide) dX8_seconds_20 ?_
    refine G_aload_n 22 rfl rfl dX8_seconds_21 ?_
    refine G_iload_n 23 rfl rfl dX8_seconds_22 ?_
    refine G_iload_n 24 rfl rfl dX8_seconds_23 ?_
    refine G_callV 27 rfl [.int (nI p), .int (nI q)] (m_versionOf hR hp hq) ok_X8_versionOf ov_X8_versionOf ml_X8_153 (hR.ob (ci := 8) (i := 0) (by decide) rfl) ⟨by decide, rfl⟩ rfl ⟨by decide, by decide⟩ rfl rfl (Nat.le_of_ble_eq_true rfl) rfl dX8_seconds_24 ?_
    rintro v h' ⟨rfl, rfl⟩
    refine G_istore_n 28 rfl (by decide) dX8_seconds_27 ?_
    refine G_aload_n 29 rfl rfl dX8_seconds_28 ?_
    refine G_mR 32 rfl hR fl_X8_62 ia_24 rfl dX8_seconds_29 ?_
    refine G_iload_n 33 rfl rfl dX8_seconds_32 ?_
    refine G_iconst 34 rfl (0) (by decide) dX8_seconds_33 ?_
    refine G_mstZ 35 rfl hR (k := 24) p rfl ia_24 rfl (show p < 16 by omega) (by decide) dX8_seconds_34 (fun h hR => ?_)
    refine G_aload_n 36 rfl rfl dX8_seconds_35 ?_
    refine G_iload_n 37 rfl rfl dX8_seconds_36 ?_
    refine G_iload_n 38 rfl rfl dX8_seconds_37 ?_
    refine G_iload_n 39 rfl rfl dX8_seconds_38 ?_
    refine G_callV 42 rfl [.int (nI p), .int (nI q), .int (mVs τ p q)] (m_tries hR hp hq (mVs τ p q)) ok_X8_tries ov_X8_tries ml_X8_156 (hR.ob (ci := 8) (i := 0) (by decide) rfl) ⟨by decide, rfl⟩ rfl ⟨by decide, by decide⟩ rfl rfl (Nat.le_of_ble_eq_true rfl) rfl dX8_seconds_39 ?_
    rintro v h (⟨ht1, rfl, hR⟩ | ⟨ht1, rfl, hR⟩)
    · skip
      refine G_ifF_eq 45 rfl (by decide) ⟨59, by decide⟩ dX8_seconds_42 ?_
      refine G_aload_n 46 rfl rfl dX8_seconds_45 ?_
      refine G_iload_n 47 rfl rfl dX8_seconds_46 ?_
      refine G_callV 50 rfl [.int (nI p)] (m_meets hR hp hq hq0 hqp hat hj8 hv1 hv1b hv2 hv2b hz hzb) ok_X8_meets ov_X8_meets ml_X8_170 (hR.ob (ci := 8) (i := 0) (by decide) rfl) ⟨by decide, rfl⟩ rfl ⟨by decide, by decide⟩ rfl rfl (Nat.le_of_ble_eq_true rfl) rfl dX8_seconds_47 ?_
      rintro v h ⟨rfl, hR⟩
      refine G_aload_n 51 rfl rfl dX8_seconds_50 ?_
      refine G_mR 54 rfl hR fl_X8_9 ia_7 rfl dX8_seconds_51 ?_
      refine G_iload_n 55 rfl rfl dX8_seconds_54 ?_
      refine G_bipush 57 rfl (7) (by decide) dX8_seconds_55 ?_
      refine G_mst 58 rfl hR (k := 7) p rfl ia_7 rfl (show p < 16 by omega) dX8_seconds_57 (fun h hR => ?_)
      refine G_ret rfl ?_ dX8_seconds_58
      refine ⟨rfl, ?_⟩
      unfold mSec hiT
      first | rw [if_pos hpq] | rw [if_neg hpq]
      rw [if_pos (show mTok τ _ _ from ht1)]
      exact hR
    · skip
      refine G_ifT_eq 59 (by decide) (by decide) dX8_seconds_42 ?_
      refine G_aload_n 60 rfl rfl dX8_seconds_59 ?_
      refine G_mR 63 rfl hR fl_X8_62 ia_24 rfl dX8_seconds_60 ?_
      refine G_iload_n 64 rfl rfl dX8_seconds_63 ?_
      refine G_iload_n 65 rfl rfl dX8_seconds_64 ?_
      refine G_iload_n 66 rfl rfl dX8_seconds_65 ?_
      refine G_icmpT_ne 81 (fun z => hqp ((nI_eq (by omega) (by omega)).mp z)) (by decide) dX8_seconds_66 ?_
      refine G_iconst 82 rfl (0) (by decide) dX8_seconds_81 ?_
      refine G_mstZ 83 rfl hR (k := 24) p rfl ia_24 rfl (show p < 16 by omega) (by decide) dX8_seconds_82 (fun h hR => ?_)
      refine G_aload_n 84 rfl rfl dX8_seconds_83 ?_
      refine G_iload_n 85 rfl rfl dX8_seconds_84 ?_
      refine G_iload_n 86 rfl rfl dX8_seconds_85 ?_
      refine G_iload_n 87 rfl rfl dX8_seconds_86 ?_
      refine G_callV 90 rfl [.int (nI p), .int (nI q), .int (mVs τ p q)] (m_isBusy hR hp hq (mVs τ p q)) ok_X8_isBusy ov_X8_isBusy ml_X8_166 (hR.ob (ci := 8) (i := 0) (by decide) rfl) ⟨by decide, rfl⟩ rfl ⟨by decide, by decide⟩ rfl rfl (Nat.le_of_ble_eq_true rfl) rfl dX8_seconds_87 ?_
      rintro v h ⟨rfl, hR⟩
      refine G_aload_n 91 rfl rfl dX8_seconds_90 ?_
      refine G_mR 94 rfl hR fl_X8_9 ia_7 rfl dX8_seconds_91 ?_
      refine G_iload_n 95 rfl rfl dX8_seconds_94 ?_
      refine G_bipush 97 rfl (6) (by decide) dX8_seconds_95 ?_
      refine G_mst 98 rfl hR (k := 7) p rfl ia_7 rfl (show p < 16 by omega) dX8_seconds_97 (fun h hR => ?_)
      refine G_ret rfl ?_ dX8_seconds_98
      refine ⟨rfl, ?_⟩
      unfold mSec hiT
      first | rw [if_pos hpq] | rw [if_neg hpq]
      rw [if_neg (show ¬ mTok τ _ _ from ht1)]
      rw [if_neg (by first | exact fun z => hs z.2 | exact fun z => hqp z.1)]
      exact hR
  · skip
    refine G_icmpF_le 10 rfl (nI_ge (by omega) (by omega)) ⟨14, by decide⟩ dX8_seconds_7 ?_
    refine G_iload_n 11 rfl rfl dX8_seconds_10 ?_
    refine G_goto 20 (by decide) dX8_seconds_11 ?_
    refine G_istore_n 21 rfl (by decide) dX8_seconds_20 ?_
    refine G_aload_n 22 rfl rfl dX8_seconds_21 ?_
    refine G_iload_n 23 rfl rfl dX8_seconds_22 ?_
    refine G_iload_n 24 rfl rfl dX8_seconds_23 ?_
    refine G_callV 27 rfl [.int (nI p), .int (nI p)] (m_versionOf hR hp hp) ok_X8_versionOf ov_X8_versionOf ml_X8_153 (hR.ob (ci := 8) (i := 0) (by decide) rfl) ⟨by decide, rfl⟩ rfl ⟨by decide, by decide⟩ rfl rfl (Nat.le_of_ble_eq_true rfl) rfl dX8_seconds_24 ?_
    rintro v h' ⟨rfl, rfl⟩
    refine G_istore_n 28 rfl (by decide) dX8_seconds_27 ?_
    refine G_aload_n 29 rfl rfl dX8_seconds_28 ?_
    refine G_mR 32 rfl hR fl_X8_62 ia_24 rfl dX8_seconds_29 ?_
    refine G_iload_n 33 rfl rfl dX8_seconds_32 ?_
    refine G_iconst 34 rfl (0) (by decide) dX8_seconds_33 ?_
    refine G_mstZ 35 rfl hR (k := 24) p rfl ia_24 rfl (show p < 16 by omega) (by decide) dX8_seconds_34 (fun h hR => ?_)
    refine G_aload_n 36 rfl rfl dX8_seconds_35 ?_
    refine G_iload_n 37 rfl rfl dX8_seconds_36 ?_
    refine G_iload_n 38 rfl rfl dX8_seconds_37 ?_
    refine G_iload_n 39 rfl rfl dX8_seconds_38 ?_
    refine G_callV 42 rfl [.int (nI p), .int (nI p), .int (mVs τ p p)] (m_tries hR hp hp (mVs τ p p)) ok_X8_tries ov_X8_tries ml_X8_156 (hR.ob (ci := 8) (i := 0) (by decide) rfl) ⟨by decide, rfl⟩ rfl ⟨by decide, by decide⟩ rfl rfl (Nat.le_of_ble_eq_true rfl) rfl dX8_seconds_39 ?_
    rintro v h (⟨ht1, rfl, hR⟩ | ⟨ht1, rfl, hR⟩)
    · skip
      refine G_ifF_eq 45 rfl (by decide) ⟨59, by decide⟩ dX8_seconds_42 ?_
      refine G_aload_n 46 rfl rfl dX8_seconds_45 ?_
      refine G_iload_n 47 rfl rfl dX8_seconds_46 ?_
      refine G_callV 50 rfl [.int (nI p)] (m_meets hR hp hq hq0 hqp hat hj8 hv1 hv1b hv2 hv2b hz hzb) ok_X8_meets ov_X8_meets ml_X8_170 (hR.ob (ci := 8) (i := 0) (by decide) rfl) ⟨by decide, rfl⟩ rfl ⟨by decide, by decide⟩ rfl rfl (Nat.le_of_ble_eq_true rfl) rfl dX8_seconds_47 ?_
      rintro v h ⟨rfl, hR⟩
      refine G_aload_n 51 rfl rfl dX8_seconds_50 ?_
      refine G_mR 54 rfl hR fl_X8_9 ia_7 rfl dX8_seconds_51 ?_
      refine G_iload_n 55 rfl rfl dX8_seconds_54 ?_
      refine G_bipush 57 rfl (7) (by decide) dX8_seconds_55 ?_
      refine G_mst 58 rfl hR (k := 7) p rfl ia_7 rfl (show p < 16 by omega) dX8_seconds_57 (fun h hR => ?_)
      refine G_ret rfl ?_ dX8_seconds_58
      refine ⟨rfl, ?_⟩
      unfold mSec hiT
      first | rw [if_pos hpq] | rw [if_neg hpq]
      rw [if_pos (show mTok τ _ _ from ht1)]
      exact hR
    · skip
      refine G_ifT_eq 59 (by decide) (by decide) dX8_seconds_42 ?_
      refine G_aload_n 60 rfl rfl dX8_seconds_59 ?_
      refine G_mR 63 rfl hR fl_X8_62 ia_24 rfl dX8_seconds_60 ?_
      refine G_iload_n 64 rfl rfl dX8_seconds_63 ?_
      refine G_iload_n 65 rfl rfl dX8_seconds_64 ?_
      refine G_iload_n 66 rfl rfl dX8_seconds_65 ?_
      refine G_icmpF_ne 69 rfl rfl ⟨81, by decide⟩ dX8_seconds_66 ?_
      refine G_aload_n 70 rfl rfl dX8_seconds_69 ?_
      refine G_iload_n 71 rfl rfl dX8_seconds_70 ?_
      refine G_callV 74 rfl [.int (nI p)] (m_isEnded hR hp) ok_X8_isEnded ov_X8_isEnded ml_X8_160 (hR.ob (ci := 8) (i := 0) (by decide) rfl) ⟨by decide, rfl⟩ rfl ⟨by decide, by decide⟩ rfl rfl (Nat.le_of_ble_eq_true rfl) rfl dX8_seconds_71 ?_
      rintro v h' ⟨⟨hs, rfl⟩ | ⟨hs, rfl⟩, rfl⟩
      · skip
        refine G_ifF_eq 77 rfl (by decide) ⟨81, by decide⟩ dX8_seconds_74 ?_
        refine G_iconst 78 rfl (1) (by decide) dX8_seconds_77 ?_
        refine G_goto 82 (by decide) dX8_seconds_78 ?_
        refine G_mstZ 83 rfl hR (k := 24) p rfl ia_24 rfl (show p < 16 by omega) (by decide) dX8_seconds_82 (fun h hR => ?_)
        refine G_aload_n 84 rfl rfl dX8_seconds_83 ?_
        refine G_iload_n 85 rfl rfl dX8_seconds_84 ?_
        refine G_iload_n 86 rfl rfl dX8_seconds_85 ?_
        refine G_iload_n 87 rfl rfl dX8_seconds_86 ?_
        refine G_callV 90 rfl [.int (nI p), .int (nI p), .int (mVs τ p p)] (m_isBusy hR hp hp (mVs τ p p)) ok_X8_isBusy ov_X8_isBusy ml_X8_166 (hR.ob (ci := 8) (i := 0) (by decide) rfl) ⟨by decide, rfl⟩ rfl ⟨by decide, by decide⟩ rfl rfl (Nat.le_of_ble_eq_true rfl) rfl dX8_seconds_87 ?_
        rintro v h ⟨rfl, hR⟩
        refine G_aload_n 91 rfl rfl dX8_seconds_90 ?_
        refine G_mR 94 rfl hR fl_X8_9 ia_7 rfl dX8_seconds_91 ?_
        refine G_iload_n 95 rfl rfl dX8_seconds_94 ?_
        refine G_bipush 97 rfl (6) (by decide) dX8_seconds_95 ?_
        refine G_mst 98 rfl hR (k := 7) p rfl ia_7 rfl (show p < 16 by omega) dX8_seconds_97 (fun h hR => ?_)
        refine G_ret rfl ?_ dX8_seconds_98
        refine ⟨rfl, ?_⟩
        unfold mSec hiT
        first | rw [if_pos hpq] | rw [if_neg hpq]
        rw [if_neg (show ¬ mTok τ _ _ from ht1)]
        rw [if_pos ⟨rfl, hs⟩]
        exact hR
      · skip
        refine G_ifT_eq 81 (by decide) (by decide) dX8_seconds_74 ?_
        refine G_iconst 82 rfl (0) (by decide) dX8_seconds_81 ?_
        refine G_mstZ 83 rfl hR (k := 24) p rfl ia_24 rfl (show p < 16 by omega) (by decide) dX8_seconds_82 (fun h hR => ?_)
        refine G_aload_n 84 rfl rfl dX8_seconds_83 ?_
        refine G_iload_n 85 rfl rfl dX8_seconds_84 ?_
        refine G_iload_n 86 rfl rfl dX8_seconds_85 ?_
        refine G_iload_n 87 rfl rfl dX8_seconds_86 ?_
        refine G_callV 90 rfl [.int (nI p), .int (nI p), .int (mVs τ p p)] (m_isBusy hR hp hp (mVs τ p p)) ok_X8_isBusy ov_X8_isBusy ml_X8_166 (hR.ob (ci := 8) (i := 0) (by decide) rfl) ⟨by decide, rfl⟩ rfl ⟨by decide, by decide⟩ rfl rfl (Nat.le_of_ble_eq_true rfl) rfl dX8_seconds_87 ?_
        rintro v h ⟨rfl, hR⟩
        refine G_aload_n 91 rfl rfl dX8_seconds_90 ?_
        refine G_mR 94 rfl hR fl_X8_9 ia_7 rfl dX8_seconds_91 ?_
        refine G_iload_n 95 rfl rfl dX8_seconds_94 ?_
        refine G_bipush 97 rfl (6) (by decide) dX8_seconds_95 ?_
        refine G_mst 98 rfl hR (k := 7) p rfl ia_7 rfl (show p < 16 by omega) dX8_seconds_97 (fun h hR => ?_)
        refine G_ret rfl ?_ dX8_seconds_98
        refine ⟨rfl, ?_⟩
        unfold mSec hiT
        first | rw [if_pos hpq] | rw [if_neg hpq]
        rw [if_neg (show ¬ mTok τ _ _ from ht1)]
        rw [if_neg (by first | exact fun z => hs z.2 | exact fun z => hqp z.1)]
        exact hR

set_option maxHeartbeats 4000000 in
set_option maxRecDepth 100000 in
theorem m_tells {E : Ev} {m : Nat} {σ : Sg} {τ : Tu} {h : Hp} (hR : RR E m σ τ h)  {t : Nat} (ht : t < m) (b v0 : Int32) : Cn E mX8_tells (rk 0 0 0) h [.ref (aM E m), .int (nI t), .int b, .int v0] (fun v h' => v = none ∧ RR E m σ (mTl τ t b v0) h') := by
  refine Cn_of (by decide) rfl (by simp [Value.category]) (Nat.le_of_ble_eq_true rfl) ?_
  have hm := hR.1.1
  refine G_aload_n 1 rfl rfl dX8_tells_0 ?_
  refine G_mR 4 rfl hR fl_X8_35 ia_15 rfl dX8_tells_1 ?_
  refine G_iload_n 5 rfl rfl dX8_tells_4 ?_
  refine G_iconst 6 rfl (3) (by decide) dX8_tells_5 ?_
  refine G_mst 7 rfl hR (k := 15) t rfl ia_15 rfl (show t < 16 by omega) dX8_tells_6 (fun h hR => ?_)
  refine G_aload_n 8 rfl rfl dX8_tells_7 ?_
  refine G_mR 11 rfl hR fl_X8_68 ia_26 rfl dX8_tells_8 ?_
  refine G_iload_n 12 rfl rfl dX8_tells_11 ?_
  refine G_iconst 13 rfl (1) (by decide) dX8_tells_12 ?_
  refine G_mstZ 14 rfl hR (k := 26) t rfl ia_26 rfl (show t < 16 by omega) (by decide) dX8_tells_13 (fun h hR => ?_)
  refine G_aload_n 15 rfl rfl dX8_tells_14 ?_
  refine G_mR 18 rfl hR fl_X8_71 ia_27 rfl dX8_tells_15 ?_
  refine G_iload_n 19 rfl rfl dX8_tells_18 ?_
  refine G_iload_n 20 rfl rfl dX8_tells_19 ?_
  refine G_mst 21 rfl hR (k := 27) t rfl ia_27 rfl (show t < 16 by omega) dX8_tells_20 (fun h hR => ?_)
  refine G_aload_n 22 rfl rfl dX8_tells_21 ?_
  refine G_mR 25 rfl hR fl_X8_77 ia_29 rfl dX8_tells_22 ?_
  refine G_iload_n 26 rfl rfl dX8_tells_25 ?_
  refine G_iload_n 27 rfl rfl dX8_tells_26 ?_
  refine G_mst 28 rfl hR (k := 29) t rfl ia_29 rfl (show t < 16 by omega) dX8_tells_27 (fun h hR => ?_)
  refine G_aload_n 29 rfl rfl dX8_tells_28 ?_
  refine G_mR 32 rfl hR fl_X8_80 ia_30 rfl dX8_tells_29 ?_
  refine G_iload_n 33 rfl rfl dX8_tells_32 ?_
  refine G_aload_n 34 rfl rfl dX8_tells_33 ?_
  refine G_mR 37 rfl hR fl_X8_38 ia_16 rfl dX8_tells_34 ?_
  refine G_iload_n 38 rfl rfl dX8_tells_37 ?_
  refine G_mldV 39 rfl hR (k := 16) t (v := τ 16 t) rfl rfl ia_16 rfl (show t < 16 by omega) dX8_tells_38 ?_
  refine G_mst 40 rfl hR (k := 30) t rfl ia_30 rfl (show t < 16 by omega) dX8_tells_39 (fun h hR => ?_)
  refine G_ret rfl ?_ dX8_tells_40
  exact ⟨rfl, hR⟩

set_option maxHeartbeats 4000000 in
set_option maxRecDepth 100000 in
theorem m_goesOut {E : Ev} {m : Nat} {σ : Sg} {τ : Tu} {h : Hp} (hR : RR E m σ τ h) {p : Nat} (hp : p < m) {v1 : Nat} (hv1 : τ 16 p = nI v1) (hv1b : v1 ≤ 1000) : Cn E mX8_goesOut (rk 0 0 0) h [.ref (aM E m), .int (nI p)] (fun v h' => v = none ∧ RR E m σ (mGo τ p) h') := by
  refine Cn_of (by decide) rfl (by simp [Value.category]) (Nat.le_of_ble_eq_true rfl) ?_
  have hm := hR.1.1
  refine G_aload_n 1 rfl rfl dX8_goesOut_0 ?_
  refine G_mR 4 rfl hR fl_X8_35 ia_15 rfl dX8_goesOut_1 ?_
  refine G_iload_n 5 rfl rfl dX8_goesOut_4 ?_
  refine G_iconst 6 rfl (4) (by decide) dX8_goesOut_5 ?_
  refine G_mst 7 rfl hR (k := 15) p rfl ia_15 rfl (show p < 16 by omega) dX8_goesOut_6 (fun h hR => ?_)
  refine G_aload_n 8 rfl rfl dX8_goesOut_7 ?_
  refine G_mR 11 rfl hR fl_X8_107 ia_40 rfl dX8_goesOut_8 ?_
  refine G_sipush 14 rfl (1001) (by decide) dX8_goesOut_11 ?_
  refine G_iload_n 15 rfl rfl dX8_goesOut_14 ?_
  refine G_imul 16 rfl dX8_goesOut_15 ?_
  refine G_aload_n 17 rfl rfl dX8_goesOut_16 ?_
  refine G_mR 20 rfl hR fl_X8_38 ia_16 rfl dX8_goesOut_17 ?_
  refine G_iload_n 21 rfl rfl dX8_goesOut_20 ?_
  refine G_mldV 22 rfl hR (k := 16) p (v := τ 16 p) rfl rfl ia_16 rfl (show p < 16 by omega) dX8_goesOut_21 ?_
  refine G_iadd 23 rfl dX8_goesOut_22 ?_
  refine G_iconst 24 rfl (1) (by decide) dX8_goesOut_23 ?_
  refine G_mstZ 25 rfl hR (k := 40) (1001 * p + v1) (by rw [hv1]; exact e1001 p v1) ia_40 rfl (show 1001 * p + v1 < 16016 by omega) (by decide) dX8_goesOut_24 (fun h hR => ?_)
  refine G_ret rfl ?_ dX8_goesOut_25
  refine ⟨rfl, ?_⟩
  unfold mGo
  rw [hv1, cN_nI (by omega)]
  exact hR

set_option maxHeartbeats 4000000 in
set_option maxRecDepth 100000 in
theorem m_ends {E : Ev} {m : Nat} {σ : Sg} {τ : Tu} {h : Hp} (hR : RR E m σ τ h) {p : Nat} (hp : p < m) {v1 : Nat} (hv1 : τ 16 p = nI v1) (hv1b : v1 ≤ 1000) {e : Nat} (he : τ 31 0 = nI e) (heb : e ≤ 129) : Cn E mX8_ends (rk 2 0 0) h [.ref (aM E m), .int (nI p)] (fun v h' => v = none ∧ RR E m σ (mEnds τ p) h') := by
  refine Cn_of (by decide) rfl (by simp [Value.category]) (Nat.le_of_ble_eq_true rfl) ?_
  have hm := hR.1.1
  refine G_aload_n 1 rfl rfl dX8_ends_0 ?_
  refine G_mR 4 rfl hR fl_X8_35 ia_15 rfl dX8_ends_1 ?_
  refine G_iload_n 5 rfl rfl dX8_ends_4 ?_
  refine G_mldV 6 rfl hR (k := 15) p (v := τ 15 p) rfl rfl ia_15 rfl (show p < 16 by omega) dX8_ends_5 ?_
  refine G_iconst 7 rfl (1) (by decide) dX8_ends_6 ?_
  refine G_icmp_ne 30 10 rfl (by decide) dX8_ends_7 (fun c7 => ?_) (fun c7 => ?_)
  · skip
    refine G_aload_n 31 rfl rfl dX8_ends_30 ?_
    refine G_mR 34 rfl hR fl_X8_35 ia_15 rfl dX8_ends_31 ?_
    refine G_iload_n 35 rfl rfl dX8_ends_34 ?_
    refine G_mldV 36 rfl hR (k := 15) p (v := τ 15 p) rfl rfl ia_15 rfl (show p < 16 by omega) dX8_ends_35 ?_
    refine G_iconst 37 rfl (3) (by decide) dX8_ends_36 ?_
    refine G_icmp_ne 45 40 rfl (by decide) dX8_ends_37 (fun c37 => ?_) (fun c37 => ?_)
    · skip
      refine G_ret rfl ?_ dX8_ends_45
      refine ⟨rfl, ?_⟩
      unfold mEnds
      first | (rw [if_pos c7]; exact hR) | (rw [if_neg c7, if_pos c37]; exact hR) | (rw [if_neg c7, if_neg c37]; exact hR)
    · skip
      refine G_aload_n 41 rfl rfl dX8_ends_40 ?_
      refine G_iload_n 42 rfl rfl dX8_ends_41 ?_
      refine G_callV 45 rfl [.int (nI p)] (m_withdraws hR hp (e := e) he heb) ok_X8_withdraws ov_X8_withdraws ml_X8_163 (hR.ob (ci := 8) (i := 0) (by decide) rfl) ⟨by decide, rfl⟩ rfl ⟨by decide, by decide⟩ rfl rfl (Nat.le_of_ble_eq_true rfl) rfl dX8_ends_42 ?_
      rintro v h ⟨rfl, hR⟩
      refine G_ret rfl ?_ dX8_ends_45
      refine ⟨rfl, ?_⟩
      unfold mEnds
      first | (rw [if_pos c7]; exact hR) | (rw [if_neg c7, if_pos c37]; exact hR) | (rw [if_neg c7, if_neg c37]; exact hR)
  · skip
    refine G_aload_n 11 rfl rfl dX8_ends_10 ?_
    refine G_iload_n 12 rfl rfl dX8_ends_11 ?_
    refine G_callV 15 rfl [.int (nI p)] (m_goesOut hR hp hv1 hv1b) ok_X8_goesOut ov_X8_goesOut ml_X8_179 (hR.ob (ci := 8) (i := 0) (by decide) rfl) ⟨by decide, rfl⟩ rfl ⟨by decide, by decide⟩ rfl rfl (Nat.le_of_ble_eq_true rfl) rfl dX8_ends_12 ?_
    rintro v h ⟨rfl, hR⟩
    refine G_aload_n 16 rfl rfl dX8_ends_15 ?_
    refine G_mR 19 rfl hR fl_X8_65 ia_25 rfl dX8_ends_16 ?_
    refine G_iload_n 20 rfl rfl dX8_ends_19 ?_
    refine G_iconst 21 rfl (1) (by decide) dX8_ends_20 ?_
    refine G_mstZ 22 rfl hR (k := 25) p rfl ia_25 rfl (show p < 16 by omega) (by decide) dX8_ends_21 (fun h hR => ?_)
    refine G_aload_n 23 rfl rfl dX8_ends_22 ?_
    refine G_iload_n 24 rfl rfl dX8_ends_23 ?_
    refine G_callV 27 rfl [.int (nI p)] (m_withdraws hR hp (e := e) he heb) ok_X8_withdraws ov_X8_withdraws ml_X8_163 (hR.ob (ci := 8) (i := 0) (by decide) rfl) ⟨by decide, rfl⟩ rfl ⟨by decide, by decide⟩ rfl rfl (Nat.le_of_ble_eq_true rfl) rfl dX8_ends_24 ?_
    rintro v h ⟨rfl, hR⟩
    refine G_goto 45 (by decide) dX8_ends_27 ?_
    refine G_ret rfl ?_ dX8_ends_45
    refine ⟨rfl, ?_⟩
    unfold mEnds
    first | (rw [if_pos c7]; exact hR) | (rw [if_neg c7, if_pos c37]; exact hR) | (rw [if_neg c7, if_neg c37]; exact hR)

set_option maxHeartbeats 4000000 in
set_option maxRecDepth 100000 in
theorem m_isDue {E : Ev} {m : Nat} {σ : Sg} {τ : Tu} {h : Hp} (hR : RR E m σ τ h) {p : Nat} (hp : p < m) : Cn E mX8_isDue (rk 0 0 0) h [.ref (aM E m), .int (nI p)] (fun v h' => (((τ 7 p = 2 ∨ τ 7 p = 3 ∨ τ 7 p = 9 ∨ τ 7 p = 10) ∧ ¬ τ 14 p = -1 ∧ ¬ τ 1 0 < τ 14 p) ∧ v = some (.int 1) ∨ ¬ ((τ 7 p = 2 ∨ τ 7 p = 3 ∨ τ 7 p = 9 ∨ τ 7 p = 10) ∧ ¬ τ 14 p = -1 ∧ ¬ τ 1 0 < τ 14 p) ∧ v = some (.int 0)) ∧ h' = h) := by
  refine Cn_of (by decide) rfl (by simp [Value.category]) (Nat.le_of_ble_eq_true rfl) ?_
  have hm := hR.1.1
  refine G_aload_n 1 rfl rfl dX8_isDue_0 ?_
  refine G_mR 4 rfl hR fl_X8_9 ia_7 rfl dX8_isDue_1 ?_
  refine G_iload_n 5 rfl rfl dX8_isDue_4 ?_
  refine G_mldV 6 rfl hR (k := 7) p (v := τ 7 p) rfl rfl ia_7 rfl (show p < 16 by omega) dX8_isDue_5 ?_
  refine G_iconst 7 rfl (2) (by decide) dX8_isDue_6 ?_
  refine G_icmp_eq 42 10 rfl (by decide) dX8_isDue_7 (fun c7 => ?_) (fun c7 => ?_)
  · skip
    refine G_iconst 43 rfl (1) (by decide) dX8_isDue_42 ?_
    refine G_goto 47 (by decide) dX8_isDue_43 ?_
    refine G_istore_n 48 rfl (by decide) dX8_isDue_47 ?_
    refine G_iload_n 49 rfl rfl dX8_isDue_48 ?_
    refine G_ifF_eq 52 rfl (by decide) ⟨79, by decide⟩ dX8_isDue_49 ?_
    refine G_aload_n 53 rfl rfl dX8_isDue_52 ?_
    refine G_mR 56 rfl hR fl_X8_32 ia_14 rfl dX8_isDue_53 ?_
    refine G_iload_n 57 rfl rfl dX8_isDue_56 ?_
    refine G_mldV 58 rfl hR (k := 14) p (v := τ 14 p) rfl rfl ia_14 rfl (show p < 16 by omega) dX8_isDue_57 ?_
    refine G_iconst 59 rfl (-1) (by decide) dX8_isDue_58 ?_
    refine G_icmp_eq 79 62 rfl (by decide) dX8_isDue_59 (fun c59 => ?_) (fun c59 => ?_)
    · skip
      refine G_iconst 80 rfl (0) (by decide) dX8_isDue_79 ?_
      refine G_iret (ty := .boolean) rfl (by decide) ?_ dX8_isDue_80
      exact ⟨Or.inr ⟨by first | omega | simp_all | (simp_all; omega), rfl⟩, rfl⟩
    · skip
      refine G_aload_n 63 rfl rfl dX8_isDue_62 ?_
      refine G_mi 66 rfl hR (v := τ 1 0) rfl fl_X8_130 (by decide) rfl dX8_isDue_63 ?_
      refine G_aload_n 67 rfl rfl dX8_isDue_66 ?_
      refine G_mR 70 rfl hR fl_X8_32 ia_14 rfl dX8_isDue_67 ?_
      refine G_iload_n 71 rfl rfl dX8_isDue_70 ?_
      refine G_mldV 72 rfl hR (k := 14) p (v := τ 14 p) rfl rfl ia_14 rfl (show p < 16 by omega) dX8_isDue_71 ?_
      refine G_icmp_lt 79 75 rfl (by decide) dX8_isDue_72 (fun c72 => ?_) (fun c72 => ?_)
      · skip
        refine G_iconst 80 rfl (0) (by decide) dX8_isDue_79 ?_
        refine G_iret (ty := .boolean) rfl (by decide) ?_ dX8_isDue_80
        exact ⟨Or.inr ⟨by first | omega | simp_all | (simp_all; omega), rfl⟩, rfl⟩
      · skip
        refine G_iconst 76 rfl (1) (by decide) dX8_isDue_75 ?_
        refine G_goto 80 (by decide) dX8_isDue_76 ?_
        refine G_iret (ty := .boolean) rfl (by decide) ?_ dX8_isDue_80
        exact ⟨Or.inl ⟨by first | omega | simp_all | (simp_all; omega), rfl⟩, rfl⟩
  · skip
    refine G_aload_n 11 rfl rfl dX8_isDue_10 ?_
    refine G_mR 14 rfl hR fl_X8_9 ia_7 rfl dX8_isDue_11 ?_
    refine G_iload_n 15 rfl rfl dX8_isDue_14 ?_
    refine G_mldV 16 rfl hR (k := 7) p (v := τ 7 p) rfl rfl ia_7 rfl (show p < 16 by omega) dX8_isDue_15 ?_
    refine G_iconst 17 rfl (3) (by decide) dX8_isDue_16 ?_
    refine G_icmp_eq 42 20 rfl (by decide) dX8_isDue_17 (fun c17 => ?_) (fun c17 => ?_)
    · skip
      refine G_iconst 43 rfl (1) (by decide) dX8_isDue_42 ?_
      refine G_goto 47 (by decide) dX8_isDue_43 ?_
      refine G_istore_n 48 rfl (by decide) dX8_isDue_47 ?_
      refine G_iload_n 49 rfl rfl dX8_isDue_48 ?_
      refine G_ifF_eq 52 rfl (by decide) ⟨79, by decide⟩ dX8_isDue_49 ?_
      refine G_aload_n 53 rfl rfl dX8_isDue_52 ?_
      refine G_mR 56 rfl hR fl_X8_32 ia_14 rfl dX8_isDue_53 ?_
      refine G_iload_n 57 rfl rfl dX8_isDue_56 ?_
      refine G_mldV 58 rfl hR (k := 14) p (v := τ 14 p) rfl rfl ia_14 rfl (show p < 16 by omega) dX8_isDue_57 ?_
      refine G_iconst 59 rfl (-1) (by decide) dX8_isDue_58 ?_
      refine G_icmp_eq 79 62 rfl (by decide) dX8_isDue_59 (fun c59 => ?_) (fun c59 => ?_)
      · skip
        refine G_iconst 80 rfl (0) (by decide) dX8_isDue_79 ?_
        refine G_iret (ty := .boolean) rfl (by decide) ?_ dX8_isDue_80
        exact ⟨Or.inr ⟨by first | omega | simp_all | (simp_all; omega), rfl⟩, rfl⟩
      · skip
        refine G_aload_n 63 rfl rfl dX8_isDue_62 ?_
        refine G_mi 66 rfl hR (v := τ 1 0) rfl fl_X8_130 (by decide) rfl dX8_isDue_63 ?_
        refine G_aload_n 67 rfl rfl dX8_isDue_66 ?_
        refine G_mR 70 rfl hR fl_X8_32 ia_14 rfl dX8_isDue_67 ?_
        refine G_iload_n 71 rfl rfl dX8_isDue_70 ?_
        refine G_mldV 72 rfl hR (k := 14) p (v := τ 14 p) rfl rfl ia_14 rfl (show p < 16 by omega) dX8_isDue_71 ?_
        refine G_icmp_lt 79 75 rfl (by decide) dX8_isDue_72 (fun c72 => ?_) (fun c72 => ?_)
        · skip
          refine G_iconst 80 rfl (0) (by decide) dX8_isDue_79 ?_
          refine G_iret (ty := .boolean) rfl (by decide) ?_ dX8_isDue_80
          exact ⟨Or.inr ⟨by first | omega | simp_all | (simp_all; omega), rfl⟩, rfl⟩
        · skip
          refine G_iconst 76 rfl (1) (by decide) dX8_isDue_75 ?_
          refine G_goto 80 (by decide) dX8_isDue_76 ?_
          refine G_iret (ty := .boolean) rfl (by decide) ?_ dX8_isDue_80
          exact ⟨Or.inl ⟨by first | omega | simp_all | (simp_all; omega), rfl⟩, rfl⟩
    · skip
      refine G_aload_n 21 rfl rfl dX8_isDue_20 ?_
      refine G_mR 24 rfl hR fl_X8_9 ia_7 rfl dX8_isDue_21 ?_
      refine G_iload_n 25 rfl rfl dX8_isDue_24 ?_
      refine G_mldV 26 rfl hR (k := 7) p (v := τ 7 p) rfl rfl ia_7 rfl (show p < 16 by omega) dX8_isDue_25 ?_
      refine G_bipush 28 rfl (9) (by decide) dX8_isDue_26 ?_
      refine G_icmp_eq 42 31 rfl (by decide) dX8_isDue_28 (fun c28 => ?_) (fun c28 => ?_)
      · skip
        refine G_iconst 43 rfl (1) (by decide) dX8_isDue_42 ?_
        refine G_goto 47 (by decide) dX8_isDue_43 ?_
        refine G_istore_n 48 rfl (by decide) dX8_isDue_47 ?_
        refine G_iload_n 49 rfl rfl dX8_isDue_48 ?_
        refine G_ifF_eq 52 rfl (by decide) ⟨79, by decide⟩ dX8_isDue_49 ?_
        refine G_aload_n 53 rfl rfl dX8_isDue_52 ?_
        refine G_mR 56 rfl hR fl_X8_32 ia_14 rfl dX8_isDue_53 ?_
        refine G_iload_n 57 rfl rfl dX8_isDue_56 ?_
        refine G_mldV 58 rfl hR (k := 14) p (v := τ 14 p) rfl rfl ia_14 rfl (show p < 16 by omega) dX8_isDue_57 ?_
        refine G_iconst 59 rfl (-1) (by decide) dX8_isDue_58 ?_
        refine G_icmp_eq 79 62 rfl (by decide) dX8_isDue_59 (fun c59 => ?_) (fun c59 => ?_)
        · skip
          refine G_iconst 80 rfl (0) (by decide) dX8_isDue_79 ?_
          refine G_iret (ty := .boolean) rfl (by decide) ?_ dX8_isDue_80
          exact ⟨Or.inr ⟨by first | omega | simp_all | (simp_all; omega), rfl⟩, rfl⟩
        · skip
          refine G_aload_n 63 rfl rfl dX8_isDue_62 ?_
          refine G_mi 66 rfl hR (v := τ 1 0) rfl fl_X8_130 (by decide) rfl dX8_isDue_63 ?_
          refine G_aload_n 67 rfl rfl dX8_isDue_66 ?_
          refine G_mR 70 rfl hR fl_X8_32 ia_14 rfl dX8_isDue_67 ?_
          refine G_iload_n 71 rfl rfl dX8_isDue_70 ?_
          refine G_mldV 72 rfl hR (k := 14) p (v := τ 14 p) rfl rfl ia_14 rfl (show p < 16 by omega) dX8_isDue_71 ?_
          refine G_icmp_lt 79 75 rfl (by decide) dX8_isDue_72 (fun c72 => ?_) (fun c72 => ?_)
          · skip
            refine G_iconst 80 rfl (0) (by decide) dX8_isDue_79 ?_
            refine G_iret (ty := .boolean) rfl (by decide) ?_ dX8_isDue_80
            exact ⟨Or.inr ⟨by first | omega | simp_all | (simp_all; omega), rfl⟩, rfl⟩
          · skip
            refine G_iconst 76 rfl (1) (by decide) dX8_isDue_75 ?_
            refine G_goto 80 (by decide) dX8_isDue_76 ?_
            refine G_iret (ty := .boolean) rfl (by decide) ?_ dX8_isDue_80
            exact ⟨Or.inl ⟨by first | omega | simp_all | (simp_all; omega), rfl⟩, rfl⟩
      · skip
        refine G_aload_n 32 rfl rfl dX8_isDue_31 ?_
        refine G_mR 35 rfl hR fl_X8_9 ia_7 rfl dX8_isDue_32 ?_
        refine G_iload_n 36 rfl rfl dX8_isDue_35 ?_
        refine G_mldV 37 rfl hR (k := 7) p (v := τ 7 p) rfl rfl ia_7 rfl (show p < 16 by omega) dX8_isDue_36 ?_
        refine G_bipush 39 rfl (10) (by decide) dX8_isDue_37 ?_
        refine G_icmp_ne 46 42 rfl (by decide) dX8_isDue_39 (fun c39 => ?_) (fun c39 => ?_)
        · skip
          refine G_iconst 47 rfl (0) (by decide) dX8_isDue_46 ?_
          refine G_istore_n 48 rfl (by decide) dX8_isDue_47 ?_
          refine G_iload_n 49 rfl rfl dX8_isDue_48 ?_
          refine G_ifT_eq 79 (by decide) (by decide) dX8_isDue_49 ?_
          refine G_iconst 80 rfl (0) (by decide) dX8_isDue_79 ?_
          refine G_iret (ty := .boolean) rfl (by decide) ?_ dX8_isDue_80
          exact ⟨Or.inr ⟨by first | omega | simp_all | (simp_all; omega), rfl⟩, rfl⟩
        · skip
          refine G_iconst 43 rfl (1) (by decide) dX8_isDue_42 ?_
          refine G_goto 47 (by decide) dX8_isDue_43 ?_
          refine G_istore_n 48 rfl (by decide) dX8_isDue_47 ?_
          refine G_iload_n 49 rfl rfl dX8_isDue_48 ?_
          refine G_ifF_eq 52 rfl (by decide) ⟨79, by decide⟩ dX8_isDue_49 ?_
          refine G_aload_n 53 rfl rfl dX8_isDue_52 ?_
          refine G_mR 56 rfl hR fl_X8_32 ia_14 rfl dX8_isDue_53 ?_
          refine G_iload_n 57 rfl rfl dX8_isDue_56 ?_
          refine G_mldV 58 rfl hR (k := 14) p (v := τ 14 p) rfl rfl ia_14 rfl (show p < 16 by omega) dX8_isDue_57 ?_
          refine G_iconst 59 rfl (-1) (by decide) dX8_isDue_58 ?_
          refine G_icmp_eq 79 62 rfl (by decide) dX8_isDue_59 (fun c59 => ?_) (fun c59 => ?_)
          · skip
            refine G_iconst 80 rfl (0) (by decide) dX8_isDue_79 ?_
            refine G_iret (ty := .boolean) rfl (by decide) ?_ dX8_isDue_80
            exact ⟨Or.inr ⟨by first | omega | simp_all | (simp_all; omega), rfl⟩, rfl⟩
          · skip
            refine G_aload_n 63 rfl rfl dX8_isDue_62 ?_
            refine G_mi 66 rfl hR (v := τ 1 0) rfl fl_X8_130 (by decide) rfl dX8_isDue_63 ?_
            refine G_aload_n 67 rfl rfl dX8_isDue_66 ?_
            refine G_mR 70 rfl hR fl_X8_32 ia_14 rfl dX8_isDue_67 ?_
            refine G_iload_n 71 rfl rfl dX8_isDue_70 ?_
            refine G_mldV 72 rfl hR (k := 14) p (v := τ 14 p) rfl rfl ia_14 rfl (show p < 16 by omega) dX8_isDue_71 ?_
            refine G_icmp_lt 79 75 rfl (by decide) dX8_isDue_72 (fun c72 => ?_) (fun c72 => ?_)
            · skip
              refine G_iconst 80 rfl (0) (by decide) dX8_isDue_79 ?_
              refine G_iret (ty := .boolean) rfl (by decide) ?_ dX8_isDue_80
              exact ⟨Or.inr ⟨by first | omega | simp_all | (simp_all; omega), rfl⟩, rfl⟩
            · skip
              refine G_iconst 76 rfl (1) (by decide) dX8_isDue_75 ?_
              refine G_goto 80 (by decide) dX8_isDue_76 ?_
              refine G_iret (ty := .boolean) rfl (by decide) ?_ dX8_isDue_80
              exact ⟨Or.inl ⟨by first | omega | simp_all | (simp_all; omega), rfl⟩, rfl⟩

set_option maxHeartbeats 4000000 in
set_option maxRecDepth 100000 in
theorem m_rests {E : Ev} {m : Nat} {σ : Sg} {τ : Tu} {h : Hp} (hR : RR E m σ τ h) {p : Nat} (hp : p < m) {g : Nat} (hg : τ 8 p = nI g) (hg8 : g ≤ 8) {e : Nat} (he : τ 31 0 = nI e) (heb : e ≤ 129) (hw : τ 7 p = 11 → ∃ k, mOwn τ p = some k) : Cn E mX8_rests (rk 2 0 0) h [.ref (aM E m), .int (nI p)] (fun v h' => v = none ∧ RR E m σ (mRst τ p) h') := by
  refine Cn_of (by decide) rfl (by simp [Value.category]) (Nat.le_of_ble_eq_true rfl) ?_
  have hm := hR.1.1
  have hen : mEn τ = e := by unfold mEn; rw [he]; exact cN_nI (by omega)
  refine G_aload_n 1 rfl rfl dX8_rests_0 ?_
  refine G_mR 4 rfl hR fl_X8_9 ia_7 rfl dX8_rests_1 ?_
  refine G_iload_n 5 rfl rfl dX8_rests_4 ?_
  refine G_mldV 6 rfl hR (k := 7) p (v := τ 7 p) rfl rfl ia_7 rfl (show p < 16 by omega) dX8_rests_5 ?_
  refine G_bipush 8 rfl (11) (by decide) dX8_rests_6 ?_
  refine G_icmp_ne 28 11 rfl (by decide) dX8_rests_8 (fun c8 => ?_) (fun c8 => ?_)
  · skip
    refine G_aload_n 29 rfl rfl dX8_rests_28 ?_
    refine G_iload_n 30 rfl rfl dX8_rests_29 ?_
    refine G_callV 33 rfl [.int (nI p)] (m_isEnded hR hp) ok_X8_isEnded ov_X8_isEnded ml_X8_160 (hR.ob (ci := 8) (i := 0) (by decide) rfl) ⟨by decide, rfl⟩ rfl ⟨by decide, by decide⟩ rfl rfl (Nat.le_of_ble_eq_true rfl) rfl dX8_rests_30 ?_
    rintro v h' ⟨⟨hs, rfl⟩ | ⟨hs, rfl⟩, rfl⟩
    · skip
      refine G_ifF_eq 36 rfl (by decide) ⟨44, by decide⟩ dX8_rests_33 ?_
      refine G_aload_n 37 rfl rfl dX8_rests_36 ?_
      refine G_iload_n 38 rfl rfl dX8_rests_37 ?_
      refine G_callV 41 rfl [.int (nI p)] (m_withdraws hR hp (e := e) he heb) ok_X8_withdraws ov_X8_withdraws ml_X8_163 (hR.ob (ci := 8) (i := 0) (by decide) rfl) ⟨by decide, rfl⟩ rfl ⟨by decide, by decide⟩ rfl rfl (Nat.le_of_ble_eq_true rfl) rfl dX8_rests_38 ?_
      rintro v h ⟨rfl, hR⟩
      refine G_goto 110 (by decide) dX8_rests_41 ?_
      refine G_ret rfl ?_ dX8_rests_110
      refine ⟨rfl, ?_⟩
      unfold mRst
      rw [if_neg c8, if_pos hs]
      exact hR
    · skip
      refine G_ifT_eq 44 (by decide) (by decide) dX8_rests_33 ?_
      refine G_aload_n 45 rfl rfl dX8_rests_44 ?_
      refine G_mR 48 rfl hR fl_X8_9 ia_7 rfl dX8_rests_45 ?_
      refine G_iload_n 49 rfl rfl dX8_rests_48 ?_
      refine G_mldV 50 rfl hR (k := 7) p (v := τ 7 p) rfl rfl ia_7 rfl (show p < 16 by omega) dX8_rests_49 ?_
      refine G_bipush 52 rfl (9) (by decide) dX8_rests_50 ?_
      refine G_icmp_ne 95 55 rfl (by decide) dX8_rests_52 (fun c52 => ?_) (fun c52 => ?_)
      · skip
        refine G_aload_n 96 rfl rfl dX8_rests_95 ?_
        refine G_mR 99 rfl hR fl_X8_50 ia_20 rfl dX8_rests_96 ?_
        refine G_iload_n 100 rfl rfl dX8_rests_99 ?_
        refine G_iconst 101 rfl (0) (by decide) dX8_rests_100 ?_
        refine G_mstZ 102 rfl hR (k := 20) p rfl ia_20 rfl (show p < 16 by omega) (by decide) dX8_rests_101 (fun h hR => ?_)
        refine G_aload_n 103 rfl rfl dX8_rests_102 ?_
        refine G_mR 106 rfl hR fl_X8_9 ia_7 rfl dX8_rests_103 ?_
        refine G_iload_n 107 rfl rfl dX8_rests_106 ?_
        refine G_bipush 109 rfl (10) (by decide) dX8_rests_107 ?_
        refine G_mst 110 rfl hR (k := 7) p rfl ia_7 rfl (show p < 16 by omega) dX8_rests_109 (fun h hR => ?_)
        refine G_ret rfl ?_ dX8_rests_110
        refine ⟨rfl, ?_⟩
        unfold mRst
        rw [if_neg c8, if_neg hs, if_neg (by first | exact fun z => z.2 hn0 | exact fun z => z.1.2 c61 | exact fun z => c52 z.1.1)]
        exact hR
      · skip
        refine G_aload_n 56 rfl rfl dX8_rests_55 ?_
        refine G_mR 59 rfl hR fl_X8_50 ia_20 rfl dX8_rests_56 ?_
        refine G_iload_n 60 rfl rfl dX8_rests_59 ?_
        refine G_mldZV 61 rfl hR (k := 20) p (v := τ 20 p) rfl rfl ia_20 rfl (show p < 16 by omega) dX8_rests_60 ?_
        refine G_if_eq 95 64 rfl (by decide) dX8_rests_61 (fun c61 => ?_) (fun c61 => ?_)
        · skip
          refine G_aload_n 96 rfl rfl dX8_rests_95 ?_
          refine G_mR 99 rfl hR fl_X8_50 ia_20 rfl dX8_rests_96 ?_
          refine G_iload_n 100 rfl rfl dX8_rests_99 ?_
          refine G_iconst 101 rfl (0) (by decide) dX8_rests_100 ?_
          refine G_mstZ 102 rfl hR (k := 20) p rfl ia_20 rfl (show p < 16 by omega) (by decide) dX8_rests_101 (fun h hR => ?_)
          refine G_aload_n 103 rfl rfl dX8_rests_102 ?_
          refine G_mR 106 rfl hR fl_X8_9 ia_7 rfl dX8_rests_103 ?_
          refine G_iload_n 107 rfl rfl dX8_rests_106 ?_
          refine G_bipush 109 rfl (10) (by decide) dX8_rests_107 ?_
          refine G_mst 110 rfl hR (k := 7) p rfl ia_7 rfl (show p < 16 by omega) dX8_rests_109 (fun h hR => ?_)
          refine G_ret rfl ?_ dX8_rests_110
          refine ⟨rfl, ?_⟩
          unfold mRst
          rw [if_neg c8, if_neg hs, if_neg (by first | exact fun z => z.2 hn0 | exact fun z => z.1.2 c61 | exact fun z => c52 z.1.1)]
          exact hR
        · skip
          refine G_aload_n 65 rfl rfl dX8_rests_64 ?_
          refine G_iload_n 66 rfl rfl dX8_rests_65 ?_
          refine G_iconst 67 rfl (-1) (by decide) dX8_rests_66 ?_
          refine G_callV 70 rfl [.int (nI p), .int ((-1))] (m_onBehind hR hp hg hg8 0 (by omega) (-1) (by decide)) ok_X8_onBehind ov_X8_onBehind ml_X8_126 (hR.ob (ci := 8) (i := 0) (by decide) rfl) ⟨by decide, rfl⟩ rfl ⟨by decide, by decide⟩ rfl rfl (Nat.le_of_ble_eq_true rfl) rfl dX8_rests_67 ?_
          rintro v h' ⟨rfl, rfl⟩
          rcases hn0 : mNx τ p 0 with _ | i
          · skip
            refine G_iconst 71 rfl (-1) (by decide) dX8_rests_70 ?_
            refine G_icmpT_eq 95 rfl (by decide) dX8_rests_71 ?_
            refine G_aload_n 96 rfl rfl dX8_rests_95 ?_
            refine G_mR 99 rfl hR fl_X8_50 ia_20 rfl dX8_rests_96 ?_
            refine G_iload_n 100 rfl rfl dX8_rests_99 ?_
            refine G_iconst 101 rfl (0) (by decide) dX8_rests_100 ?_
            refine G_mstZ 102 rfl hR (k := 20) p rfl ia_20 rfl (show p < 16 by omega) (by decide) dX8_rests_101 (fun h hR => ?_)
            refine G_aload_n 103 rfl rfl dX8_rests_102 ?_
            refine G_mR 106 rfl hR fl_X8_9 ia_7 rfl dX8_rests_103 ?_
            refine G_iload_n 107 rfl rfl dX8_rests_106 ?_
            refine G_bipush 109 rfl (10) (by decide) dX8_rests_107 ?_
            refine G_mst 110 rfl hR (k := 7) p rfl ia_7 rfl (show p < 16 by omega) dX8_rests_109 (fun h hR => ?_)
            refine G_ret rfl ?_ dX8_rests_110
            refine ⟨rfl, ?_⟩
            unfold mRst
            rw [if_neg c8, if_neg hs, if_neg (by first | exact fun z => z.2 hn0 | exact fun z => z.1.2 c61 | exact fun z => c52 z.1.1)]
            exact hR
          · skip
            have hb0 := fOn_some hn0
            rw [hg, cN_nI (by omega)] at hb0
            refine G_iconst 71 rfl (-1) (by decide) dX8_rests_70 ?_
            refine G_icmpF_eq 74 rfl (oI_m1 (by omega)) ⟨95, by decide⟩ dX8_rests_71 ?_
            refine G_aload_n 75 rfl rfl dX8_rests_74 ?_
            refine G_mR 78 rfl hR fl_X8_50 ia_20 rfl dX8_rests_75 ?_
            refine G_iload_n 79 rfl rfl dX8_rests_78 ?_
            refine G_iconst 80 rfl (0) (by decide) dX8_rests_79 ?_
            refine G_mstZ 81 rfl hR (k := 20) p rfl ia_20 rfl (show p < 16 by omega) (by decide) dX8_rests_80 (fun h hR => ?_)
            refine G_aload_n 82 rfl rfl dX8_rests_81 ?_
            refine G_iload_n 83 rfl rfl dX8_rests_82 ?_
            refine G_aload_n 84 rfl rfl dX8_rests_83 ?_
            refine G_iload_n 85 rfl rfl dX8_rests_84 ?_
            refine G_iconst 86 rfl (-1) (by decide) dX8_rests_85 ?_
            refine G_callV 89 rfl [.int (nI p), .int ((-1))] (m_onBehind hR hp (g := g) hg hg8 0 (by omega) (-1) (by decide)) ok_X8_onBehind ov_X8_onBehind ml_X8_126 (hR.ob (ci := 8) (i := 0) (by decide) rfl) ⟨by decide, rfl⟩ rfl ⟨by decide, by decide⟩ rfl rfl (Nat.le_of_ble_eq_true rfl) rfl dX8_rests_86 ?_
            rintro v h' ⟨rfl, rfl⟩
            rw [show mNx (ut τ 20 p 0) p 0 = some i from hn0]
            refine G_callV 92 rfl [.int (nI p), .int (oI (some i))] (m_looksOn hR hp (some i) (fun x hx => by cases hx; omega)) ok_X8_looksOn ov_X8_looksOn ml_X8_149 (hR.ob (ci := 8) (i := 0) (by decide) rfl) ⟨by decide, rfl⟩ rfl ⟨by decide, by decide⟩ rfl rfl (Nat.le_of_ble_eq_true rfl) rfl dX8_rests_89 ?_
            rintro v h ⟨rfl, hR⟩
            refine G_goto 110 (by decide) dX8_rests_92 ?_
            refine G_ret rfl ?_ dX8_rests_110
            refine ⟨rfl, ?_⟩
            unfold mRst
            rw [if_neg c8, if_neg hs, if_pos ⟨⟨c52, c61⟩, by rw [hn0]; exact fun z => by cases z⟩]
            rw [hn0]
            exact hR
  · skip
    refine G_aload_n 12 rfl rfl dX8_rests_11 ?_
    refine G_aload_n 13 rfl rfl dX8_rests_12 ?_
    refine G_iload_n 14 rfl rfl dX8_rests_13 ?_
    obtain ⟨k, ho⟩ := hw c8
    have hk := (fBy_some ho).2.1
    refine G_callV 17 rfl [.int (nI p)] (m_ownEntry hR hp he heb) ok_X8_ownEntry ov_X8_ownEntry ml_X8_139 (hR.ob (ci := 8) (i := 0) (by decide) rfl) ⟨by decide, rfl⟩ rfl ⟨by decide, by decide⟩ rfl rfl (Nat.le_of_ble_eq_true rfl) rfl dX8_rests_14 ?_
    rintro v h' ⟨rfl, rfl⟩
    rw [ho]
    refine G_callV 20 rfl [.int (nI k)] (m_removes hR (k := k) (e := e) (by omega) he heb) ok_X8_removes ov_X8_removes ml_X8_206 (hR.ob (ci := 8) (i := 0) (by decide) rfl) ⟨by decide, rfl⟩ rfl ⟨by decide, by decide⟩ rfl rfl (Nat.le_of_ble_eq_true rfl) rfl dX8_rests_17 ?_
    rintro v h ⟨rfl, hR⟩
    refine G_aload_n 21 rfl rfl dX8_rests_20 ?_
    refine G_iload_n 22 rfl rfl dX8_rests_21 ?_
    refine G_callV 25 rfl [.int (nI p)] (m_withdraws hR hp (e := e - 1) (by unfold mRem; rw [shf_k _ _ _ _ _ (by omega), ut_same, he]; obtain ⟨x, rfl⟩ : ∃ x, e = x + 1 := ⟨e - 1, by omega⟩; exact nI_pred x) (by omega)) ok_X8_withdraws ov_X8_withdraws ml_X8_163 (hR.ob (ci := 8) (i := 0) (by decide) rfl) ⟨by decide, rfl⟩ rfl ⟨by decide, by decide⟩ rfl rfl (Nat.le_of_ble_eq_true rfl) rfl dX8_rests_22 ?_
    rintro v h ⟨rfl, hR⟩
    refine G_goto 110 (by decide) dX8_rests_25 ?_
    refine G_ret rfl ?_ dX8_rests_110
    refine ⟨rfl, ?_⟩
    unfold mRst
    rw [if_pos c8, ho]
    exact hR

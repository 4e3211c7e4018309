theorem ph_out {x : Int32} (h1 : ¬ x < 2) (h2 : ¬ 11 < x) (n2 : ¬ x = 2) (n3 : ¬ x = 3) (n4 : ¬ x = 4) (n5 : ¬ x = 5) (n6 : ¬ x = 6) (n7 : ¬ x = 7) (n8 : ¬ x = 8) : x.toInt < 2 ∨ 8 < x.toInt := by
  right
  rcases ph_cases h1 h2 with e | e | e | e | e | e | e | e | e | e
  · exact absurd e n2
  · exact absurd e n3
  · exact absurd e n4
  · exact absurd e n5
  · exact absurd e n6
  · exact absurd e n7
  · exact absurd e n8
  · rw [e]; decide
  · rw [e]; decide
  · rw [e]; decide
theorem nIm1 {j : Nat} (h : j < 2 ^ 31) : ¬ nI j = -1 := oI_m1 h
set_option maxHeartbeats 4000000 in
set_option maxRecDepth 100000 in
theorem m_turns {E : Ev} {m : Nat} {σ : Sg} {τ : Tu} {h : Hp} (hR : RR E m σ τ h) {p : Nat} (hp : p < m) (h2 : ¬ τ 7 p < 2) (h11 : ¬ 11 < τ 7 p) (hMO : MO m τ p) : Cn E mX8_turns (rk 3 0 0) h [.ref (aM E m), .int (nI p)] (fun v h' => v = none ∧ RR E m σ (mTrn τ p) h') := by
  refine Cn_of (by decide) rfl (by simp [Value.category]) (Nat.le_of_ble_eq_true rfl) ?_
  have hm := hR.1.1
  refine G_aload_n 1 rfl rfl dX8_turns_0 ?_
  refine G_dup 2 rfl rfl dX8_turns_1 ?_
  refine G_mi 5 rfl hR (v := τ 2 0) rfl fl_X8_176 (by decide) rfl dX8_turns_2 ?_
  refine G_iconst 6 rfl (1) (by decide) dX8_turns_5 ?_
  refine G_iadd 7 rfl dX8_turns_6 ?_
  refine G_pM 10 rfl hR fl_X8_176 (by decide) ⟨rfl, rfl, rfl⟩ dX8_turns_7 (fun h hR => ?_)
  have hMO : MO m (ut τ 2 0 (τ 2 0 + 1)) p := hMO
  have hph1 : ¬ (ut τ 2 0 (τ 2 0 + 1)) 7 p < 2 := h2
  have hph2 : ¬ 11 < (ut τ 2 0 (τ 2 0 + 1)) 7 p := h11
  unfold mTrn
  generalize ut τ 2 0 (τ 2 0 + 1) = τ1 at hR hMO hph1 hph2 ⊢
  obtain ⟨g, e, v1, z, ⟨hg, hg8⟩, ⟨he, heb⟩, ⟨hv1, hv1b⟩, ⟨hz, hzb⟩, hA1, hat0, hA2, hA3, hA4⟩ := hMO
  have hen : mEn τ1 = e := by unfold mEn; rw [he]; exact cN_nI (by omega)
  refine G_bipush 12 rfl (8) (by decide) dX8_turns_10 ?_
  refine G_iload_n 13 rfl rfl dX8_turns_12 ?_
  refine G_imul 14 rfl dX8_turns_13 ?_
  rcases hat0 with hat1 | ⟨j, hj8, hat⟩
  · skip
    refine G_aload_n 15 rfl rfl dX8_turns_14 ?_
    refine G_mR 18 rfl hR fl_X8_44 ia_18 rfl dX8_turns_15 ?_
    refine G_iload_n 19 rfl rfl dX8_turns_18 ?_
    refine G_mldV 20 rfl hR (k := 18) p (v := τ1 18 p) rfl rfl ia_18 rfl (show p < 16 by omega) dX8_turns_19 ?_
    refine G_iconst 21 rfl (-1) (by decide) dX8_turns_20 ?_
    refine G_icmpF_ne 24 rfl hat1 ⟨28, by decide⟩ dX8_turns_21 ?_
    refine G_iconst 25 rfl (0) (by decide) dX8_turns_24 ?_
    refine G_goto 34 (by decide) dX8_turns_25 ?_
    refine G_iadd 35 rfl dX8_turns_34 ?_
    refine G_istore_n 36 rfl (by decide) dX8_turns_35 ?_
    refine G_aload_n 37 rfl rfl dX8_turns_36 ?_
    refine G_iload_n 38 rfl rfl dX8_turns_37 ?_
    refine G_callV 41 rfl [.int (nI p)] (m_isDue hR hp) ok_X8_isDue ov_X8_isDue ml_X8_182 (hR.ob (ci := 8) (i := 0) (by decide) rfl) ⟨by decide, rfl⟩ rfl ⟨by decide, by decide⟩ rfl rfl (Nat.le_of_ble_eq_true rfl) rfl dX8_turns_38 ?_
    rintro v h' ⟨⟨hd, rfl⟩ | ⟨hd, rfl⟩, rfl⟩
    · skip
      refine G_ifF_eq 44 rfl (by decide) ⟨50, by decide⟩ dX8_turns_41 ?_
      refine G_aload_n 45 rfl rfl dX8_turns_44 ?_
      refine G_iload_n 46 rfl rfl dX8_turns_45 ?_
      refine G_callV 49 rfl [.int (nI p)] (m_ends hR hp hv1 hv1b he heb) ok_X8_ends ov_X8_ends ml_X8_185 (hR.ob (ci := 8) (i := 0) (by decide) rfl) ⟨by decide, rfl⟩ rfl ⟨by decide, by decide⟩ rfl rfl (Nat.le_of_ble_eq_true rfl) rfl dX8_turns_46 ?_
      rintro v h ⟨rfl, hR⟩
      refine G_ret rfl ?_ dX8_turns_49
      refine ⟨rfl, ?_⟩
      unfold mT1
      rw [if_pos hd]
      exact hR
    · skip
      refine G_ifT_eq 50 (by decide) (by decide) dX8_turns_41 ?_
      refine G_aload_n 51 rfl rfl dX8_turns_50 ?_
      refine G_mR 54 rfl hR fl_X8_9 ia_7 rfl dX8_turns_51 ?_
      refine G_iload_n 55 rfl rfl dX8_turns_54 ?_
      refine G_mldV 56 rfl hR (k := 7) p (v := τ1 7 p) rfl rfl ia_7 rfl (show p < 16 by omega) dX8_turns_55 ?_
      have hno : ∀ k : Int32, (¬ k < 2 ∧ ¬ 8 < k) → ¬ τ1 7 p = k := fun k hk x => by
        obtain ⟨j, hj8, hat⟩ := hA1 (by rw [x]; exact hk)
        exact nIm1 (by omega) (hat.symm.trans hat1)
      refine G_tableOut 332 dX8_turns_56 ?_ (by decide) ?_
      · right
        rcases ph_cases hph1 hph2 with x | x | x | x | x | x | x | x | x | x
        · exact absurd x (hno 2 (by decide))
        · exact absurd x (hno 3 (by decide))
        · exact absurd x (hno 4 (by decide))
        · exact absurd x (hno 5 (by decide))
        · exact absurd x (hno 6 (by decide))
        · exact absurd x (hno 7 (by decide))
        · exact absurd x (hno 8 (by decide))
        · rw [x]; decide
        · rw [x]; decide
        · rw [x]; decide
      refine G_aload_n 333 rfl rfl dX8_turns_332 ?_
      refine G_iload_n 334 rfl rfl dX8_turns_333 ?_
      have hk : ∃ k : Int32, τ1 7 p = k ∧ (k = 9 ∨ k = 10 ∨ k = 11) := by
        rcases ph_cases hph1 hph2 with x | x | x | x | x | x | x | x | x | x
        · exact absurd x (hno 2 (by decide))
        · exact absurd x (hno 3 (by decide))
        · exact absurd x (hno 4 (by decide))
        · exact absurd x (hno 5 (by decide))
        · exact absurd x (hno 6 (by decide))
        · exact absurd x (hno 7 (by decide))
        · exact absurd x (hno 8 (by decide))
        · exact ⟨9, x, Or.inl rfl⟩
        · exact ⟨10, x, Or.inr (Or.inl rfl)⟩
        · exact ⟨11, x, Or.inr (Or.inr rfl)⟩
      obtain ⟨kx, kk, hkk⟩ := hk
      refine G_callV 337 rfl [.int (nI p)] (m_rests hR hp hg hg8 he heb hA3) ok_X8_rests ov_X8_rests ml_X8_203 (hR.ob (ci := 8) (i := 0) (by decide) rfl) ⟨by decide, rfl⟩ rfl ⟨by decide, by decide⟩ rfl rfl (Nat.le_of_ble_eq_true rfl) rfl dX8_turns_334 ?_
      rintro v h ⟨rfl, hR⟩
      refine G_ret rfl ?_ dX8_turns_337
      refine ⟨rfl, ?_⟩
      unfold mT1
      rw [if_neg hd]
      unfold mPh
      rw [if_neg (by rw [kk]; rcases hkk with rfl | rfl | rfl <;> decide), if_neg (by rw [kk]; rcases hkk with rfl | rfl | rfl <;> decide), if_neg (by rw [kk]; rcases hkk with rfl | rfl | rfl <;> decide), if_neg (by rw [kk]; rcases hkk with rfl | rfl | rfl <;> decide), if_neg (by rw [kk]; rcases hkk with rfl | rfl | rfl <;> decide), if_neg (by rw [kk]; rcases hkk with rfl | rfl | rfl <;> decide), if_neg (by rw [kk]; rcases hkk with rfl | rfl | rfl <;> decide)]
      exact hR
  · skip
    have ej : cN (τ1 18 p) = j := by rw [hat]; exact cN_nI (by omega)
    refine G_aload_n 15 rfl rfl dX8_turns_14 ?_
    refine G_mR 18 rfl hR fl_X8_44 ia_18 rfl dX8_turns_15 ?_
    refine G_iload_n 19 rfl rfl dX8_turns_18 ?_
    refine G_mldV 20 rfl hR (k := 18) p (v := τ1 18 p) rfl rfl ia_18 rfl (show p < 16 by omega) dX8_turns_19 ?_
    refine G_iconst 21 rfl (-1) (by decide) dX8_turns_20 ?_
    refine G_icmpT_ne 28 (by rw [hat]; exact nIm1 (by omega)) (by decide) dX8_turns_21 ?_
    refine G_aload_n 29 rfl rfl dX8_turns_28 ?_
    refine G_mR 32 rfl hR fl_X8_44 ia_18 rfl dX8_turns_29 ?_
    refine G_iload_n 33 rfl rfl dX8_turns_32 ?_
    refine G_mldV 34 rfl hR (k := 18) p (v := τ1 18 p) rfl rfl ia_18 rfl (show p < 16 by omega) dX8_turns_33 ?_
    refine G_iadd 35 rfl dX8_turns_34 ?_
    rw [hat, e88]
    refine G_istore_n 36 rfl (by decide) dX8_turns_35 ?_
    refine G_aload_n 37 rfl rfl dX8_turns_36 ?_
    refine G_iload_n 38 rfl rfl dX8_turns_37 ?_
    refine G_callV 41 rfl [.int (nI p)] (m_isDue hR hp) ok_X8_isDue ov_X8_isDue ml_X8_182 (hR.ob (ci := 8) (i := 0) (by decide) rfl) ⟨by decide, rfl⟩ rfl ⟨by decide, by decide⟩ rfl rfl (Nat.le_of_ble_eq_true rfl) rfl dX8_turns_38 ?_
    rintro v h' ⟨⟨hd, rfl⟩ | ⟨hd, rfl⟩, rfl⟩
    · skip
      refine G_ifF_eq 44 rfl (by decide) ⟨50, by decide⟩ dX8_turns_41 ?_
      refine G_aload_n 45 rfl rfl dX8_turns_44 ?_
      refine G_iload_n 46 rfl rfl dX8_turns_45 ?_
      refine G_callV 49 rfl [.int (nI p)] (m_ends hR hp hv1 hv1b he heb) ok_X8_ends ov_X8_ends ml_X8_185 (hR.ob (ci := 8) (i := 0) (by decide) rfl) ⟨by decide, rfl⟩ rfl ⟨by decide, by decide⟩ rfl rfl (Nat.le_of_ble_eq_true rfl) rfl dX8_turns_46 ?_
      rintro v h ⟨rfl, hR⟩
      refine G_ret rfl ?_ dX8_turns_49
      refine ⟨rfl, ?_⟩
      unfold mT1
      rw [if_pos hd]
      exact hR
    · skip
      refine G_ifT_eq 50 (by decide) (by decide) dX8_turns_41 ?_
      refine G_aload_n 51 rfl rfl dX8_turns_50 ?_
      refine G_mR 54 rfl hR fl_X8_9 ia_7 rfl dX8_turns_51 ?_
      refine G_iload_n 55 rfl rfl dX8_turns_54 ?_
      refine G_mldV 56 rfl hR (k := 7) p (v := τ1 7 p) rfl rfl ia_7 rfl (show p < 16 by omega) dX8_turns_55 ?_
      by_cases k56_2 : τ1 7 p = 2
      · refine G_tableIn 100 dX8_turns_56 (by rw [k56_2]; decide) (by rw [k56_2]; decide) (off := 44) (by rw [k56_2]; rfl) (by decide) ?_
        refine G_aload_n 101 rfl rfl dX8_turns_100 ?_
        refine G_iload_n 102 rfl rfl dX8_turns_101 ?_
        have he9 := hA4 k56_2
        refine G_callV 105 rfl [.int (nI p)] (m_publishes hR hp hat hj8 he (by omega)) ok_X8_publishes ov_X8_publishes ml_X8_188 (hR.ob (ci := 8) (i := 0) (by decide) rfl) ⟨by decide, rfl⟩ rfl ⟨by decide, by decide⟩ rfl rfl (Nat.le_of_ble_eq_true rfl) rfl dX8_turns_102 ?_
        rintro v h ⟨rfl, hR⟩
        have hgP : mPb τ1 p j e 8 p = nI g := hg
        refine G_aload_n 106 rfl rfl dX8_turns_105 ?_
        refine G_mR 109 rfl hR fl_X8_44 ia_18 rfl dX8_turns_106 ?_
        refine G_iload_n 110 rfl rfl dX8_turns_109 ?_
        refine G_aload_n 111 rfl rfl dX8_turns_110 ?_
        refine G_iload_n 112 rfl rfl dX8_turns_111 ?_
        refine G_aload_n 113 rfl rfl dX8_turns_112 ?_
        refine G_mR 116 rfl hR fl_X8_44 ia_18 rfl dX8_turns_113 ?_
        refine G_iload_n 117 rfl rfl dX8_turns_116 ?_
        refine G_mldV 118 rfl hR (k := 18) p (v := τ1 18 p) rfl rfl ia_18 rfl (show p < 16 by omega) dX8_turns_117 ?_
        refine G_callV 121 rfl [.int (nI p), .int (τ1 18 p)] (m_onBehind hR hp (g := g) hgP hg8 (j + 1) (by omega) (τ1 18 p) (by rw [hat]; exact nI_1 j)) ok_X8_onBehind ov_X8_onBehind ml_X8_126 (hR.ob (ci := 8) (i := 0) (by decide) rfl) ⟨by decide, rfl⟩ rfl ⟨by decide, by decide⟩ rfl rfl (Nat.le_of_ble_eq_true rfl) rfl dX8_turns_118 ?_
        rintro v h' ⟨rfl, rfl⟩
        rcases hnj : mNx (mPb τ1 p j e) p (j + 1) with _ | i
        · skip
          refine G_mst 122 rfl hR (k := 18) p rfl ia_18 rfl (show p < 16 by omega) dX8_turns_121 (fun h hR => ?_)
          refine G_aload_n 123 rfl rfl dX8_turns_122 ?_
          refine G_mR 126 rfl hR fl_X8_44 ia_18 rfl dX8_turns_123 ?_
          refine G_iload_n 127 rfl rfl dX8_turns_126 ?_
          refine G_mldV 128 rfl hR (k := 18) p (v := oI none) (by simp [ut]) rfl ia_18 rfl (show p < 16 by omega) dX8_turns_127 ?_
          refine G_iconst 129 rfl (-1) (by decide) dX8_turns_128 ?_
          refine G_icmpF_ne 132 rfl rfl ⟨337, by decide⟩ dX8_turns_129 ?_
          refine G_aload_n 133 rfl rfl dX8_turns_132 ?_
          refine G_iload_n 134 rfl rfl dX8_turns_133 ?_
          refine G_aload_n 135 rfl rfl dX8_turns_134 ?_
          refine G_iload_n 136 rfl rfl dX8_turns_135 ?_
          refine G_iconst 137 rfl (-1) (by decide) dX8_turns_136 ?_
          refine G_callV 140 rfl [.int (nI p), .int ((-1))] (m_onBehind hR hp (g := g) hgP hg8 0 (by omega) (-1) (by decide)) ok_X8_onBehind ov_X8_onBehind ml_X8_126 (hR.ob (ci := 8) (i := 0) (by decide) rfl) ⟨by decide, rfl⟩ rfl ⟨by decide, by decide⟩ rfl rfl (Nat.le_of_ble_eq_true rfl) rfl dX8_turns_137 ?_
          rintro v h' ⟨rfl, rfl⟩
          rw [show mNx (ut (mPb τ1 p j e) 18 p (oI none)) p 0 = mNx (mPb τ1 p j e) p 0 from rfl]
          refine G_callV 143 rfl [.int (nI p), .int (oI (mNx (mPb τ1 p j e) p 0))] (m_looksOn hR hp (mNx (mPb τ1 p j e) p 0) (fun i hi => by have := fOn_some hi; rw [hgP, cN_nI (by omega)] at this; omega)) ok_X8_looksOn ov_X8_looksOn ml_X8_149 (hR.ob (ci := 8) (i := 0) (by decide) rfl) ⟨by decide, rfl⟩ rfl ⟨by decide, by decide⟩ rfl rfl (Nat.le_of_ble_eq_true rfl) rfl dX8_turns_140 ?_
          rintro v h ⟨rfl, hR⟩
          refine G_goto 337 (by decide) dX8_turns_143 ?_
          refine G_ret rfl ?_ dX8_turns_337
          refine ⟨rfl, ?_⟩
          unfold mT1
          rw [if_neg hd]
          unfold mPh
          rw [if_pos k56_2]
          rw [ej]
          unfold mPub
          rw [hen]
          unfold mPubF
          rw [hnj]
          exact hR
        · skip
          have hb1 := fOn_some hnj
          rw [hgP, cN_nI (by omega)] at hb1
          refine G_mst 122 rfl hR (k := 18) p rfl ia_18 rfl (show p < 16 by omega) dX8_turns_121 (fun h hR => ?_)
          refine G_aload_n 123 rfl rfl dX8_turns_122 ?_
          refine G_mR 126 rfl hR fl_X8_44 ia_18 rfl dX8_turns_123 ?_
          refine G_iload_n 127 rfl rfl dX8_turns_126 ?_
          refine G_mldV 128 rfl hR (k := 18) p (v := oI (some i)) (by simp [ut]) rfl ia_18 rfl (show p < 16 by omega) dX8_turns_127 ?_
          refine G_iconst 129 rfl (-1) (by decide) dX8_turns_128 ?_
          refine G_icmpT_ne 337 (oI_m1 (by omega)) (by decide) dX8_turns_129 ?_
          refine G_ret rfl ?_ dX8_turns_337
          refine ⟨rfl, ?_⟩
          unfold mT1
          rw [if_neg hd]
          unfold mPh
          rw [if_pos k56_2]
          rw [ej]
          unfold mPub
          rw [hen]
          unfold mPubF
          rw [hnj]
          exact hR
      · skip
        by_cases k56_3 : τ1 7 p = 3
        · refine G_tableIn 146 dX8_turns_56 (by rw [k56_3]; decide) (by rw [k56_3]; decide) (off := 90) (by rw [k56_3]; rfl) (by decide) ?_
          refine G_aload_n 147 rfl rfl dX8_turns_146 ?_
          refine G_iload_n 148 rfl rfl dX8_turns_147 ?_
          refine G_callV 151 rfl [.int (nI p)] (m_looks hR hp hg hg8 hat hj8 he heb) ok_X8_looks ov_X8_looks ml_X8_191 (hR.ob (ci := 8) (i := 0) (by decide) rfl) ⟨by decide, rfl⟩ rfl ⟨by decide, by decide⟩ rfl rfl (Nat.le_of_ble_eq_true rfl) rfl dX8_turns_148 ?_
          rintro v h ⟨rfl, hR⟩
          refine G_goto 337 (by decide) dX8_turns_151 ?_
          refine G_ret rfl ?_ dX8_turns_337
          refine ⟨rfl, ?_⟩
          unfold mT1
          rw [if_neg hd]
          unfold mPh
          rw [if_neg k56_2, if_pos k56_3]
          rw [ej]
          exact hR
        · skip
          by_cases k56_4 : τ1 7 p = 4
          · refine G_tableIn 154 dX8_turns_56 (by rw [k56_4]; decide) (by rw [k56_4]; decide) (off := 98) (by rw [k56_4]; rfl) (by decide) ?_
            refine G_aload_n 155 rfl rfl dX8_turns_154 ?_
            refine G_iload_n 156 rfl rfl dX8_turns_155 ?_
            obtain ⟨q, v2, hq, hq0, hqp, hv2, hv2b⟩ := hA2 (by rw [k56_4]; decide)
            have eq : cN (τ1 21 p) = q := by rw [hq0]; exact cN_nI (by omega)
            refine G_callV 159 rfl [.int (nI p)] (m_claims hR hp hq hq0 hqp he heb) ok_X8_claims ov_X8_claims ml_X8_194 (hR.ob (ci := 8) (i := 0) (by decide) rfl) ⟨by decide, rfl⟩ rfl ⟨by decide, by decide⟩ rfl rfl (Nat.le_of_ble_eq_true rfl) rfl dX8_turns_156 ?_
            rintro v h ⟨rfl, hR⟩
            refine G_goto 337 (by decide) dX8_turns_159 ?_
            refine G_ret rfl ?_ dX8_turns_337
            refine ⟨rfl, ?_⟩
            unfold mT1
            rw [if_neg hd]
            unfold mPh
            rw [if_neg k56_2, if_neg k56_3, if_pos k56_4]
            rw [eq]
            exact hR
          · skip
            by_cases k56_5 : τ1 7 p = 5
            · refine G_tableIn 162 dX8_turns_56 (by rw [k56_5]; decide) (by rw [k56_5]; decide) (off := 106) (by rw [k56_5]; rfl) (by decide) ?_
              refine G_aload_n 163 rfl rfl dX8_turns_162 ?_
              refine G_iload_n 164 rfl rfl dX8_turns_163 ?_
              obtain ⟨q, v2, hq, hq0, hqp, hv2, hv2b⟩ := hA2 (by rw [k56_5]; decide)
              have eq : cN (τ1 21 p) = q := by rw [hq0]; exact cN_nI (by omega)
              refine G_callV 167 rfl [.int (nI p)] (m_seconds hR hp hq hq0 hqp hat hj8 hv1 hv1b hv2 hv2b hz hzb) ok_X8_seconds ov_X8_seconds ml_X8_197 (hR.ob (ci := 8) (i := 0) (by decide) rfl) ⟨by decide, rfl⟩ rfl ⟨by decide, by decide⟩ rfl rfl (Nat.le_of_ble_eq_true rfl) rfl dX8_turns_164 ?_
              rintro v h ⟨rfl, hR⟩
              refine G_goto 337 (by decide) dX8_turns_167 ?_
              refine G_ret rfl ?_ dX8_turns_337
              refine ⟨rfl, ?_⟩
              unfold mT1
              rw [if_neg hd]
              unfold mPh
              rw [if_neg k56_2, if_neg k56_3, if_neg k56_4, if_pos k56_5]
              rw [eq, ej]
              exact hR
            · skip
              by_cases k56_6 : τ1 7 p = 6
              · refine G_tableIn 170 dX8_turns_56 (by rw [k56_6]; decide) (by rw [k56_6]; decide) (off := 114) (by rw [k56_6]; rfl) (by decide) ?_
                refine G_aload_n 171 rfl rfl dX8_turns_170 ?_
                refine G_mR 174 rfl hR fl_X8_35 ia_15 rfl dX8_turns_171 ?_
                refine G_iload_n 175 rfl rfl dX8_turns_174 ?_
                refine G_aload_n 176 rfl rfl dX8_turns_175 ?_
                refine G_mR 179 rfl hR fl_X8_53 ia_21 rfl dX8_turns_176 ?_
                refine G_iload_n 180 rfl rfl dX8_turns_179 ?_
                refine G_mldV 181 rfl hR (k := 21) p (v := τ1 21 p) rfl rfl ia_21 rfl (show p < 16 by omega) dX8_turns_180 ?_
                obtain ⟨q, v2, hq, hq0, hqp, hv2, hv2b⟩ := hA2 (by rw [k56_6]; decide)
                have eq : cN (τ1 21 p) = q := by rw [hq0]; exact cN_nI (by omega)
                rw [hq0]
                by_cases hpq : p < q
                · skip
                  refine G_icmpF_ge 184 rfl (nI_ge hpq (by omega)) ⟨188, by decide⟩ dX8_turns_181 ?_
                  refine G_iload_n 185 rfl rfl dX8_turns_184 ?_
                  refine G_goto 194 (by decide) dX8_turns_185 ?_
                  refine G_iconst 195 rfl (1) (by decide) dX8_turns_194 ?_
                  refine G_mst 196 rfl hR (k := 15) p rfl ia_15 rfl (show p < 16 by omega) dX8_turns_195 (fun h hR => ?_)
                  refine G_aload_n 197 rfl rfl dX8_turns_196 ?_
                  refine G_mR 200 rfl hR fl_X8_62 ia_24 rfl dX8_turns_197 ?_
                  refine G_iload_n 201 rfl rfl dX8_turns_200 ?_
                  refine G_mldZV 202 rfl hR (k := 24) p (v := τ1 24 p) rfl rfl ia_24 rfl (show p < 16 by omega) dX8_turns_201 ?_
                  refine G_if_eq 213 205 rfl (by decide) dX8_turns_202 (fun c202 => ?_) (fun c202 => ?_)
                  · skip
                    refine G_aload_n 214 rfl rfl dX8_turns_213 ?_
                    refine G_mR 217 rfl hR fl_X8_9 ia_7 rfl dX8_turns_214 ?_
                    refine G_iload_n 218 rfl rfl dX8_turns_217 ?_
                    refine G_iconst 219 rfl (3) (by decide) dX8_turns_218 ?_
                    refine G_mst 220 rfl hR (k := 7) p rfl ia_7 rfl (show p < 16 by omega) dX8_turns_219 (fun h hR => ?_)
                    refine G_goto 337 (by decide) dX8_turns_220 ?_
                    refine G_ret rfl ?_ dX8_turns_337
                    refine ⟨rfl, ?_⟩
                    unfold mT1
                    rw [if_neg hd]
                    unfold mPh
                    rw [if_neg k56_2, if_neg k56_3, if_neg k56_4, if_neg k56_5, if_pos k56_6]
                    rw [eq]
                    unfold mBck
                    first | (rw [if_pos c202]; unfold loT; first | (rw [if_pos hpq]; exact hR) | (rw [if_neg hpq]; exact hR)) | (rw [if_neg c202]; unfold loT; first | (rw [if_pos hpq]; exact hR) | (rw [if_neg hpq]; exact hR))
                  · skip
                    refine G_aload_n 206 rfl rfl dX8_turns_205 ?_
                    refine G_iload_n 207 rfl rfl dX8_turns_206 ?_
                    refine G_callV 210 rfl [.int (nI p)] (m_withdraws hR hp (e := e) he heb) ok_X8_withdraws ov_X8_withdraws ml_X8_163 (hR.ob (ci := 8) (i := 0) (by decide) rfl) ⟨by decide, rfl⟩ rfl ⟨by decide, by decide⟩ rfl rfl (Nat.le_of_ble_eq_true rfl) rfl dX8_turns_207 ?_
                    rintro v h ⟨rfl, hR⟩
                    refine G_goto 337 (by decide) dX8_turns_210 ?_
                    refine G_ret rfl ?_ dX8_turns_337
                    refine ⟨rfl, ?_⟩
                    unfold mT1
                    rw [if_neg hd]
                    unfold mPh
                    rw [if_neg k56_2, if_neg k56_3, if_neg k56_4, if_neg k56_5, if_pos k56_6]
                    rw [eq]
                    unfold mBck
                    first | (rw [if_pos c202]; unfold loT; first | (rw [if_pos hpq]; exact hR) | (rw [if_neg hpq]; exact hR)) | (rw [if_neg c202]; unfold loT; first | (rw [if_pos hpq]; exact hR) | (rw [if_neg hpq]; exact hR))
                · skip
                  refine G_icmpT_ge 188 (nI_le (by omega) (by omega)) (by decide) dX8_turns_181 ?_
                  refine G_aload_n 189 rfl rfl dX8_turns_188 ?_
                  refine G_mR 192 rfl hR fl_X8_53 ia_21 rfl dX8_turns_189 ?_
                  refine G_iload_n 193 rfl rfl dX8_turns_192 ?_
                  refine G_mldV 194 rfl hR (k := 21) p (v := τ1 21 p) rfl rfl ia_21 rfl (show p < 16 by omega) dX8_turns_193 ?_
                  rw [hq0]
                  refine G_iconst 195 rfl (1) (by decide) dX8_turns_194 ?_
                  refine G_mst 196 rfl hR (k := 15) q rfl ia_15 rfl (show q < 16 by omega) dX8_turns_195 (fun h hR => ?_)
                  refine G_aload_n 197 rfl rfl dX8_turns_196 ?_
                  refine G_mR 200 rfl hR fl_X8_62 ia_24 rfl dX8_turns_197 ?_
                  refine G_iload_n 201 rfl rfl dX8_turns_200 ?_
                  refine G_mldZV 202 rfl hR (k := 24) p (v := τ1 24 p) rfl rfl ia_24 rfl (show p < 16 by omega) dX8_turns_201 ?_
                  refine G_if_eq 213 205 rfl (by decide) dX8_turns_202 (fun c202 => ?_) (fun c202 => ?_)
                  · skip
                    refine G_aload_n 214 rfl rfl dX8_turns_213 ?_
                    refine G_mR 217 rfl hR fl_X8_9 ia_7 rfl dX8_turns_214 ?_
                    refine G_iload_n 218 rfl rfl dX8_turns_217 ?_
                    refine G_iconst 219 rfl (3) (by decide) dX8_turns_218 ?_
                    refine G_mst 220 rfl hR (k := 7) p rfl ia_7 rfl (show p < 16 by omega) dX8_turns_219 (fun h hR => ?_)
                    refine G_goto 337 (by decide) dX8_turns_220 ?_
                    refine G_ret rfl ?_ dX8_turns_337
                    refine ⟨rfl, ?_⟩
                    unfold mT1
                    rw [if_neg hd]
                    unfold mPh
                    rw [if_neg k56_2, if_neg k56_3, if_neg k56_4, if_neg k56_5, if_pos k56_6]
                    rw [eq]
                    unfold mBck
                    first | (rw [if_pos c202]; unfold loT; first | (rw [if_pos hpq]; exact hR) | (rw [if_neg hpq]; exact hR)) | (rw [if_neg c202]; unfold loT; first | (rw [if_pos hpq]; exact hR) | (rw [if_neg hpq]; exact hR))
                  · skip
                    refine G_aload_n 206 rfl rfl dX8_turns_205 ?_
                    refine G_iload_n 207 rfl rfl dX8_turns_206 ?_
                    refine G_callV 210 rfl [.int (nI p)] (m_withdraws hR hp (e := e) he heb) ok_X8_withdraws ov_X8_withdraws ml_X8_163 (hR.ob (ci := 8) (i := 0) (by decide) rfl) ⟨by decide, rfl⟩ rfl ⟨by decide, by decide⟩ rfl rfl (Nat.le_of_ble_eq_true rfl) rfl dX8_turns_207 ?_
                    rintro v h ⟨rfl, hR⟩
                    refine G_goto 337 (by decide) dX8_turns_210 ?_
                    refine G_ret rfl ?_ dX8_turns_337
                    refine ⟨rfl, ?_⟩
                    unfold mT1
                    rw [if_neg hd]
                    unfold mPh
                    rw [if_neg k56_2, if_neg k56_3, if_neg k56_4, if_neg k56_5, if_pos k56_6]
                    rw [eq]
                    unfold mBck
                    first | (rw [if_pos c202]; unfold loT; first | (rw [if_pos hpq]; exact hR) | (rw [if_neg hpq]; exact hR)) | (rw [if_neg c202]; unfold loT; first | (rw [if_pos hpq]; exact hR) | (rw [if_neg hpq]; exact hR))
              · skip
                by_cases k56_7 : τ1 7 p = 7
                · refine G_tableIn 223 dX8_turns_56 (by rw [k56_7]; decide) (by rw [k56_7]; decide) (off := 167) (by rw [k56_7]; rfl) (by decide) ?_
                  refine G_aload_n 224 rfl rfl dX8_turns_223 ?_
                  refine G_aload_n 225 rfl rfl dX8_turns_224 ?_
                  refine G_mR 228 rfl hR fl_X8_53 ia_21 rfl dX8_turns_225 ?_
                  refine G_iload_n 229 rfl rfl dX8_turns_228 ?_
                  refine G_mldV 230 rfl hR (k := 21) p (v := τ1 21 p) rfl rfl ia_21 rfl (show p < 16 by omega) dX8_turns_229 ?_
                  obtain ⟨q, v2, hq, hq0, hqp, hv2, hv2b⟩ := hA2 (by rw [k56_7]; decide)
                  have eq : cN (τ1 21 p) = q := by rw [hq0]; exact cN_nI (by omega)
                  rw [hq0]
                  refine G_iload_n 231 rfl rfl dX8_turns_230 ?_
                  refine G_aload_n 232 rfl rfl dX8_turns_231 ?_
                  refine G_mR 235 rfl hR fl_X8_16 ia_9 rfl dX8_turns_232 ?_
                  refine G_iload_n 236 rfl rfl dX8_turns_235 ?_
                  refine G_mldV 237 rfl hR (k := 9) (8 * p + j) (v := τ1 9 (8 * p + j)) rfl rfl ia_9 rfl (show 8 * p + j < 128 by omega) dX8_turns_236 ?_
                  refine G_if_ne 249 240 rfl (by decide) dX8_turns_237 (fun c237 => ?_) (fun c237 => ?_)
                  · skip
                    refine G_iconst 250 rfl (0) (by decide) dX8_turns_249 ?_
                    refine G_callV 253 rfl [.int (nI q), .int (nI p), .int 0] (m_tells hR hq (nI p) 0) ok_X8_tells ov_X8_tells ml_X8_200 (hR.ob (ci := 8) (i := 0) (by decide) rfl) ⟨by decide, rfl⟩ rfl ⟨by decide, by decide⟩ rfl rfl (Nat.le_of_ble_eq_true rfl) rfl dX8_turns_250 ?_
                    rintro v h ⟨rfl, hR⟩
                    refine G_aload_n 254 rfl rfl dX8_turns_253 ?_
                    refine G_mR 257 rfl hR fl_X8_74 ia_28 rfl dX8_turns_254 ?_
                    refine G_aload_n 258 rfl rfl dX8_turns_257 ?_
                    refine G_mR 261 rfl hR fl_X8_53 ia_21 rfl dX8_turns_258 ?_
                    refine G_iload_n 262 rfl rfl dX8_turns_261 ?_
                    refine G_mldV 263 rfl hR (k := 21) p (v := (mTl τ1 q (nI p) 0) 21 p) rfl rfl ia_21 rfl (show p < 16 by omega) dX8_turns_262 ?_
                    refine G_aload_n 264 rfl rfl dX8_turns_263 ?_
                    refine G_mR 267 rfl hR fl_X8_19 ia_10 rfl dX8_turns_264 ?_
                    refine G_iload_n 268 rfl rfl dX8_turns_267 ?_
                    refine G_mldV 269 rfl hR (k := 10) (8 * p + j) (v := (mTl τ1 q (nI p) 0) 10 (8 * p + j)) rfl rfl ia_10 rfl (show 8 * p + j < 128 by omega) dX8_turns_268 ?_
                    refine G_mst 270 rfl hR (k := 28) q hq0 ia_28 rfl (show q < 16 by omega) dX8_turns_269 (fun h hR => ?_)
                    refine G_aload_n 271 rfl rfl dX8_turns_270 ?_
                    refine G_mR 274 rfl hR fl_X8_9 ia_7 rfl dX8_turns_271 ?_
                    refine G_iload_n 275 rfl rfl dX8_turns_274 ?_
                    refine G_bipush 277 rfl (8) (by decide) dX8_turns_275 ?_
                    refine G_mst 278 rfl hR (k := 7) p rfl ia_7 rfl (show p < 16 by omega) dX8_turns_277 (fun h hR => ?_)
                    refine G_goto 337 (by decide) dX8_turns_278 ?_
                    refine G_ret rfl ?_ dX8_turns_337
                    refine ⟨rfl, ?_⟩
                    unfold mT1
                    rw [if_neg hd]
                    unfold mPh
                    rw [if_neg k56_2, if_neg k56_3, if_neg k56_4, if_neg k56_5, if_neg k56_6, if_pos k56_7]
                    rw [eq, ej]
                    unfold mTel
                    first | (rw [if_pos c237]; exact hR) | (rw [if_neg c237]; exact hR)
                  · skip
                    refine G_aload_n 241 rfl rfl dX8_turns_240 ?_
                    refine G_mR 244 rfl hR fl_X8_22 ia_11 rfl dX8_turns_241 ?_
                    refine G_iload_n 245 rfl rfl dX8_turns_244 ?_
                    refine G_mldV 246 rfl hR (k := 11) (8 * p + j) (v := τ1 11 (8 * p + j)) rfl rfl ia_11 rfl (show 8 * p + j < 128 by omega) dX8_turns_245 ?_
                    refine G_goto 250 (by decide) dX8_turns_246 ?_
                    refine G_callV 253 rfl [.int (nI q), .int (nI p), .int (τ1 11 (8 * p + j))] (m_tells hR hq (nI p) (τ1 11 (8 * p + j))) ok_X8_tells ov_X8_tells ml_X8_200 (hR.ob (ci := 8) (i := 0) (by decide) rfl) ⟨by decide, rfl⟩ rfl ⟨by decide, by decide⟩ rfl rfl (Nat.le_of_ble_eq_true rfl) rfl dX8_turns_250 ?_
                    rintro v h ⟨rfl, hR⟩
                    refine G_aload_n 254 rfl rfl dX8_turns_253 ?_
                    refine G_mR 257 rfl hR fl_X8_74 ia_28 rfl dX8_turns_254 ?_
                    refine G_aload_n 258 rfl rfl dX8_turns_257 ?_
                    refine G_mR 261 rfl hR fl_X8_53 ia_21 rfl dX8_turns_258 ?_
                    refine G_iload_n 262 rfl rfl dX8_turns_261 ?_
                    refine G_mldV 263 rfl hR (k := 21) p (v := (mTl τ1 q (nI p) (τ1 11 (8 * p + j))) 21 p) rfl rfl ia_21 rfl (show p < 16 by omega) dX8_turns_262 ?_
                    refine G_aload_n 264 rfl rfl dX8_turns_263 ?_
                    refine G_mR 267 rfl hR fl_X8_19 ia_10 rfl dX8_turns_264 ?_
                    refine G_iload_n 268 rfl rfl dX8_turns_267 ?_
                    refine G_mldV 269 rfl hR (k := 10) (8 * p + j) (v := (mTl τ1 q (nI p) (τ1 11 (8 * p + j))) 10 (8 * p + j)) rfl rfl ia_10 rfl (show 8 * p + j < 128 by omega) dX8_turns_268 ?_
                    refine G_mst 270 rfl hR (k := 28) q hq0 ia_28 rfl (show q < 16 by omega) dX8_turns_269 (fun h hR => ?_)
                    refine G_aload_n 271 rfl rfl dX8_turns_270 ?_
                    refine G_mR 274 rfl hR fl_X8_9 ia_7 rfl dX8_turns_271 ?_
                    refine G_iload_n 275 rfl rfl dX8_turns_274 ?_
                    refine G_bipush 277 rfl (8) (by decide) dX8_turns_275 ?_
                    refine G_mst 278 rfl hR (k := 7) p rfl ia_7 rfl (show p < 16 by omega) dX8_turns_277 (fun h hR => ?_)
                    refine G_goto 337 (by decide) dX8_turns_278 ?_
                    refine G_ret rfl ?_ dX8_turns_337
                    refine ⟨rfl, ?_⟩
                    unfold mT1
                    rw [if_neg hd]
                    unfold mPh
                    rw [if_neg k56_2, if_neg k56_3, if_neg k56_4, if_neg k56_5, if_neg k56_6, if_pos k56_7]
                    rw [eq, ej]
                    unfold mTel
                    first | (rw [if_pos c237]; exact hR) | (rw [if_neg c237]; exact hR)
                · skip
                  by_cases k56_8 : τ1 7 p = 8
                  · refine G_tableIn 281 dX8_turns_56 (by rw [k56_8]; decide) (by rw [k56_8]; decide) (off := 225) (by rw [k56_8]; rfl) (by decide) ?_
                    refine G_aload_n 282 rfl rfl dX8_turns_281 ?_
                    refine G_iload_n 283 rfl rfl dX8_turns_282 ?_
                    refine G_aload_n 284 rfl rfl dX8_turns_283 ?_
                    refine G_mR 287 rfl hR fl_X8_53 ia_21 rfl dX8_turns_284 ?_
                    refine G_iload_n 288 rfl rfl dX8_turns_287 ?_
                    refine G_mldV 289 rfl hR (k := 21) p (v := τ1 21 p) rfl rfl ia_21 rfl (show p < 16 by omega) dX8_turns_288 ?_
                    obtain ⟨q, v2, hq, hq0, hqp, hv2, hv2b⟩ := hA2 (by rw [k56_8]; decide)
                    have eq : cN (τ1 21 p) = q := by rw [hq0]; exact cN_nI (by omega)
                    rw [hq0]
                    refine G_aload_n 290 rfl rfl dX8_turns_289 ?_
                    refine G_mR 293 rfl hR fl_X8_16 ia_9 rfl dX8_turns_290 ?_
                    refine G_iload_n 294 rfl rfl dX8_turns_293 ?_
                    refine G_mldV 295 rfl hR (k := 9) (8 * p + j) (v := τ1 9 (8 * p + j)) rfl rfl ia_9 rfl (show 8 * p + j < 128 by omega) dX8_turns_294 ?_
                    refine G_iconst 296 rfl (1) (by decide) dX8_turns_295 ?_
                    refine G_icmp_ne 308 299 rfl (by decide) dX8_turns_296 (fun c296 => ?_) (fun c296 => ?_)
                    · skip
                      refine G_iconst 309 rfl (0) (by decide) dX8_turns_308 ?_
                      refine G_callV 312 rfl [.int (nI p), .int (nI q), .int 0] (m_tells hR hp (nI q) 0) ok_X8_tells ov_X8_tells ml_X8_200 (hR.ob (ci := 8) (i := 0) (by decide) rfl) ⟨by decide, rfl⟩ rfl ⟨by decide, by decide⟩ rfl rfl (Nat.le_of_ble_eq_true rfl) rfl dX8_turns_309 ?_
                      rintro v h ⟨rfl, hR⟩
                      refine G_aload_n 313 rfl rfl dX8_turns_312 ?_
                      refine G_mR 316 rfl hR fl_X8_74 ia_28 rfl dX8_turns_313 ?_
                      refine G_iload_n 317 rfl rfl dX8_turns_316 ?_
                      refine G_aload_n 318 rfl rfl dX8_turns_317 ?_
                      refine G_mR 321 rfl hR fl_X8_19 ia_10 rfl dX8_turns_318 ?_
                      refine G_iload_n 322 rfl rfl dX8_turns_321 ?_
                      refine G_mldV 323 rfl hR (k := 10) (8 * p + j) (v := (mTl τ1 p (nI q) 0) 10 (8 * p + j)) rfl rfl ia_10 rfl (show 8 * p + j < 128 by omega) dX8_turns_322 ?_
                      refine G_mst 324 rfl hR (k := 28) p rfl ia_28 rfl (show p < 16 by omega) dX8_turns_323 (fun h hR => ?_)
                      refine G_aload_n 325 rfl rfl dX8_turns_324 ?_
                      refine G_iload_n 326 rfl rfl dX8_turns_325 ?_
                      refine G_callV 329 rfl [.int (nI p)] (m_withdraws hR hp (e := e) he heb) ok_X8_withdraws ov_X8_withdraws ml_X8_163 (hR.ob (ci := 8) (i := 0) (by decide) rfl) ⟨by decide, rfl⟩ rfl ⟨by decide, by decide⟩ rfl rfl (Nat.le_of_ble_eq_true rfl) rfl dX8_turns_326 ?_
                      rintro v h ⟨rfl, hR⟩
                      refine G_goto 337 (by decide) dX8_turns_329 ?_
                      refine G_ret rfl ?_ dX8_turns_337
                      refine ⟨rfl, ?_⟩
                      unfold mT1
                      rw [if_neg hd]
                      unfold mPh
                      rw [if_neg k56_2, if_neg k56_3, if_neg k56_4, if_neg k56_5, if_neg k56_6, if_neg k56_7, if_pos k56_8]
                      rw [eq, ej]
                      unfold mOwo
                      first | (rw [if_pos c296]; exact hR) | (rw [if_neg c296]; exact hR)
                    · skip
                      refine G_aload_n 300 rfl rfl dX8_turns_299 ?_
                      refine G_mR 303 rfl hR fl_X8_59 ia_23 rfl dX8_turns_300 ?_
                      refine G_iload_n 304 rfl rfl dX8_turns_303 ?_
                      refine G_mldV 305 rfl hR (k := 23) p (v := τ1 23 p) rfl rfl ia_23 rfl (show p < 16 by omega) dX8_turns_304 ?_
                      refine G_goto 309 (by decide) dX8_turns_305 ?_
                      refine G_callV 312 rfl [.int (nI p), .int (nI q), .int (τ1 23 p)] (m_tells hR hp (nI q) (τ1 23 p)) ok_X8_tells ov_X8_tells ml_X8_200 (hR.ob (ci := 8) (i := 0) (by decide) rfl) ⟨by decide, rfl⟩ rfl ⟨by decide, by decide⟩ rfl rfl (Nat.le_of_ble_eq_true rfl) rfl dX8_turns_309 ?_
                      rintro v h ⟨rfl, hR⟩
                      refine G_aload_n 313 rfl rfl dX8_turns_312 ?_
                      refine G_mR 316 rfl hR fl_X8_74 ia_28 rfl dX8_turns_313 ?_
                      refine G_iload_n 317 rfl rfl dX8_turns_316 ?_
                      refine G_aload_n 318 rfl rfl dX8_turns_317 ?_
                      refine G_mR 321 rfl hR fl_X8_19 ia_10 rfl dX8_turns_318 ?_
                      refine G_iload_n 322 rfl rfl dX8_turns_321 ?_
                      refine G_mldV 323 rfl hR (k := 10) (8 * p + j) (v := (mTl τ1 p (nI q) (τ1 23 p)) 10 (8 * p + j)) rfl rfl ia_10 rfl (show 8 * p + j < 128 by omega) dX8_turns_322 ?_
                      refine G_mst 324 rfl hR (k := 28) p rfl ia_28 rfl (show p < 16 by omega) dX8_turns_323 (fun h hR => ?_)
                      refine G_aload_n 325 rfl rfl dX8_turns_324 ?_
                      refine G_iload_n 326 rfl rfl dX8_turns_325 ?_
                      refine G_callV 329 rfl [.int (nI p)] (m_withdraws hR hp (e := e) he heb) ok_X8_withdraws ov_X8_withdraws ml_X8_163 (hR.ob (ci := 8) (i := 0) (by decide) rfl) ⟨by decide, rfl⟩ rfl ⟨by decide, by decide⟩ rfl rfl (Nat.le_of_ble_eq_true rfl) rfl dX8_turns_326 ?_
                      rintro v h ⟨rfl, hR⟩
                      refine G_goto 337 (by decide) dX8_turns_329 ?_
                      refine G_ret rfl ?_ dX8_turns_337
                      refine ⟨rfl, ?_⟩
                      unfold mT1
                      rw [if_neg hd]
                      unfold mPh
                      rw [if_neg k56_2, if_neg k56_3, if_neg k56_4, if_neg k56_5, if_neg k56_6, if_neg k56_7, if_pos k56_8]
                      rw [eq, ej]
                      unfold mOwo
                      first | (rw [if_pos c296]; exact hR) | (rw [if_neg c296]; exact hR)
                  · skip
                    refine G_tableOut 332 dX8_turns_56 (ph_out hph1 hph2 k56_2 k56_3 k56_4 k56_5 k56_6 k56_7 k56_8) (by decide) ?_
                    refine G_aload_n 333 rfl rfl dX8_turns_332 ?_
                    refine G_iload_n 334 rfl rfl dX8_turns_333 ?_
                    have hk : ∃ k : Int32, τ1 7 p = k ∧ (k = 9 ∨ k = 10 ∨ k = 11) := by
                      rcases ph_cases hph1 hph2 with x | x | x | x | x | x | x | x | x | x
                      · exact absurd x k56_2
                      · exact absurd x k56_3
                      · exact absurd x k56_4
                      · exact absurd x k56_5
                      · exact absurd x k56_6
                      · exact absurd x k56_7
                      · exact absurd x k56_8
                      · exact ⟨9, x, Or.inl rfl⟩
                      · exact ⟨10, x, Or.inr (Or.inl rfl)⟩
                      · exact ⟨11, x, Or.inr (Or.inr rfl)⟩
                    obtain ⟨kx, kk, hkk⟩ := hk
                    refine G_callV 337 rfl [.int (nI p)] (m_rests hR hp hg hg8 he heb hA3) ok_X8_rests ov_X8_rests ml_X8_203 (hR.ob (ci := 8) (i := 0) (by decide) rfl) ⟨by decide, rfl⟩ rfl ⟨by decide, by decide⟩ rfl rfl (Nat.le_of_ble_eq_true rfl) rfl dX8_turns_334 ?_
                    rintro v h ⟨rfl, hR⟩
                    refine G_ret rfl ?_ dX8_turns_337
                    refine ⟨rfl, ?_⟩
                    unfold mT1
                    rw [if_neg hd]
                    unfold mPh
                    rw [if_neg (by rw [kk]; rcases hkk with rfl | rfl | rfl <;> decide), if_neg (by rw [kk]; rcases hkk with rfl | rfl | rfl <;> decide), if_neg (by rw [kk]; rcases hkk with rfl | rfl | rfl <;> decide), if_neg (by rw [kk]; rcases hkk with rfl | rfl | rfl <;> decide), if_neg (by rw [kk]; rcases hkk with rfl | rfl | rfl <;> decide), if_neg (by rw [kk]; rcases hkk with rfl | rfl | rfl <;> decide), if_neg (by rw [kk]; rcases hkk with rfl | rfl | rfl <;> decide)]
                    exact hR

theorem ph_cases {x : Int32} (h1 : ¬ x < 2) (h2 : ¬ 11 < x) : x = 2 ∨ x = 3 ∨ x = 4 ∨ x = 5 ∨ x = 6 ∨ x = 7 ∨ x = 8 ∨ x = 9 ∨ x = 10 ∨ x = 11 := by
  have e1 : ¬ x.toInt < 2 := fun q => h1 (Int32.lt_iff_toInt_lt.mpr q)
  have e2 : ¬ 11 < x.toInt := fun q => h2 (Int32.lt_iff_toInt_lt.mpr q)
  obtain ⟨j, hj, e⟩ := vp_in_of (x := x) (n := 12) (vp_in_iff.mpr ⟨by omega, by omega⟩) (by omega)
  subst e
  rw [nI_toInt (by omega)] at e1 e2
  rcases j with _ | _ | _ | _ | _ | _ | _ | _ | _ | _ | _ | _ | j
  · omega
  · omega
  · exact Or.inl rfl
  · exact Or.inr (Or.inl rfl)
  · exact Or.inr (Or.inr (Or.inl rfl))
  · exact Or.inr (Or.inr (Or.inr (Or.inl rfl)))
  · exact Or.inr (Or.inr (Or.inr (Or.inr (Or.inl rfl))))
  · exact Or.inr (Or.inr (Or.inr (Or.inr (Or.inr (Or.inl rfl)))))
  · exact Or.inr (Or.inr (Or.inr (Or.inr (Or.inr (Or.inr (Or.inl rfl))))))
  · exact Or.inr (Or.inr (Or.inr (Or.inr (Or.inr (Or.inr (Or.inr (Or.inl rfl)))))))
  · exact Or.inr (Or.inr (Or.inr (Or.inr (Or.inr (Or.inr (Or.inr (Or.inr (Or.inl rfl))))))))
  · exact Or.inr (Or.inr (Or.inr (Or.inr (Or.inr (Or.inr (Or.inr (Or.inr (Or.inr rfl))))))))
  · omega
def endL (σ : Sg) (p : Nat) : Sg := if stl σ p then bWd σ p else if σ.1 332 p = 0 then up σ 325 p 10 else lkFF (up σ 332 p 0) p
def wake (σ : Sg) (p : Nat) : Sg := if stl σ p then bWd σ p else σ
def clL (σ : Sg) (p q n : Nat) : Sg := if tryOk σ p (loT p q) n then up (tryY σ p (loT p q)) 325 p 5 else if loT p q = p ∧ stl σ p then bWd (tryN σ) p else up (nBs (tryN σ) p (loT p q) n) 325 p 3
def clH (σ : Sg) (p q n g : Nat) : Sg := if tryOk σ p (hiT p q) n then up (recP (tryY σ p (hiT p q)) p q n g) 325 p 7 else up (up (nBs (tryN σ) p (hiT p q) n) 333 p (if hiT p q = p ∧ stl σ p then 1 else 0)) 325 p 6
/-- the step of a claim, by its phase: p with q, over the entry n and the guard g -/
def meet (σ : Sg) (p q n g : Nat) : Sg := if σ.1 325 p = 4 then clL σ p q n else if σ.1 325 p = 5 then clH σ p q n g else if σ.1 325 p = 6 then gvB σ p q else if σ.1 325 p = 7 then tlO σ p q g else tkO σ p n g
set_option maxHeartbeats 4000000 in
set_option maxRecDepth 100000 in
theorem c_X7_accessToMeet {E : Ev} {m : Nat} {σ : Sg} {τ : Tu} {h : Hp} (hR : RR E m σ τ h) {p : Nat} (hp : p < m) {g : Nat} (hg : σ.1 326 p = nI g) (hg8 : g ≤ 8) {j : Nat} (hj : σ.1 329 p = nI j) (hjg : j < g) {w : Nat} (hw : σ.1 336 p = nI w) (hwl : w ≤ (sPb σ p).length) {z : Nat} (hz : σ.1 257 0 = nI z) (hzb : z < 2 ^ 30) {n q : Nat} (hmet : sMet σ p = some n) (hn : 1 ≤ n ∧ n ≤ sNp σ) (hq0 : σ.1 0 n = nI q) (hq : q < m) (hph : σ.1 325 p = 4 ∨ σ.1 325 p = 5 ∨ σ.1 325 p = 6 ∨ σ.1 325 p = 7 ∨ σ.1 325 p = 8) : Cn E mX7_accessToMeet (rk 3 0 0) h [.ref (aX E), .ref (aP E p)] (fun v h' => v = none ∧ RR E m (meet σ p q n (8 * p + j)) τ h') := by
  refine Cn_of (by decide) rfl (by simp [Value.category]) (Nat.le_of_ble_eq_true rfl) ?_
  have hm := hR.1.1
  refine G_aload_n 1 rfl rfl dX7_accessToMeet_0 ?_
  refine G_callV 4 rfl [] (c_X5_currentGuard hR hp hg hg8 hj hjg) ok_X5_currentGuard ov_X5_currentGuard ml_X7_195 (hR.ob (ci := 5) (i := p) (by decide) hp) ⟨by decide, rfl⟩ rfl ⟨by decide, by decide⟩ rfl rfl (Nat.le_of_ble_eq_true rfl) rfl dX7_accessToMeet_1 ?_
  rintro v h' ⟨rfl, rfl⟩
  refine G_astore_n 5 rfl (by decide) dX7_accessToMeet_4 ?_
  refine G_aload_n 6 rfl rfl dX7_accessToMeet_5 ?_
  refine G_metS 9 rfl hR hmet fl_X7_199 hp dX7_accessToMeet_6 ?_
  refine G_astore_n 10 rfl (by decide) dX7_accessToMeet_9 ?_
  refine G_aload_n 11 rfl rfl dX7_accessToMeet_10 ?_
  refine G_ifnonnull 18 (by decide) dX7_accessToMeet_11 ?_
  refine G_aload_n 19 rfl rfl dX7_accessToMeet_18 ?_
  refine G_aload_n 20 rfl rfl dX7_accessToMeet_19 ?_
  refine G_gi 23 rfl hR 0 0 n 0 (σ.1 0 n) fl_X7_203 hn rfl rfl rfl rfl dX7_accessToMeet_20 ?_
  refine G_callV 26 rfl [.int (σ.1 0 n)] (c_X7_procAt hR (σ.1 0 n)) ok_X7_procAt ov_X7_procAt ml_X7_78 (hR.ob (ci := 7) (i := 0) (by decide) rfl) ⟨by decide, rfl⟩ rfl ⟨by decide, by decide⟩ rfl rfl (Nat.le_of_ble_eq_true rfl) rfl dX7_accessToMeet_23 ?_
  rintro v h' ⟨⟨q', hq', e', rfl⟩ | ⟨e', rfl⟩, rfl⟩
  rotate_left
  · exact absurd e' (by rw [hq0]; exact fun z => z.elim (nI_pos (by omega)) (nI_ge hq (by omega)))
  obtain rfl : q = q' := (nI_eq (by omega) (by omega)).mp (hq0.symm.trans e')
  refine G_astore 28 rfl (by decide) dX7_accessToMeet_26 ?_
  refine G_aload_n 29 rfl rfl dX7_accessToMeet_28 ?_
  refine G_ifnull 32 rfl dX7_accessToMeet_29 ?_
  refine G_aload 34 rfl rfl dX7_accessToMeet_32 ?_
  refine G_ifnonnull 38 (by decide) dX7_accessToMeet_34 ?_
  refine G_aload_n 39 rfl rfl dX7_accessToMeet_38 ?_
  refine G_gi 42 rfl hR 5 5 p 325 (σ.1 325 p) fl_X7_48 hp rfl rfl rfl rfl dX7_accessToMeet_39 ?_
  by_cases k42_4 : σ.1 325 p = 4
  · refine G_tableIn 76 dX7_accessToMeet_42 (by rw [k42_4]; decide) (by rw [k42_4]; decide) (off := 34) (by rw [k42_4]; rfl) (by decide) ?_
    refine G_aload_n 77 rfl rfl dX7_accessToMeet_76 ?_
    refine G_aload_n 78 rfl rfl dX7_accessToMeet_77 ?_
    refine G_aload 80 rfl rfl dX7_accessToMeet_78 ?_
    refine G_aload_n 81 rfl rfl dX7_accessToMeet_80 ?_
    refine G_callV 84 rfl [.ref (aP E p), .ref (aP E q), .ref (aE E m n)] (c_X7_claimLower hR hp hq hn hw hwl) ok_X7_claimLower ov_X7_claimLower ml_X7_206 (hR.ob (ci := 7) (i := 0) (by decide) rfl) ⟨by decide, rfl⟩ rfl ⟨by decide, by decide⟩ rfl rfl (Nat.le_of_ble_eq_true rfl) rfl dX7_accessToMeet_81 ?_
    rintro v h ⟨rfl, hR⟩
    have hR : RR E m (clL σ p q n) τ h := by
      unfold clL
      rcases hR with ⟨x1, x2⟩ | ⟨x1, x2, x3, x4⟩ | ⟨x1, x2, x3⟩
      · rw [if_pos x1]; exact x2
      · rw [if_neg x1, if_pos ⟨x2, x3⟩]; exact x4
      · rw [if_neg x1, if_neg x2]; exact x3
    refine G_goto 130 (by decide) dX7_accessToMeet_84 ?_
    refine G_ret rfl ?_ dX7_accessToMeet_130
    refine ⟨rfl, ?_⟩
    unfold meet
    rw [if_pos k42_4]
    exact hR
  · skip
    by_cases k42_5 : σ.1 325 p = 5
    · refine G_tableIn 87 dX7_accessToMeet_42 (by rw [k42_5]; decide) (by rw [k42_5]; decide) (off := 45) (by rw [k42_5]; rfl) (by decide) ?_
      refine G_aload_n 88 rfl rfl dX7_accessToMeet_87 ?_
      refine G_aload_n 89 rfl rfl dX7_accessToMeet_88 ?_
      refine G_aload 91 rfl rfl dX7_accessToMeet_89 ?_
      refine G_aload_n 92 rfl rfl dX7_accessToMeet_91 ?_
      refine G_aload_n 93 rfl rfl dX7_accessToMeet_92 ?_
      refine G_callV 96 rfl [.ref (aP E p), .ref (aP E q), .ref (aE E m n), .ref (aG E (8 * p + j))] (c_X7_claimHigher hR hp hq hn (gvd hp (show j < 8 by omega)) hz hzb) ok_X7_claimHigher ov_X7_claimHigher ml_X7_210 (hR.ob (ci := 7) (i := 0) (by decide) rfl) ⟨by decide, rfl⟩ rfl ⟨by decide, by decide⟩ rfl rfl (Nat.le_of_ble_eq_true rfl) rfl dX7_accessToMeet_93 ?_
      rintro v h ⟨rfl, hR⟩
      have hR : RR E m (clH σ p q n (8 * p + j)) τ h := by
        unfold clH
        rcases hR with ⟨x1, x2⟩ | ⟨x1, x2⟩
        · rw [if_pos x1]; exact x2
        · rw [if_neg x1]; exact x2
      refine G_goto 130 (by decide) dX7_accessToMeet_96 ?_
      refine G_ret rfl ?_ dX7_accessToMeet_130
      refine ⟨rfl, ?_⟩
      unfold meet
      rw [if_neg k42_4, if_pos k42_5]
      exact hR
    · skip
      by_cases k42_6 : σ.1 325 p = 6
      · refine G_tableIn 99 dX7_accessToMeet_42 (by rw [k42_6]; decide) (by rw [k42_6]; decide) (off := 57) (by rw [k42_6]; rfl) (by decide) ?_
        refine G_aload_n 100 rfl rfl dX7_accessToMeet_99 ?_
        refine G_aload_n 101 rfl rfl dX7_accessToMeet_100 ?_
        refine G_aload 103 rfl rfl dX7_accessToMeet_101 ?_
        refine G_callV 106 rfl [.ref (aP E p), .ref (aP E q)] (c_X7_giveBack hR hp hq hw hwl) ok_X7_giveBack ov_X7_giveBack ml_X7_214 (hR.ob (ci := 7) (i := 0) (by decide) rfl) ⟨by decide, rfl⟩ rfl ⟨by decide, by decide⟩ rfl rfl (Nat.le_of_ble_eq_true rfl) rfl dX7_accessToMeet_103 ?_
        rintro v h ⟨rfl, hR⟩
        refine G_goto 130 (by decide) dX7_accessToMeet_106 ?_
        refine G_ret rfl ?_ dX7_accessToMeet_130
        refine ⟨rfl, ?_⟩
        unfold meet
        rw [if_neg k42_4, if_neg k42_5, if_pos k42_6]
        exact hR
      · skip
        by_cases k42_7 : σ.1 325 p = 7
        · refine G_tableIn 109 dX7_accessToMeet_42 (by rw [k42_7]; decide) (by rw [k42_7]; decide) (off := 67) (by rw [k42_7]; rfl) (by decide) ?_
          refine G_aload_n 110 rfl rfl dX7_accessToMeet_109 ?_
          refine G_aload_n 111 rfl rfl dX7_accessToMeet_110 ?_
          refine G_aload 113 rfl rfl dX7_accessToMeet_111 ?_
          refine G_aload_n 114 rfl rfl dX7_accessToMeet_113 ?_
          refine G_callV 117 rfl [.ref (aP E p), .ref (aP E q), .ref (aG E (8 * p + j))] (c_X7_tellOther hR hp hq (gvd hp (show j < 8 by omega))) ok_X7_tellOther ov_X7_tellOther ml_X7_218 (hR.ob (ci := 7) (i := 0) (by decide) rfl) ⟨by decide, rfl⟩ rfl ⟨by decide, by decide⟩ rfl rfl (Nat.le_of_ble_eq_true rfl) rfl dX7_accessToMeet_114 ?_
          rintro v h ⟨rfl, hR⟩
          refine G_goto 130 (by decide) dX7_accessToMeet_117 ?_
          refine G_ret rfl ?_ dX7_accessToMeet_130
          refine ⟨rfl, ?_⟩
          unfold meet
          rw [if_neg k42_4, if_neg k42_5, if_neg k42_6, if_pos k42_7]
          exact hR
        · skip
          by_cases k42_8 : σ.1 325 p = 8
          · refine G_tableIn 120 dX7_accessToMeet_42 (by rw [k42_8]; decide) (by rw [k42_8]; decide) (off := 78) (by rw [k42_8]; rfl) (by decide) ?_
            refine G_aload_n 121 rfl rfl dX7_accessToMeet_120 ?_
            refine G_aload_n 122 rfl rfl dX7_accessToMeet_121 ?_
            refine G_aload_n 123 rfl rfl dX7_accessToMeet_122 ?_
            refine G_aload_n 124 rfl rfl dX7_accessToMeet_123 ?_
            refine G_callV 127 rfl [.ref (aP E p), .ref (aE E m n), .ref (aG E (8 * p + j))] (c_X7_takeOwn hR hp hn (gvd hp (show j < 8 by omega)) hw hwl) ok_X7_takeOwn ov_X7_takeOwn ml_X7_222 (hR.ob (ci := 7) (i := 0) (by decide) rfl) ⟨by decide, rfl⟩ rfl ⟨by decide, by decide⟩ rfl rfl (Nat.le_of_ble_eq_true rfl) rfl dX7_accessToMeet_124 ?_
            rintro v h ⟨rfl, hR⟩
            refine G_goto 130 (by decide) dX7_accessToMeet_127 ?_
            refine G_ret rfl ?_ dX7_accessToMeet_130
            refine ⟨rfl, ?_⟩
            unfold meet
            rw [if_neg k42_4, if_neg k42_5, if_neg k42_6, if_neg k42_7]
            exact hR
          · skip
            exfalso
            rcases hph with x | x | x | x | x
            · exact absurd x k42_4
            · exact absurd x k42_5
            · exact absurd x k42_6
            · exact absurd x k42_7
            · exact absurd x k42_8

/-- what access needs of the state -/
def vdL (σ : Sg) (c : Nat) : Prop := ∀ n ∈ sLs σ c, 1 ≤ n ∧ n ≤ sNp σ
def AO (m : Nat) (σ : Sg) (p : Nat) : Prop := ∃ g w z : Nat, (σ.1 326 p = nI g ∧ g ≤ 8) ∧ (σ.1 336 p = nI w ∧ w ≤ (sPb σ p).length) ∧ (σ.1 257 0 = nI z ∧ z < 2 ^ 30) ∧ σ.1 453 0 = nI (sNp σ) ∧
  (¬ σ.1 325 p < 2 ∧ ¬ 8 < σ.1 325 p → ∃ j c : Nat, j < g ∧ σ.1 329 p = nI j ∧ σ.1 129 (8 * p + j) = nI c ∧ c < 8 ∧ vdL σ c ∧ (σ.1 325 p = 2 → (sLs σ c).length < 128 ∧ (sPb σ p).length < 8)) ∧
  (¬ σ.1 325 p < 4 ∧ ¬ 8 < σ.1 325 p → ∃ n q : Nat, sMet σ p = some n ∧ (1 ≤ n ∧ n ≤ sNp σ) ∧ σ.1 0 n = nI q ∧ q < m) ∧
  (σ.1 325 p = 11 → ∃ n c : Nat, (sPb σ p)[w]? = some n ∧ (1 ≤ n ∧ n ≤ sNp σ) ∧ σ.1 3 n = nI c ∧ c < 8 ∧ vdL σ c)
def atN (σ : Sg) (p : Nat) : Nat := cN (σ.1 329 p)
def chN (σ : Sg) (p : Nat) : Nat := cN (σ.1 129 (8 * p + atN σ p))
def meN (σ : Sg) (p : Nat) : Nat := (sMet σ p).getD 0
def dueN (σ : Sg) (p : Nat) : Prop := (¬ σ.1 328 p = -1 ∧ ¬ σ.1 451 0 < σ.1 328 p) ∧ (σ.1 325 p = 2 ∨ σ.1 325 p = 3 ∨ σ.1 325 p = 9 ∨ σ.1 325 p = 10)
def phS (σ : Sg) (p : Nat) : Sg :=
  if σ.1 325 p = 2 then pubS σ p (atN σ p) (chN σ p) else if σ.1 325 p = 3 then lkS σ p (atN σ p) (chN σ p)
  else if σ.1 325 p = 9 then endL σ p else if σ.1 325 p = 10 then wake σ p
  else if σ.1 325 p = 11 then wdS σ p ((fE σ p).getD 0) (cN (σ.1 3 ((fE σ p).getD 0)))
  else meet σ p (cN (σ.1 0 (meN σ p))) (meN σ p) (8 * p + atN σ p)
def acc1 (σ : Sg) (p : Nat) : Sg := if (¬ σ.1 328 p = -1 ∧ ¬ σ.1 451 0 < σ.1 328 p) ∧ (σ.1 325 p = 2 ∨ σ.1 325 p = 3 ∨ σ.1 325 p = 9 ∨ σ.1 325 p = 10) then rOut σ p else phS σ p
def acc (σ : Sg) (p : Nat) : Sg := acc1 (up σ 452 0 (σ.1 452 0 + 1)) p
set_option maxHeartbeats 4000000 in
set_option maxRecDepth 100000 in
theorem c_X7_access {E : Ev} {m : Nat} {σ : Sg} {τ : Tu} {h : Hp} (hR : RR E m σ τ h) {p : Nat} (hp : p < m) (h2 : ¬ σ.1 325 p < 2) (h11 : ¬ 11 < σ.1 325 p) (hAO : AO m σ p) : Cn E mX7_access (rk 4 1 6) h [.ref (aX E), .ref (aP E p)] (fun v h' => v = none ∧ RR E m (acc σ p) τ h') := by
  refine Cn_of (by decide) rfl (by simp [Value.category]) (Nat.le_of_ble_eq_true rfl) ?_
  have hm := hR.1.1
  refine G_aload_n 1 rfl rfl dX7_access_0 ?_
  refine G_dup 2 rfl rfl dX7_access_1 ?_
  refine G_gi 5 rfl hR 7 4 0 452 (σ.1 452 0) fl_X7_147 rfl rfl rfl rfl rfl dX7_access_2 ?_
  refine G_iconst 6 rfl (1) (by decide) dX7_access_5 ?_
  refine G_iadd 7 rfl dX7_access_6 ?_
  refine G_pi 10 rfl hR 7 4 0 452 fl_X7_147 rfl rfl ⟨rfl, rfl⟩ rfl rfl dX7_access_7 (fun h hR => ?_)
  have hAO : AO m (up σ 452 0 (σ.1 452 0 + 1)) p := hAO
  have hph1 : ¬ (up σ 452 0 (σ.1 452 0 + 1)).1 325 p < 2 := h2
  have hph2 : ¬ 11 < (up σ 452 0 (σ.1 452 0 + 1)).1 325 p := h11
  unfold acc
  generalize up σ 452 0 (σ.1 452 0 + 1) = σ1 at hR hAO hph1 hph2 ⊢
  obtain ⟨g, w, z, ⟨hg, hg8⟩, ⟨hw, hwl⟩, ⟨hz, hzb⟩, hnp0, hA1, hA2, hA3⟩ := hAO
  refine G_aload_n 11 rfl rfl dX7_access_10 ?_
  refine G_aload_n 12 rfl rfl dX7_access_11 ?_
  refine G_gi 15 rfl hR 7 3 0 451 (σ1.1 451 0) fl_X7_72 rfl rfl rfl rfl rfl dX7_access_12 ?_
  refine G_callV 18 rfl [.int (σ1.1 451 0)] (c_X5_isDue hR hp (σ1.1 451 0)) ok_X5_isDue ov_X5_isDue ml_X7_167 (hR.ob (ci := 5) (i := p) (by decide) hp) ⟨by decide, rfl⟩ rfl ⟨by decide, by decide⟩ rfl rfl (Nat.le_of_ble_eq_true rfl) rfl dX7_access_15 ?_
  rintro v h' ⟨⟨hs, rfl⟩ | ⟨hs, rfl⟩, rfl⟩
  · skip
    refine G_ifF_eq 21 rfl (by decide) ⟨34, by decide⟩ dX7_access_18 ?_
    refine G_aload_n 22 rfl rfl dX7_access_21 ?_
    refine G_callV 25 rfl [] (c_X5_heedsTime hR hp) ok_X5_heedsTime ov_X5_heedsTime ml_X7_171 (hR.ob (ci := 5) (i := p) (by decide) hp) ⟨by decide, rfl⟩ rfl ⟨by decide, by decide⟩ rfl rfl (Nat.le_of_ble_eq_true rfl) rfl dX7_access_22 ?_
    rintro v h' ⟨⟨ht, rfl⟩ | ⟨ht, rfl⟩, rfl⟩
    · skip
      refine G_ifF_eq 28 rfl (by decide) ⟨34, by decide⟩ dX7_access_25 ?_
      refine G_aload_n 29 rfl rfl dX7_access_28 ?_
      refine G_aload_n 30 rfl rfl dX7_access_29 ?_
      refine G_callV 33 rfl [.ref (aP E p)] (c_X7_runOutOfTime hR hp hw hwl) ok_X7_runOutOfTime ov_X7_runOutOfTime ml_X7_174 (hR.ob (ci := 7) (i := 0) (by decide) rfl) ⟨by decide, rfl⟩ rfl ⟨by decide, by decide⟩ rfl rfl (Nat.le_of_ble_eq_true rfl) rfl dX7_access_30 ?_
      rintro v h ⟨rfl, hR⟩
      refine G_ret rfl ?_ dX7_access_33
      refine ⟨rfl, ?_⟩
      unfold acc1
      rw [if_pos ⟨hs, ht⟩]
      exact hR
    · skip
      refine G_ifT_eq 34 (by decide) (by decide) dX7_access_25 ?_
      refine G_aload_n 35 rfl rfl dX7_access_34 ?_
      refine G_gi 38 rfl hR 5 5 p 325 (σ1.1 325 p) fl_X7_48 hp rfl rfl rfl rfl dX7_access_35 ?_
      by_cases k38_2 : σ1.1 325 p = 2
      · refine G_tableIn 92 dX7_access_38 (by rw [k38_2]; decide) (by rw [k38_2]; decide) (off := 54) (by rw [k38_2]; rfl) (by decide) ?_
        refine G_aload_n 93 rfl rfl dX7_access_92 ?_
        refine G_aload_n 94 rfl rfl dX7_access_93 ?_
        obtain ⟨j, c, hjg, hj, hch, hc, hv, hpb⟩ := hA1 (by rw [k38_2]; decide)
        have ej : atN σ1 p = j := by unfold atN; rw [hj]; exact cN_nI (by omega)
        have ec : chN σ1 p = c := by unfold chN; rw [ej, hch]; exact cN_nI (by omega)
        obtain ⟨hll, hpl8⟩ := hpb k38_2
        refine G_callV 97 rfl [.ref (aP E p)] (c_X7_publishEntry hR hp hg hg8 hj hjg hch hc hnp0 hll hpl8) ok_X7_publishEntry ov_X7_publishEntry ml_X7_177 (hR.ob (ci := 7) (i := 0) (by decide) rfl) ⟨by decide, rfl⟩ rfl ⟨by decide, by decide⟩ (ac' := 0) (as' := 0) rfl rfl (Nat.le_of_ble_eq_true rfl) rfl dX7_access_94 ?_
        rintro v h ⟨rfl, hR⟩
        refine G_goto 135 (by decide) dX7_access_97 ?_
        refine G_ret rfl ?_ dX7_access_135
        refine ⟨rfl, ?_⟩
        unfold acc1
        rw [if_neg (by first | exact fun z => hs z.1 | exact fun z => ht z.2)]
        unfold phS
        rw [if_pos k38_2, ej, ec]
        exact hR
      · skip
        by_cases k38_3 : σ1.1 325 p = 3
        · refine G_tableIn 100 dX7_access_38 (by rw [k38_3]; decide) (by rw [k38_3]; decide) (off := 62) (by rw [k38_3]; rfl) (by decide) ?_
          refine G_aload_n 101 rfl rfl dX7_access_100 ?_
          refine G_aload_n 102 rfl rfl dX7_access_101 ?_
          obtain ⟨j, c, hjg, hj, hch, hc, hv, hpb⟩ := hA1 (by rw [k38_3]; decide)
          have ej : atN σ1 p = j := by unfold atN; rw [hj]; exact cN_nI (by omega)
          have ec : chN σ1 p = c := by unfold chN; rw [ej, hch]; exact cN_nI (by omega)
          refine G_callV 105 rfl [.ref (aP E p)] (c_X7_lookOn hR hp hg hg8 hj hjg hch hc hv) ok_X7_lookOn ov_X7_lookOn ml_X7_180 (hR.ob (ci := 7) (i := 0) (by decide) rfl) ⟨by decide, rfl⟩ rfl ⟨by decide, by decide⟩ rfl rfl (Nat.le_of_ble_eq_true rfl) rfl dX7_access_102 ?_
          rintro v h ⟨rfl, hR⟩
          refine G_goto 135 (by decide) dX7_access_105 ?_
          refine G_ret rfl ?_ dX7_access_135
          refine ⟨rfl, ?_⟩
          unfold acc1
          rw [if_neg (by first | exact fun z => hs z.1 | exact fun z => ht z.2)]
          unfold phS
          rw [if_neg k38_2, if_pos k38_3, ej, ec]
          exact hR
        · skip
          by_cases k38_4 : σ1.1 325 p = 4
          · refine G_tableIn 130 dX7_access_38 (by rw [k38_4]; decide) (by rw [k38_4]; decide) (off := 92) (by rw [k38_4]; rfl) (by decide) ?_
            refine G_aload_n 131 rfl rfl dX7_access_130 ?_
            refine G_aload_n 132 rfl rfl dX7_access_131 ?_
            have hk : ∃ k : Int32, σ1.1 325 p = k ∧ (k = 4 ∨ k = 5 ∨ k = 6 ∨ k = 7 ∨ k = 8) := by
              first
              | exact ⟨4, k38_4, Or.inl rfl⟩
              | exact ⟨5, k38_5, Or.inr (Or.inl rfl)⟩
              | exact ⟨6, k38_6, Or.inr (Or.inr (Or.inl rfl))⟩
              | exact ⟨7, k38_7, Or.inr (Or.inr (Or.inr (Or.inl rfl)))⟩
              | exact ⟨8, k38_8, Or.inr (Or.inr (Or.inr (Or.inr rfl)))⟩
            obtain ⟨k, kk, hkk⟩ := hk
            obtain ⟨j, c, hjg, hj, hch, hc, hv, hpb⟩ := hA1 (by rw [kk]; rcases hkk with rfl | rfl | rfl | rfl | rfl <;> decide)
            obtain ⟨n, q, hmet, hn, hq0, hq⟩ := hA2 (by rw [kk]; rcases hkk with rfl | rfl | rfl | rfl | rfl <;> decide)
            have ej : atN σ1 p = j := by unfold atN; rw [hj]; exact cN_nI (by omega)
            refine G_callV 135 rfl [.ref (aP E p)] (c_X7_accessToMeet hR hp hg hg8 hj hjg hw hwl hz hzb hmet hn hq0 hq (by rw [kk]; exact hkk)) ok_X7_accessToMeet ov_X7_accessToMeet ml_X7_192 (hR.ob (ci := 7) (i := 0) (by decide) rfl) ⟨by decide, rfl⟩ rfl ⟨by decide, by decide⟩ rfl rfl (Nat.le_of_ble_eq_true rfl) rfl dX7_access_132 ?_
            rintro v h ⟨rfl, hR⟩
            refine G_ret rfl ?_ dX7_access_135
            refine ⟨rfl, ?_⟩
            unfold acc1
            rw [if_neg (by first | exact fun z => hs z.1 | exact fun z => ht z.2)]
            unfold phS
            rw [if_neg (by rw [kk]; rcases hkk with rfl | rfl | rfl | rfl | rfl <;> decide), if_neg (by rw [kk]; rcases hkk with rfl | rfl | rfl | rfl | rfl <;> decide), if_neg (by rw [kk]; rcases hkk with rfl | rfl | rfl | rfl | rfl <;> decide), if_neg (by rw [kk]; rcases hkk with rfl | rfl | rfl | rfl | rfl <;> decide), if_neg (by rw [kk]; rcases hkk with rfl | rfl | rfl | rfl | rfl <;> decide), ej]
            unfold meN
            rw [hmet]
            show RR E m (meet σ1 p (cN (σ1.1 0 n)) n (8 * p + j)) τ h
            rw [hq0, cN_nI (by omega)]
            exact hR
          · skip
            by_cases k38_5 : σ1.1 325 p = 5
            · refine G_tableIn 130 dX7_access_38 (by rw [k38_5]; decide) (by rw [k38_5]; decide) (off := 92) (by rw [k38_5]; rfl) (by decide) ?_
              refine G_aload_n 131 rfl rfl dX7_access_130 ?_
              refine G_aload_n 132 rfl rfl dX7_access_131 ?_
              have hk : ∃ k : Int32, σ1.1 325 p = k ∧ (k = 4 ∨ k = 5 ∨ k = 6 ∨ k = 7 ∨ k = 8) := by
                first
                | exact ⟨4, k38_4, Or.inl rfl⟩
                | exact ⟨5, k38_5, Or.inr (Or.inl rfl)⟩
                | exact ⟨6, k38_6, Or.inr (Or.inr (Or.inl rfl))⟩
                | exact ⟨7, k38_7, Or.inr (Or.inr (Or.inr (Or.inl rfl)))⟩
                | exact ⟨8, k38_8, Or.inr (Or.inr (Or.inr (Or.inr rfl)))⟩
              obtain ⟨k, kk, hkk⟩ := hk
              obtain ⟨j, c, hjg, hj, hch, hc, hv, hpb⟩ := hA1 (by rw [kk]; rcases hkk with rfl | rfl | rfl | rfl | rfl <;> decide)
              obtain ⟨n, q, hmet, hn, hq0, hq⟩ := hA2 (by rw [kk]; rcases hkk with rfl | rfl | rfl | rfl | rfl <;> decide)
              have ej : atN σ1 p = j := by unfold atN; rw [hj]; exact cN_nI (by omega)
              refine G_callV 135 rfl [.ref (aP E p)] (c_X7_accessToMeet hR hp hg hg8 hj hjg hw hwl hz hzb hmet hn hq0 hq (by rw [kk]; exact hkk)) ok_X7_accessToMeet ov_X7_accessToMeet ml_X7_192 (hR.ob (ci := 7) (i := 0) (by decide) rfl) ⟨by decide, rfl⟩ rfl ⟨by decide, by decide⟩ rfl rfl (Nat.le_of_ble_eq_true rfl) rfl dX7_access_132 ?_
              rintro v h ⟨rfl, hR⟩
              refine G_ret rfl ?_ dX7_access_135
              refine ⟨rfl, ?_⟩
              unfold acc1
              rw [if_neg (by first | exact fun z => hs z.1 | exact fun z => ht z.2)]
              unfold phS
              rw [if_neg (by rw [kk]; rcases hkk with rfl | rfl | rfl | rfl | rfl <;> decide), if_neg (by rw [kk]; rcases hkk with rfl | rfl | rfl | rfl | rfl <;> decide), if_neg (by rw [kk]; rcases hkk with rfl | rfl | rfl | rfl | rfl <;> decide), if_neg (by rw [kk]; rcases hkk with rfl | rfl | rfl | rfl | rfl <;> decide), if_neg (by rw [kk]; rcases hkk with rfl | rfl | rfl | rfl | rfl <;> decide), ej]
              unfold meN
              rw [hmet]
              show RR E m (meet σ1 p (cN (σ1.1 0 n)) n (8 * p + j)) τ h
              rw [hq0, cN_nI (by omega)]
              exact hR
            · skip
              by_cases k38_6 : σ1.1 325 p = 6
              · refine G_tableIn 130 dX7_access_38 (by rw [k38_6]; decide) (by rw [k38_6]; decide) (off := 92) (by rw [k38_6]; rfl) (by decide) ?_
                refine G_aload_n 131 rfl rfl dX7_access_130 ?_
                refine G_aload_n 132 rfl rfl dX7_access_131 ?_
                have hk : ∃ k : Int32, σ1.1 325 p = k ∧ (k = 4 ∨ k = 5 ∨ k = 6 ∨ k = 7 ∨ k = 8) := by
                  first
                  | exact ⟨4, k38_4, Or.inl rfl⟩
                  | exact ⟨5, k38_5, Or.inr (Or.inl rfl)⟩
                  | exact ⟨6, k38_6, Or.inr (Or.inr (Or.inl rfl))⟩
                  | exact ⟨7, k38_7, Or.inr (Or.inr (Or.inr (Or.inl rfl)))⟩
                  | exact ⟨8, k38_8, Or.inr (Or.inr (Or.inr (Or.inr rfl)))⟩
                obtain ⟨k, kk, hkk⟩ := hk
                obtain ⟨j, c, hjg, hj, hch, hc, hv, hpb⟩ := hA1 (by rw [kk]; rcases hkk with rfl | rfl | rfl | rfl | rfl <;> decide)
                obtain ⟨n, q, hmet, hn, hq0, hq⟩ := hA2 (by rw [kk]; rcases hkk with rfl | rfl | rfl | rfl | rfl <;> decide)
                have ej : atN σ1 p = j := by unfold atN; rw [hj]; exact cN_nI (by omega)
                refine G_callV 135 rfl [.ref (aP E p)] (c_X7_accessToMeet hR hp hg hg8 hj hjg hw hwl hz hzb hmet hn hq0 hq (by rw [kk]; exact hkk)) ok_X7_accessToMeet ov_X7_accessToMeet ml_X7_192 (hR.ob (ci := 7) (i := 0) (by decide) rfl) ⟨by decide, rfl⟩ rfl ⟨by decide, by decide⟩ rfl rfl (Nat.le_of_ble_eq_true rfl) rfl dX7_access_132 ?_
                rintro v h ⟨rfl, hR⟩
                refine G_ret rfl ?_ dX7_access_135
                refine ⟨rfl, ?_⟩
                unfold acc1
                rw [if_neg (by first | exact fun z => hs z.1 | exact fun z => ht z.2)]
                unfold phS
                rw [if_neg (by rw [kk]; rcases hkk with rfl | rfl | rfl | rfl | rfl <;> decide), if_neg (by rw [kk]; rcases hkk with rfl | rfl | rfl | rfl | rfl <;> decide), if_neg (by rw [kk]; rcases hkk with rfl | rfl | rfl | rfl | rfl <;> decide), if_neg (by rw [kk]; rcases hkk with rfl | rfl | rfl | rfl | rfl <;> decide), if_neg (by rw [kk]; rcases hkk with rfl | rfl | rfl | rfl | rfl <;> decide), ej]
                unfold meN
                rw [hmet]
                show RR E m (meet σ1 p (cN (σ1.1 0 n)) n (8 * p + j)) τ h
                rw [hq0, cN_nI (by omega)]
                exact hR
              · skip
                by_cases k38_7 : σ1.1 325 p = 7
                · refine G_tableIn 130 dX7_access_38 (by rw [k38_7]; decide) (by rw [k38_7]; decide) (off := 92) (by rw [k38_7]; rfl) (by decide) ?_
                  refine G_aload_n 131 rfl rfl dX7_access_130 ?_
                  refine G_aload_n 132 rfl rfl dX7_access_131 ?_
                  have hk : ∃ k : Int32, σ1.1 325 p = k ∧ (k = 4 ∨ k = 5 ∨ k = 6 ∨ k = 7 ∨ k = 8) := by
                    first
                    | exact ⟨4, k38_4, Or.inl rfl⟩
                    | exact ⟨5, k38_5, Or.inr (Or.inl rfl)⟩
                    | exact ⟨6, k38_6, Or.inr (Or.inr (Or.inl rfl))⟩
                    | exact ⟨7, k38_7, Or.inr (Or.inr (Or.inr (Or.inl rfl)))⟩
                    | exact ⟨8, k38_8, Or.inr (Or.inr (Or.inr (Or.inr rfl)))⟩
                  obtain ⟨k, kk, hkk⟩ := hk
                  obtain ⟨j, c, hjg, hj, hch, hc, hv, hpb⟩ := hA1 (by rw [kk]; rcases hkk with rfl | rfl | rfl | rfl | rfl <;> decide)
                  obtain ⟨n, q, hmet, hn, hq0, hq⟩ := hA2 (by rw [kk]; rcases hkk with rfl | rfl | rfl | rfl | rfl <;> decide)
                  have ej : atN σ1 p = j := by unfold atN; rw [hj]; exact cN_nI (by omega)
                  refine G_callV 135 rfl [.ref (aP E p)] (c_X7_accessToMeet hR hp hg hg8 hj hjg hw hwl hz hzb hmet hn hq0 hq (by rw [kk]; exact hkk)) ok_X7_accessToMeet ov_X7_accessToMeet ml_X7_192 (hR.ob (ci := 7) (i := 0) (by decide) rfl) ⟨by decide, rfl⟩ rfl ⟨by decide, by decide⟩ rfl rfl (Nat.le_of_ble_eq_true rfl) rfl dX7_access_132 ?_
                  rintro v h ⟨rfl, hR⟩
                  refine G_ret rfl ?_ dX7_access_135
                  refine ⟨rfl, ?_⟩
                  unfold acc1
                  rw [if_neg (by first | exact fun z => hs z.1 | exact fun z => ht z.2)]
                  unfold phS
                  rw [if_neg (by rw [kk]; rcases hkk with rfl | rfl | rfl | rfl | rfl <;> decide), if_neg (by rw [kk]; rcases hkk with rfl | rfl | rfl | rfl | rfl <;> decide), if_neg (by rw [kk]; rcases hkk with rfl | rfl | rfl | rfl | rfl <;> decide), if_neg (by rw [kk]; rcases hkk with rfl | rfl | rfl | rfl | rfl <;> decide), if_neg (by rw [kk]; rcases hkk with rfl | rfl | rfl | rfl | rfl <;> decide), ej]
                  unfold meN
                  rw [hmet]
                  show RR E m (meet σ1 p (cN (σ1.1 0 n)) n (8 * p + j)) τ h
                  rw [hq0, cN_nI (by omega)]
                  exact hR
                · skip
                  by_cases k38_8 : σ1.1 325 p = 8
                  · refine G_tableIn 130 dX7_access_38 (by rw [k38_8]; decide) (by rw [k38_8]; decide) (off := 92) (by rw [k38_8]; rfl) (by decide) ?_
                    refine G_aload_n 131 rfl rfl dX7_access_130 ?_
                    refine G_aload_n 132 rfl rfl dX7_access_131 ?_
                    have hk : ∃ k : Int32, σ1.1 325 p = k ∧ (k = 4 ∨ k = 5 ∨ k = 6 ∨ k = 7 ∨ k = 8) := by
                      first
                      | exact ⟨4, k38_4, Or.inl rfl⟩
                      | exact ⟨5, k38_5, Or.inr (Or.inl rfl)⟩
                      | exact ⟨6, k38_6, Or.inr (Or.inr (Or.inl rfl))⟩
                      | exact ⟨7, k38_7, Or.inr (Or.inr (Or.inr (Or.inl rfl)))⟩
                      | exact ⟨8, k38_8, Or.inr (Or.inr (Or.inr (Or.inr rfl)))⟩
                    obtain ⟨k, kk, hkk⟩ := hk
                    obtain ⟨j, c, hjg, hj, hch, hc, hv, hpb⟩ := hA1 (by rw [kk]; rcases hkk with rfl | rfl | rfl | rfl | rfl <;> decide)
                    obtain ⟨n, q, hmet, hn, hq0, hq⟩ := hA2 (by rw [kk]; rcases hkk with rfl | rfl | rfl | rfl | rfl <;> decide)
                    have ej : atN σ1 p = j := by unfold atN; rw [hj]; exact cN_nI (by omega)
                    refine G_callV 135 rfl [.ref (aP E p)] (c_X7_accessToMeet hR hp hg hg8 hj hjg hw hwl hz hzb hmet hn hq0 hq (by rw [kk]; exact hkk)) ok_X7_accessToMeet ov_X7_accessToMeet ml_X7_192 (hR.ob (ci := 7) (i := 0) (by decide) rfl) ⟨by decide, rfl⟩ rfl ⟨by decide, by decide⟩ rfl rfl (Nat.le_of_ble_eq_true rfl) rfl dX7_access_132 ?_
                    rintro v h ⟨rfl, hR⟩
                    refine G_ret rfl ?_ dX7_access_135
                    refine ⟨rfl, ?_⟩
                    unfold acc1
                    rw [if_neg (by first | exact fun z => hs z.1 | exact fun z => ht z.2)]
                    unfold phS
                    rw [if_neg (by rw [kk]; rcases hkk with rfl | rfl | rfl | rfl | rfl <;> decide), if_neg (by rw [kk]; rcases hkk with rfl | rfl | rfl | rfl | rfl <;> decide), if_neg (by rw [kk]; rcases hkk with rfl | rfl | rfl | rfl | rfl <;> decide), if_neg (by rw [kk]; rcases hkk with rfl | rfl | rfl | rfl | rfl <;> decide), if_neg (by rw [kk]; rcases hkk with rfl | rfl | rfl | rfl | rfl <;> decide), ej]
                    unfold meN
                    rw [hmet]
                    show RR E m (meet σ1 p (cN (σ1.1 0 n)) n (8 * p + j)) τ h
                    rw [hq0, cN_nI (by omega)]
                    exact hR
                  · skip
                    by_cases k38_9 : σ1.1 325 p = 9
                    · refine G_tableIn 108 dX7_access_38 (by rw [k38_9]; decide) (by rw [k38_9]; decide) (off := 70) (by rw [k38_9]; rfl) (by decide) ?_
                      refine G_aload_n 109 rfl rfl dX7_access_108 ?_
                      refine G_callV 112 rfl [] (c_X5_endLooking hR hp hg hg8 hw hwl) ok_X5_endLooking ov_X5_endLooking ml_X7_183 (hR.ob (ci := 5) (i := p) (by decide) hp) ⟨by decide, rfl⟩ rfl ⟨by decide, by decide⟩ rfl rfl (Nat.le_of_ble_eq_true rfl) rfl dX7_access_109 ?_
                      rintro v h ⟨rfl, hR⟩
                      have hR : RR E m (endL σ1 p) τ h := by
                        unfold endL
                        rcases hR with ⟨x1, x2⟩ | ⟨x1, x2, x3⟩ | ⟨x1, x2, x3⟩
                        · rw [if_pos x1]; exact x2
                        · rw [if_neg x1, if_neg x2]; exact x3
                        · rw [if_neg x1, if_pos x2]; exact x3
                      refine G_goto 135 (by decide) dX7_access_112 ?_
                      refine G_ret rfl ?_ dX7_access_135
                      refine ⟨rfl, ?_⟩
                      unfold acc1
                      rw [if_neg (by first | exact fun z => hs z.1 | exact fun z => ht z.2)]
                      unfold phS
                      rw [if_neg k38_2, if_neg k38_3, if_pos k38_9]
                      exact hR
                    · skip
                      by_cases k38_10 : σ1.1 325 p = 10
                      · refine G_tableIn 115 dX7_access_38 (by rw [k38_10]; decide) (by rw [k38_10]; decide) (off := 77) (by rw [k38_10]; rfl) (by decide) ?_
                        refine G_aload_n 116 rfl rfl dX7_access_115 ?_
                        refine G_callV 119 rfl [] (c_X5_wakeIfSettled hR hp hw hwl) ok_X5_wakeIfSettled ov_X5_wakeIfSettled ml_X7_186 (hR.ob (ci := 5) (i := p) (by decide) hp) ⟨by decide, rfl⟩ rfl ⟨by decide, by decide⟩ rfl rfl (Nat.le_of_ble_eq_true rfl) rfl dX7_access_116 ?_
                        rintro v h ⟨rfl, hR⟩
                        have hR : RR E m (wake σ1 p) τ h := by
                          unfold wake
                          rcases hR with ⟨x1, x2⟩ | ⟨x1, x2⟩
                          · rw [if_pos x1]; exact x2
                          · rw [if_neg x1]; exact x2
                        refine G_goto 135 (by decide) dX7_access_119 ?_
                        refine G_ret rfl ?_ dX7_access_135
                        refine ⟨rfl, ?_⟩
                        unfold acc1
                        rw [if_neg (by first | exact fun z => hs z.1 | exact fun z => ht z.2)]
                        unfold phS
                        rw [if_neg k38_2, if_neg k38_3, if_neg k38_9, if_pos k38_10]
                        exact hR
                      · skip
                        by_cases k38_11 : σ1.1 325 p = 11
                        · refine G_tableIn 122 dX7_access_38 (by rw [k38_11]; decide) (by rw [k38_11]; decide) (off := 84) (by rw [k38_11]; rfl) (by decide) ?_
                          refine G_aload_n 123 rfl rfl dX7_access_122 ?_
                          refine G_aload_n 124 rfl rfl dX7_access_123 ?_
                          obtain ⟨n, c, hwn, hn, hec, hc, hv⟩ := hA3 k38_11
                          have hl8 := (hR.2.2.1.2.2.2.2.2.2.2 p hp).1
                          have hfe : fE σ1 p = some n := by unfold fE; rw [hw, cN_nI (by omega)]; exact hwn
                          refine G_callV 127 rfl [.ref (aP E p)] (c_X7_withdrawEntry hR hp hw hwn hn hec hc hv) ok_X7_withdrawEntry ov_X7_withdrawEntry ml_X7_189 (hR.ob (ci := 7) (i := 0) (by decide) rfl) ⟨by decide, rfl⟩ rfl ⟨by decide, by decide⟩ rfl rfl (Nat.le_of_ble_eq_true rfl) rfl dX7_access_124 ?_
                          rintro v h ⟨rfl, hR⟩
                          refine G_goto 135 (by decide) dX7_access_127 ?_
                          refine G_ret rfl ?_ dX7_access_135
                          refine ⟨rfl, ?_⟩
                          unfold acc1
                          rw [if_neg (by first | exact fun z => hs z.1 | exact fun z => ht z.2)]
                          unfold phS
                          rw [if_neg k38_2, if_neg k38_3, if_neg k38_9, if_neg k38_10, if_pos k38_11, hfe]
                          show RR E m (wdS σ1 p n (cN (σ1.1 3 n))) τ h
                          rw [hec, cN_nI (by omega)]
                          exact hR
                        · skip
                          exfalso
                          rcases ph_cases hph1 hph2 with x | x | x | x | x | x | x | x | x | x
                          · exact absurd x k38_2
                          · exact absurd x k38_3
                          · exact absurd x k38_4
                          · exact absurd x k38_5
                          · exact absurd x k38_6
                          · exact absurd x k38_7
                          · exact absurd x k38_8
                          · exact absurd x k38_9
                          · exact absurd x k38_10
                          · exact absurd x k38_11
  · skip
    refine G_ifT_eq 34 (by decide) (by decide) dX7_access_18 ?_
    refine G_aload_n 35 rfl rfl dX7_access_34 ?_
    refine G_gi 38 rfl hR 5 5 p 325 (σ1.1 325 p) fl_X7_48 hp rfl rfl rfl rfl dX7_access_35 ?_
    by_cases k38_2 : σ1.1 325 p = 2
    · refine G_tableIn 92 dX7_access_38 (by rw [k38_2]; decide) (by rw [k38_2]; decide) (off := 54) (by rw [k38_2]; rfl) (by decide) ?_
      refine G_aload_n 93 rfl rfl dX7_access_92 ?_
      refine G_aload_n 94 rfl rfl dX7_access_93 ?_
      obtain ⟨j, c, hjg, hj, hch, hc, hv, hpb⟩ := hA1 (by rw [k38_2]; decide)
      have ej : atN σ1 p = j := by unfold atN; rw [hj]; exact cN_nI (by omega)
      have ec : chN σ1 p = c := by unfold chN; rw [ej, hch]; exact cN_nI (by omega)
      obtain ⟨hll, hpl8⟩ := hpb k38_2
      refine G_callV 97 rfl [.ref (aP E p)] (c_X7_publishEntry hR hp hg hg8 hj hjg hch hc hnp0 hll hpl8) ok_X7_publishEntry ov_X7_publishEntry ml_X7_177 (hR.ob (ci := 7) (i := 0) (by decide) rfl) ⟨by decide, rfl⟩ rfl ⟨by decide, by decide⟩ (ac' := 0) (as' := 0) rfl rfl (Nat.le_of_ble_eq_true rfl) rfl dX7_access_94 ?_
      rintro v h ⟨rfl, hR⟩
      refine G_goto 135 (by decide) dX7_access_97 ?_
      refine G_ret rfl ?_ dX7_access_135
      refine ⟨rfl, ?_⟩
      unfold acc1
      rw [if_neg (by first | exact fun z => hs z.1 | exact fun z => ht z.2)]
      unfold phS
      rw [if_pos k38_2, ej, ec]
      exact hR
    · skip
      by_cases k38_3 : σ1.1 325 p = 3
      · refine G_tableIn 100 dX7_access_38 (by rw [k38_3]; decide) (by rw [k38_3]; decide) (off := 62) (by rw [k38_3]; rfl) (by decide) ?_
        refine G_aload_n 101 rfl rfl dX7_access_100 ?_
        refine G_aload_n 102 rfl rfl dX7_access_101 ?_
        obtain ⟨j, c, hjg, hj, hch, hc, hv, hpb⟩ := hA1 (by rw [k38_3]; decide)
        have ej : atN σ1 p = j := by unfold atN; rw [hj]; exact cN_nI (by omega)
        have ec : chN σ1 p = c := by unfold chN; rw [ej, hch]; exact cN_nI (by omega)
        refine G_callV 105 rfl [.ref (aP E p)] (c_X7_lookOn hR hp hg hg8 hj hjg hch hc hv) ok_X7_lookOn ov_X7_lookOn ml_X7_180 (hR.ob (ci := 7) (i := 0) (by decide) rfl) ⟨by decide, rfl⟩ rfl ⟨by decide, by decide⟩ rfl rfl (Nat.le_of_ble_eq_true rfl) rfl dX7_access_102 ?_
        rintro v h ⟨rfl, hR⟩
        refine G_goto 135 (by decide) dX7_access_105 ?_
        refine G_ret rfl ?_ dX7_access_135
        refine ⟨rfl, ?_⟩
        unfold acc1
        rw [if_neg (by first | exact fun z => hs z.1 | exact fun z => ht z.2)]
        unfold phS
        rw [if_neg k38_2, if_pos k38_3, ej, ec]
        exact hR
      · skip
        by_cases k38_4 : σ1.1 325 p = 4
        · refine G_tableIn 130 dX7_access_38 (by rw [k38_4]; decide) (by rw [k38_4]; decide) (off := 92) (by rw [k38_4]; rfl) (by decide) ?_
          refine G_aload_n 131 rfl rfl dX7_access_130 ?_
          refine G_aload_n 132 rfl rfl dX7_access_131 ?_
          have hk : ∃ k : Int32, σ1.1 325 p = k ∧ (k = 4 ∨ k = 5 ∨ k = 6 ∨ k = 7 ∨ k = 8) := by
            first
            | exact ⟨4, k38_4, Or.inl rfl⟩
            | exact ⟨5, k38_5, Or.inr (Or.inl rfl)⟩
            | exact ⟨6, k38_6, Or.inr (Or.inr (Or.inl rfl))⟩
            | exact ⟨7, k38_7, Or.inr (Or.inr (Or.inr (Or.inl rfl)))⟩
            | exact ⟨8, k38_8, Or.inr (Or.inr (Or.inr (Or.inr rfl)))⟩
          obtain ⟨k, kk, hkk⟩ := hk
          obtain ⟨j, c, hjg, hj, hch, hc, hv, hpb⟩ := hA1 (by rw [kk]; rcases hkk with rfl | rfl | rfl | rfl | rfl <;> decide)
          obtain ⟨n, q, hmet, hn, hq0, hq⟩ := hA2 (by rw [kk]; rcases hkk with rfl | rfl | rfl | rfl | rfl <;> decide)
          have ej : atN σ1 p = j := by unfold atN; rw [hj]; exact cN_nI (by omega)
          refine G_callV 135 rfl [.ref (aP E p)] (c_X7_accessToMeet hR hp hg hg8 hj hjg hw hwl hz hzb hmet hn hq0 hq (by rw [kk]; exact hkk)) ok_X7_accessToMeet ov_X7_accessToMeet ml_X7_192 (hR.ob (ci := 7) (i := 0) (by decide) rfl) ⟨by decide, rfl⟩ rfl ⟨by decide, by decide⟩ rfl rfl (Nat.le_of_ble_eq_true rfl) rfl dX7_access_132 ?_
          rintro v h ⟨rfl, hR⟩
          refine G_ret rfl ?_ dX7_access_135
          refine ⟨rfl, ?_⟩
          unfold acc1
          rw [if_neg (by first | exact fun z => hs z.1 | exact fun z => ht z.2)]
          unfold phS
          rw [if_neg (by rw [kk]; rcases hkk with rfl | rfl | rfl | rfl | rfl <;> decide), if_neg (by rw [kk]; rcases hkk with rfl | rfl | rfl | rfl | rfl <;> decide), if_neg (by rw [kk]; rcases hkk with rfl | rfl | rfl | rfl | rfl <;> decide), if_neg (by rw [kk]; rcases hkk with rfl | rfl | rfl | rfl | rfl <;> decide), if_neg (by rw [kk]; rcases hkk with rfl | rfl | rfl | rfl | rfl <;> decide), ej]
          unfold meN
          rw [hmet]
          show RR E m (meet σ1 p (cN (σ1.1 0 n)) n (8 * p + j)) τ h
          rw [hq0, cN_nI (by omega)]
          exact hR
        · skip
          by_cases k38_5 : σ1.1 325 p = 5
          · refine G_tableIn 130 dX7_access_38 (by rw [k38_5]; decide) (by rw [k38_5]; decide) (off := 92) (by rw [k38_5]; rfl) (by decide) ?_
            refine G_aload_n 131 rfl rfl dX7_access_130 ?_
            refine G_aload_n 132 rfl rfl dX7_access_131 ?_
            have hk : ∃ k : Int32, σ1.1 325 p = k ∧ (k = 4 ∨ k = 5 ∨ k = 6 ∨ k = 7 ∨ k = 8) := by
              first
              | exact ⟨4, k38_4, Or.inl rfl⟩
              | exact ⟨5, k38_5, Or.inr (Or.inl rfl)⟩
              | exact ⟨6, k38_6, Or.inr (Or.inr (Or.inl rfl))⟩
              | exact ⟨7, k38_7, Or.inr (Or.inr (Or.inr (Or.inl rfl)))⟩
              | exact ⟨8, k38_8, Or.inr (Or.inr (Or.inr (Or.inr rfl)))⟩
            obtain ⟨k, kk, hkk⟩ := hk
            obtain ⟨j, c, hjg, hj, hch, hc, hv, hpb⟩ := hA1 (by rw [kk]; rcases hkk with rfl | rfl | rfl | rfl | rfl <;> decide)
            obtain ⟨n, q, hmet, hn, hq0, hq⟩ := hA2 (by rw [kk]; rcases hkk with rfl | rfl | rfl | rfl | rfl <;> decide)
            have ej : atN σ1 p = j := by unfold atN; rw [hj]; exact cN_nI (by omega)
            refine G_callV 135 rfl [.ref (aP E p)] (c_X7_accessToMeet hR hp hg hg8 hj hjg hw hwl hz hzb hmet hn hq0 hq (by rw [kk]; exact hkk)) ok_X7_accessToMeet ov_X7_accessToMeet ml_X7_192 (hR.ob (ci := 7) (i := 0) (by decide) rfl) ⟨by decide, rfl⟩ rfl ⟨by decide, by decide⟩ rfl rfl (Nat.le_of_ble_eq_true rfl) rfl dX7_access_132 ?_
            rintro v h ⟨rfl, hR⟩
            refine G_ret rfl ?_ dX7_access_135
            refine ⟨rfl, ?_⟩
            unfold acc1
            rw [if_neg (by first | exact fun z => hs z.1 | exact fun z => ht z.2)]
            unfold phS
            rw [if_neg (by rw [kk]; rcases hkk with rfl | rfl | rfl | rfl | rfl <;> decide), if_neg (by rw [kk]; rcases hkk with rfl | rfl | rfl | rfl | rfl <;> decide), if_neg (by rw [kk]; rcases hkk with rfl | rfl | rfl | rfl | rfl <;> decide), if_neg (by rw [kk]; rcases hkk with rfl | rfl | rfl | rfl | rfl <;> decide), if_neg (by rw [kk]; rcases hkk with rfl | rfl | rfl | rfl | rfl <;> decide), ej]
            unfold meN
            rw [hmet]
            show RR E m (meet σ1 p (cN (σ1.1 0 n)) n (8 * p + j)) τ h
            rw [hq0, cN_nI (by omega)]
            exact hR
          · skip
            by_cases k38_6 : σ1.1 325 p = 6
            · refine G_tableIn 130 dX7_access_38 (by rw [k38_6]; decide) (by rw [k38_6]; decide) (off := 92) (by rw [k38_6]; rfl) (by decide) ?_
              refine G_aload_n 131 rfl rfl dX7_access_130 ?_
              refine G_aload_n 132 rfl rfl dX7_access_131 ?_
              have hk : ∃ k : Int32, σ1.1 325 p = k ∧ (k = 4 ∨ k = 5 ∨ k = 6 ∨ k = 7 ∨ k = 8) := by
                first
                | exact ⟨4, k38_4, Or.inl rfl⟩
                | exact ⟨5, k38_5, Or.inr (Or.inl rfl)⟩
                | exact ⟨6, k38_6, Or.inr (Or.inr (Or.inl rfl))⟩
                | exact ⟨7, k38_7, Or.inr (Or.inr (Or.inr (Or.inl rfl)))⟩
                | exact ⟨8, k38_8, Or.inr (Or.inr (Or.inr (Or.inr rfl)))⟩
              obtain ⟨k, kk, hkk⟩ := hk
              obtain ⟨j, c, hjg, hj, hch, hc, hv, hpb⟩ := hA1 (by rw [kk]; rcases hkk with rfl | rfl | rfl | rfl | rfl <;> decide)
              obtain ⟨n, q, hmet, hn, hq0, hq⟩ := hA2 (by rw [kk]; rcases hkk with rfl | rfl | rfl | rfl | rfl <;> decide)
              have ej : atN σ1 p = j := by unfold atN; rw [hj]; exact cN_nI (by omega)
              refine G_callV 135 rfl [.ref (aP E p)] (c_X7_accessToMeet hR hp hg hg8 hj hjg hw hwl hz hzb hmet hn hq0 hq (by rw [kk]; exact hkk)) ok_X7_accessToMeet ov_X7_accessToMeet ml_X7_192 (hR.ob (ci := 7) (i := 0) (by decide) rfl) ⟨by decide, rfl⟩ rfl ⟨by decide, by decide⟩ rfl rfl (Nat.le_of_ble_eq_true rfl) rfl dX7_access_132 ?_
              rintro v h ⟨rfl, hR⟩
              refine G_ret rfl ?_ dX7_access_135
              refine ⟨rfl, ?_⟩
              unfold acc1
              rw [if_neg (by first | exact fun z => hs z.1 | exact fun z => ht z.2)]
              unfold phS
              rw [if_neg (by rw [kk]; rcases hkk with rfl | rfl | rfl | rfl | rfl <;> decide), if_neg (by rw [kk]; rcases hkk with rfl | rfl | rfl | rfl | rfl <;> decide), if_neg (by rw [kk]; rcases hkk with rfl | rfl | rfl | rfl | rfl <;> decide), if_neg (by rw [kk]; rcases hkk with rfl | rfl | rfl | rfl | rfl <;> decide), if_neg (by rw [kk]; rcases hkk with rfl | rfl | rfl | rfl | rfl <;> decide), ej]
              unfold meN
              rw [hmet]
              show RR E m (meet σ1 p (cN (σ1.1 0 n)) n (8 * p + j)) τ h
              rw [hq0, cN_nI (by omega)]
              exact hR
            · skip
              by_cases k38_7 : σ1.1 325 p = 7
              · refine G_tableIn 130 dX7_access_38 (by rw [k38_7]; decide) (by rw [k38_7]; decide) (off := 92) (by rw [k38_7]; rfl) (by decide) ?_
                refine G_aload_n 131 rfl rfl dX7_access_130 ?_
                refine G_aload_n 132 rfl rfl dX7_access_131 ?_
                have hk : ∃ k : Int32, σ1.1 325 p = k ∧ (k = 4 ∨ k = 5 ∨ k = 6 ∨ k = 7 ∨ k = 8) := by
                  first
                  | exact ⟨4, k38_4, Or.inl rfl⟩
                  | exact ⟨5, k38_5, Or.inr (Or.inl rfl)⟩
                  | exact ⟨6, k38_6, Or.inr (Or.inr (Or.inl rfl))⟩
                  | exact ⟨7, k38_7, Or.inr (Or.inr (Or.inr (Or.inl rfl)))⟩
                  | exact ⟨8, k38_8, Or.inr (Or.inr (Or.inr (Or.inr rfl)))⟩
                obtain ⟨k, kk, hkk⟩ := hk
                obtain ⟨j, c, hjg, hj, hch, hc, hv, hpb⟩ := hA1 (by rw [kk]; rcases hkk with rfl | rfl | rfl | rfl | rfl <;> decide)
                obtain ⟨n, q, hmet, hn, hq0, hq⟩ := hA2 (by rw [kk]; rcases hkk with rfl | rfl | rfl | rfl | rfl <;> decide)
                have ej : atN σ1 p = j := by unfold atN; rw [hj]; exact cN_nI (by omega)
                refine G_callV 135 rfl [.ref (aP E p)] (c_X7_accessToMeet hR hp hg hg8 hj hjg hw hwl hz hzb hmet hn hq0 hq (by rw [kk]; exact hkk)) ok_X7_accessToMeet ov_X7_accessToMeet ml_X7_192 (hR.ob (ci := 7) (i := 0) (by decide) rfl) ⟨by decide, rfl⟩ rfl ⟨by decide, by decide⟩ rfl rfl (Nat.le_of_ble_eq_true rfl) rfl dX7_access_132 ?_
                rintro v h ⟨rfl, hR⟩
                refine G_ret rfl ?_ dX7_access_135
                refine ⟨rfl, ?_⟩
                unfold acc1
                rw [if_neg (by first | exact fun z => hs z.1 | exact fun z => ht z.2)]
                unfold phS
                rw [if_neg (by rw [kk]; rcases hkk with rfl | rfl | rfl | rfl | rfl <;> decide), if_neg (by rw [kk]; rcases hkk with rfl | rfl | rfl | rfl | rfl <;> decide), if_neg (by rw [kk]; rcases hkk with rfl | rfl | rfl | rfl | rfl <;> decide), if_neg (by rw [kk]; rcases hkk with rfl | rfl | rfl | rfl | rfl <;> decide), if_neg (by rw [kk]; rcases hkk with rfl | rfl | rfl | rfl | rfl <;> decide), ej]
                unfold meN
                rw [hmet]
                show RR E m (meet σ1 p (cN (σ1.1 0 n)) n (8 * p + j)) τ h
                rw [hq0, cN_nI (by omega)]
                exact hR
              · skip
                by_cases k38_8 : σ1.1 325 p = 8
                · refine G_tableIn 130 dX7_access_38 (by rw [k38_8]; decide) (by rw [k38_8]; decide) (off := 92) (by rw [k38_8]; rfl) (by decide) ?_
                  refine G_aload_n 131 rfl rfl dX7_access_130 ?_
                  refine G_aload_n 132 rfl rfl dX7_access_131 ?_
                  have hk : ∃ k : Int32, σ1.1 325 p = k ∧ (k = 4 ∨ k = 5 ∨ k = 6 ∨ k = 7 ∨ k = 8) := by
                    first
                    | exact ⟨4, k38_4, Or.inl rfl⟩
                    | exact ⟨5, k38_5, Or.inr (Or.inl rfl)⟩
                    | exact ⟨6, k38_6, Or.inr (Or.inr (Or.inl rfl))⟩
                    | exact ⟨7, k38_7, Or.inr (Or.inr (Or.inr (Or.inl rfl)))⟩
                    | exact ⟨8, k38_8, Or.inr (Or.inr (Or.inr (Or.inr rfl)))⟩
                  obtain ⟨k, kk, hkk⟩ := hk
                  obtain ⟨j, c, hjg, hj, hch, hc, hv, hpb⟩ := hA1 (by rw [kk]; rcases hkk with rfl | rfl | rfl | rfl | rfl <;> decide)
                  obtain ⟨n, q, hmet, hn, hq0, hq⟩ := hA2 (by rw [kk]; rcases hkk with rfl | rfl | rfl | rfl | rfl <;> decide)
                  have ej : atN σ1 p = j := by unfold atN; rw [hj]; exact cN_nI (by omega)
                  refine G_callV 135 rfl [.ref (aP E p)] (c_X7_accessToMeet hR hp hg hg8 hj hjg hw hwl hz hzb hmet hn hq0 hq (by rw [kk]; exact hkk)) ok_X7_accessToMeet ov_X7_accessToMeet ml_X7_192 (hR.ob (ci := 7) (i := 0) (by decide) rfl) ⟨by decide, rfl⟩ rfl ⟨by decide, by decide⟩ rfl rfl (Nat.le_of_ble_eq_true rfl) rfl dX7_access_132 ?_
                  rintro v h ⟨rfl, hR⟩
                  refine G_ret rfl ?_ dX7_access_135
                  refine ⟨rfl, ?_⟩
                  unfold acc1
                  rw [if_neg (by first | exact fun z => hs z.1 | exact fun z => ht z.2)]
                  unfold phS
                  rw [if_neg (by rw [kk]; rcases hkk with rfl | rfl | rfl | rfl | rfl <;> decide), if_neg (by rw [kk]; rcases hkk with rfl | rfl | rfl | rfl | rfl <;> decide), if_neg (by rw [kk]; rcases hkk with rfl | rfl | rfl | rfl | rfl <;> decide), if_neg (by rw [kk]; rcases hkk with rfl | rfl | rfl | rfl | rfl <;> decide), if_neg (by rw [kk]; rcases hkk with rfl | rfl | rfl | rfl | rfl <;> decide), ej]
                  unfold meN
                  rw [hmet]
                  show RR E m (meet σ1 p (cN (σ1.1 0 n)) n (8 * p + j)) τ h
                  rw [hq0, cN_nI (by omega)]
                  exact hR
                · skip
                  by_cases k38_9 : σ1.1 325 p = 9
                  · refine G_tableIn 108 dX7_access_38 (by rw [k38_9]; decide) (by rw [k38_9]; decide) (off := 70) (by rw [k38_9]; rfl) (by decide) ?_
                    refine G_aload_n 109 rfl rfl dX7_access_108 ?_
                    refine G_callV 112 rfl [] (c_X5_endLooking hR hp hg hg8 hw hwl) ok_X5_endLooking ov_X5_endLooking ml_X7_183 (hR.ob (ci := 5) (i := p) (by decide) hp) ⟨by decide, rfl⟩ rfl ⟨by decide, by decide⟩ rfl rfl (Nat.le_of_ble_eq_true rfl) rfl dX7_access_109 ?_
                    rintro v h ⟨rfl, hR⟩
                    have hR : RR E m (endL σ1 p) τ h := by
                      unfold endL
                      rcases hR with ⟨x1, x2⟩ | ⟨x1, x2, x3⟩ | ⟨x1, x2, x3⟩
                      · rw [if_pos x1]; exact x2
                      · rw [if_neg x1, if_neg x2]; exact x3
                      · rw [if_neg x1, if_pos x2]; exact x3
                    refine G_goto 135 (by decide) dX7_access_112 ?_
                    refine G_ret rfl ?_ dX7_access_135
                    refine ⟨rfl, ?_⟩
                    unfold acc1
                    rw [if_neg (by first | exact fun z => hs z.1 | exact fun z => ht z.2)]
                    unfold phS
                    rw [if_neg k38_2, if_neg k38_3, if_pos k38_9]
                    exact hR
                  · skip
                    by_cases k38_10 : σ1.1 325 p = 10
                    · refine G_tableIn 115 dX7_access_38 (by rw [k38_10]; decide) (by rw [k38_10]; decide) (off := 77) (by rw [k38_10]; rfl) (by decide) ?_
                      refine G_aload_n 116 rfl rfl dX7_access_115 ?_
                      refine G_callV 119 rfl [] (c_X5_wakeIfSettled hR hp hw hwl) ok_X5_wakeIfSettled ov_X5_wakeIfSettled ml_X7_186 (hR.ob (ci := 5) (i := p) (by decide) hp) ⟨by decide, rfl⟩ rfl ⟨by decide, by decide⟩ rfl rfl (Nat.le_of_ble_eq_true rfl) rfl dX7_access_116 ?_
                      rintro v h ⟨rfl, hR⟩
                      have hR : RR E m (wake σ1 p) τ h := by
                        unfold wake
                        rcases hR with ⟨x1, x2⟩ | ⟨x1, x2⟩
                        · rw [if_pos x1]; exact x2
                        · rw [if_neg x1]; exact x2
                      refine G_goto 135 (by decide) dX7_access_119 ?_
                      refine G_ret rfl ?_ dX7_access_135
                      refine ⟨rfl, ?_⟩
                      unfold acc1
                      rw [if_neg (by first | exact fun z => hs z.1 | exact fun z => ht z.2)]
                      unfold phS
                      rw [if_neg k38_2, if_neg k38_3, if_neg k38_9, if_pos k38_10]
                      exact hR
                    · skip
                      by_cases k38_11 : σ1.1 325 p = 11
                      · refine G_tableIn 122 dX7_access_38 (by rw [k38_11]; decide) (by rw [k38_11]; decide) (off := 84) (by rw [k38_11]; rfl) (by decide) ?_
                        refine G_aload_n 123 rfl rfl dX7_access_122 ?_
                        refine G_aload_n 124 rfl rfl dX7_access_123 ?_
                        obtain ⟨n, c, hwn, hn, hec, hc, hv⟩ := hA3 k38_11
                        have hl8 := (hR.2.2.1.2.2.2.2.2.2.2 p hp).1
                        have hfe : fE σ1 p = some n := by unfold fE; rw [hw, cN_nI (by omega)]; exact hwn
                        refine G_callV 127 rfl [.ref (aP E p)] (c_X7_withdrawEntry hR hp hw hwn hn hec hc hv) ok_X7_withdrawEntry ov_X7_withdrawEntry ml_X7_189 (hR.ob (ci := 7) (i := 0) (by decide) rfl) ⟨by decide, rfl⟩ rfl ⟨by decide, by decide⟩ rfl rfl (Nat.le_of_ble_eq_true rfl) rfl dX7_access_124 ?_
                        rintro v h ⟨rfl, hR⟩
                        refine G_goto 135 (by decide) dX7_access_127 ?_
                        refine G_ret rfl ?_ dX7_access_135
                        refine ⟨rfl, ?_⟩
                        unfold acc1
                        rw [if_neg (by first | exact fun z => hs z.1 | exact fun z => ht z.2)]
                        unfold phS
                        rw [if_neg k38_2, if_neg k38_3, if_neg k38_9, if_neg k38_10, if_pos k38_11, hfe]
                        show RR E m (wdS σ1 p n (cN (σ1.1 3 n))) τ h
                        rw [hec, cN_nI (by omega)]
                        exact hR
                      · skip
                        exfalso
                        rcases ph_cases hph1 hph2 with x | x | x | x | x | x | x | x | x | x
                        · exact absurd x k38_2
                        · exact absurd x k38_3
                        · exact absurd x k38_4
                        · exact absurd x k38_5
                        · exact absurd x k38_6
                        · exact absurd x k38_7
                        · exact absurd x k38_8
                        · exact absurd x k38_9
                        · exact absurd x k38_10
                        · exact absurd x k38_11

noncomputable def uB (σ : Sg) (p q : Nat) : Bool := @decide (σ.1 325 p = 10 ∧ σ.1 325 q = 10 ∧ σ.1 384 p = 1 ∧ σ.1 384 q = 1 ∧ mtC σ p q (cN (σ.1 326 p)) (cN (σ.1 326 q))) (Classical.propDecidable _)
noncomputable def uO (σ : Sg) (m : Nat) : Nat → Nat → Int32 → Int32
  | 0, _, s => s
  | r + 1, a, s => uO σ m r (a + 1) (ctA (uB σ a) (m - (a + 1)) (a + 1) s)
theorem uO_succ (σ : Sg) (m r a : Nat) (s : Int32) : uO σ m (r + 1) a s = uO σ m r (a + 1) (ctA (uB σ a) (m - (a + 1)) (a + 1) s) := rfl
theorem uB_t {σ : Sg} {p q : Nat} (h : σ.1 325 p = 10 ∧ σ.1 325 q = 10 ∧ σ.1 384 p = 1 ∧ σ.1 384 q = 1 ∧ mtC σ p q (cN (σ.1 326 p)) (cN (σ.1 326 q))) : uB σ p q = true := by unfold uB; simp only [decide_eq_true_eq]; exact h
theorem uB_f {σ : Sg} {p q : Nat} (h : ¬ (σ.1 325 p = 10 ∧ σ.1 325 q = 10 ∧ σ.1 384 p = 1 ∧ σ.1 384 q = 1 ∧ mtC σ p q (cN (σ.1 326 p)) (cN (σ.1 326 q)))) : ¬ uB σ p q = true := by unfold uB; simp only [decide_eq_true_eq]; exact h
def lcg (s : Int32) : Int32 := s * 1103515245 + 12345
def pik (m : Nat) (s : Int32) : Nat := s.toBitVec.toNat / 65536 % m
def offg (σ : Sg) (p : Nat) : Prop := ¬ σ.1 325 p < 2 ∧ ¬ 11 < σ.1 325 p
/-- n steps of run: the state behind them -/
def stp1 (σ : Sg) (p : Nat) : Sg := if ¬ σ.1 325 p < 2 ∧ ¬ 11 < σ.1 325 p then acc σ p else σ
def rnG (f : Sg → Nat → Sg) (nx : Int32 → Int32) (pk : Int32 → Nat) : Nat → Sg → Int32 → Sg
  | 0, σ, _ => σ
  | n + 1, σ, s => rnG f nx pk n (f σ (pk (nx s))) (nx s)
theorem rnG_succ (f : Sg → Nat → Sg) (nx : Int32 → Int32) (pk : Int32 → Nat) (n : Nat) (σ : Sg) (s : Int32) : rnG f nx pk (n + 1) σ s = rnG f nx pk n (f σ (pk (nx s))) (nx s) := rfl
def rnS (m : Nat) : Nat → Sg → Int32 → Sg := rnG stp1 lcg (pik m)
theorem rnS_0 (m : Nat) (σ : Sg) (s : Int32) : rnS m 0 σ s = σ := rfl
theorem rnS_succ (m n : Nat) (σ : Sg) (s : Int32) : rnS m (n + 1) σ s = rnS m n (stp1 σ (pik m (lcg s))) (lcg s) := rnG_succ stp1 lcg (pik m) n σ s
theorem pik_lt {m : Nat} (hm : 2 ≤ m) (s : Int32) : pik m s < m := Nat.mod_lt _ (by omega)
theorem pik_eq {m : Nat} (hm : 2 ≤ m ∧ m ≤ 16) (s : Int32) : (s.toUInt32 >>> ((16 : Int32).toUInt32 &&& Int32.toUInt32 31)).toInt32 - (s.toUInt32 >>> ((16 : Int32).toUInt32 &&& Int32.toUInt32 31)).toInt32 / nI m * nI m = nI (pik m s) := by
  have e1 : (s.toUInt32 >>> ((16 : Int32).toUInt32 &&& Int32.toUInt32 31)).toInt32.toBitVec.toNat = s.toBitVec.toNat / 2 ^ 16 := pk_ushr s 16 16 (by decide)
  have hlt : s.toBitVec.toNat / 2 ^ 16 < 65536 := by have := s.toBitVec.isLt; omega
  have e2 : (s.toUInt32 >>> ((16 : Int32).toUInt32 &&& Int32.toUInt32 31)).toInt32 = nI (s.toBitVec.toNat / 2 ^ 16) := by
    apply Int32.toBitVec_inj.mp
    apply BitVec.eq_of_toNat_eq
    rw [e1, pk_tn (by omega)]
  rw [e2, pk_rem (by omega) (by omega) (by omega)]
  rfl
theorem G_post {E : Ev} {M : MD} {R : Room} {P Q : Option Value → Hp → Prop} {pc : Nat} {L : List (Option Value)} {st : List Value} {h : Hp} {ac as : Nat} (hPQ : ∀ v h', P v h' → Q v h') (k : G E M R P pc L st h ac as) : G E M R Q pc L st h ac as := by
  intro p e s m args below meth c H locs cells slots ls C hH hS hL h1 h2 T hT X
  obtain ⟨t, a1, o, b1, b2, ⟨v, h', d1, d2, d3⟩, b4⟩ := k p e s m args below meth c H locs cells slots ls C hH hS hL h1 h2 T hT X
  exact ⟨t, a1, o, b1, b2, ⟨v, h', d1, hPQ v h' d2, d3⟩, b4⟩
set_option maxHeartbeats 4000000 in
set_option maxRecDepth 100000 in
theorem lpi_X7_unmet {E : Ev} {m : Nat} {σ : Sg} {τ : Tu} {h : Hp} (hR : RR E m σ τ h)  (hgc : ∀ p, p < m → ∃ g, σ.1 326 p = nI g ∧ g ≤ 8) {a : Nat} (ha : a < m) : ∀ (r b : Nat) (s : Int32), b + r = m → G E mX7_unmet (rk 3 0 0) (fun v h' => v = some (.int (uO σ m m 0 0)) ∧ h' = h) 53 [some (.ref (aX E)), some (.int (ctA (uB σ a) r b s)), some (.int (nI a)), none] [] h 0 0 → G E mX7_unmet (rk 3 0 0) (fun v h' => v = some (.int (uO σ m m 0 0)) ∧ h' = h) 17 [some (.ref (aX E)), some (.int s), some (.int (nI a)), some (.int (nI b))] [] h 0 0 := by
  intro r
  induction r with
  | zero =>
    intro b s hb hk
    have hm := hR.1.1
    refine G_iload_n 18 rfl rfl dX7_unmet_17 ?_
    refine G_aload_n 19 rfl rfl dX7_unmet_18 ?_
    refine G_x0 22 rfl hR fl_X7_20 dX7_unmet_19 ?_
    refine G_lenPA 23 rfl hR dX7_unmet_22 ?_
    refine G_icmpT_ge 53 (nI_le (by omega) (by omega)) (by decide) dX7_unmet_23 ?_
    refine G_lw [some (.ref (aX E)), some (.int s), some (.int (nI a)), none] (by intro x y hx; rcases x with _ | _ | _ | _ | x <;> first | exact hx | cases hx) ?_
    exact hk
  | succ r ih =>
    intro b s hb hk
    have hm := hR.1.1
    refine G_iload_n 18 rfl rfl dX7_unmet_17 ?_
    refine G_aload_n 19 rfl rfl dX7_unmet_18 ?_
    refine G_x0 22 rfl hR fl_X7_20 dX7_unmet_19 ?_
    refine G_lenPA 23 rfl hR dX7_unmet_22 ?_
    refine G_icmpF_ge 26 rfl (nI_ge (by omega) (by omega)) ⟨53, by decide⟩ dX7_unmet_23 ?_
    refine G_aload_n 27 rfl rfl dX7_unmet_26 ?_
    refine G_x0 30 rfl hR fl_X7_20 dX7_unmet_27 ?_
    refine G_iload_n 31 rfl rfl dX7_unmet_30 ?_
    refine G_procs 32 rfl hR (p := a) rfl (show a < m by omega) dX7_unmet_31 ?_
    refine G_aload_n 33 rfl rfl dX7_unmet_32 ?_
    refine G_x0 36 rfl hR fl_X7_20 dX7_unmet_33 ?_
    refine G_iload_n 37 rfl rfl dX7_unmet_36 ?_
    refine G_procs 38 rfl hR (p := b) rfl (show b < m by omega) dX7_unmet_37 ?_
    obtain ⟨ga, hga, hga8⟩ := hgc a (by omega)
    obtain ⟨gb, hgb, hgb8⟩ := hgc b (by omega)
    have ega : cN (σ.1 326 a) = ga := by rw [hga]; exact cN_nI (by omega)
    have egb : cN (σ.1 326 b) = gb := by rw [hgb]; exact cN_nI (by omega)
    refine G_callS 41 rfl [.ref (aP E a), .ref (aP E b)] (c_X7_sleepUnmet hR (show a < m by omega) (show b < m by omega) hga hga8 hgb hgb8) ok_X7_sleepUnmet os_X7_sleepUnmet ml_X7_137 rfl ⟨by decide, by decide⟩ rfl rfl (Nat.le_of_ble_eq_true rfl) rfl dX7_unmet_38 ?_
    rintro v h' ⟨⟨hs, rfl⟩ | ⟨hs, rfl⟩, rfl⟩
    all_goals rw [← ega, ← egb] at hs
    · skip
      refine G_ifF_eq 44 rfl (by decide) ⟨47, by decide⟩ dX7_unmet_41 ?_
      refine G_iinc 47 rfl (s + 1) rfl (rfl) (by decide) dX7_unmet_44 ?_
      refine G_iinc 50 rfl (nI (b + 1)) rfl (inc1 b) (by decide) dX7_unmet_47 ?_
      refine G_goto 17 (by decide) dX7_unmet_50 ?_
      exact ih (b + 1) _ (by omega) (by rw [ctA_succ, if_pos (uB_t hs)] at hk; exact hk)
    · skip
      refine G_ifT_eq 47 (by decide) (by decide) dX7_unmet_41 ?_
      refine G_iinc 50 rfl (nI (b + 1)) rfl (inc1 b) (by decide) dX7_unmet_47 ?_
      refine G_goto 17 (by decide) dX7_unmet_50 ?_
      exact ih (b + 1) _ (by omega) (by rw [ctA_succ, if_neg (uB_f hs)] at hk; exact hk)
set_option maxHeartbeats 4000000 in
set_option maxRecDepth 100000 in
theorem lpo_X7_unmet {E : Ev} {m : Nat} {σ : Sg} {τ : Tu} {h : Hp} (hR : RR E m σ τ h)  (hgc : ∀ p, p < m → ∃ g, σ.1 326 p = nI g ∧ g ≤ 8) : ∀ (r a : Nat) (s : Int32), a + r = m → uO σ m r a s = uO σ m m 0 0 → G E mX7_unmet (rk 3 0 0) (fun v h' => v = some (.int (uO σ m m 0 0)) ∧ h' = h) 4 [some (.ref (aX E)), some (.int s), some (.int (nI a)), none] [] h 0 0 := by
  intro r
  induction r with
  | zero =>
    intro a s ha hv
    have hm := hR.1.1
    refine G_iload_n 5 rfl rfl dX7_unmet_4 ?_
    refine G_aload_n 6 rfl rfl dX7_unmet_5 ?_
    refine G_x0 9 rfl hR fl_X7_20 dX7_unmet_6 ?_
    refine G_lenPA 10 rfl hR dX7_unmet_9 ?_
    refine G_icmpT_ge 59 (nI_le (by omega) (by omega)) (by decide) dX7_unmet_10 ?_
    refine G_iload_n 60 rfl rfl dX7_unmet_59 ?_
    refine G_iret (ty := .int) rfl rfl ?_ dX7_unmet_60
    exact ⟨by rw [← hv]; rfl, rfl⟩
  | succ r ih =>
    intro a s ha hv
    have hm := hR.1.1
    refine G_iload_n 5 rfl rfl dX7_unmet_4 ?_
    refine G_aload_n 6 rfl rfl dX7_unmet_5 ?_
    refine G_x0 9 rfl hR fl_X7_20 dX7_unmet_6 ?_
    refine G_lenPA 10 rfl hR dX7_unmet_9 ?_
    refine G_icmpF_ge 13 rfl (nI_ge (by omega) (by omega)) ⟨59, by decide⟩ dX7_unmet_10 ?_
    refine G_iload_n 14 rfl rfl dX7_unmet_13 ?_
    refine G_iconst 15 rfl (1) (by decide) dX7_unmet_14 ?_
    refine G_iadd 16 rfl dX7_unmet_15 ?_
    rw [nI_1]
    refine G_istore_n 17 rfl (by decide) dX7_unmet_16 ?_
    refine lpi_X7_unmet hR hgc (show a < m by omega) (m - (a + 1)) (a + 1) s (by omega) ?_
    refine G_iinc 56 rfl (nI (a + 1)) rfl (inc1 a) (by decide) dX7_unmet_53 ?_
    refine G_goto 4 (by decide) dX7_unmet_56 ?_
    exact ih (a + 1) _ (by omega) (by rw [← hv, uO_succ])

set_option maxHeartbeats 4000000 in
set_option maxRecDepth 100000 in
theorem c_X7_unmet {E : Ev} {m : Nat} {σ : Sg} {τ : Tu} {h : Hp} (hR : RR E m σ τ h)  (hgc : ∀ p, p < m → ∃ g, σ.1 326 p = nI g ∧ g ≤ 8) : Cn E mX7_unmet (rk 3 0 0) h [.ref (aX E)] (fun v h' => v = some (.int (uO σ m m 0 0)) ∧ h' = h) := by
  refine Cn_of (by decide) rfl (by simp [Value.category]) (Nat.le_of_ble_eq_true rfl) ?_
  refine G_iconst 1 rfl (0) (by decide) dX7_unmet_0 ?_
  refine G_istore_n 2 rfl (by decide) dX7_unmet_1 ?_
  refine G_iconst 3 rfl (0) (by decide) dX7_unmet_2 ?_
  refine G_istore_n 4 rfl (by decide) dX7_unmet_3 ?_
  refine G_lw [some (.ref (aX E)), some (.int 0), some (.int (nI 0)), none] (by intro x y hx; rcases x with _ | _ | _ | _ | x <;> first | exact hx | cases hx) ?_
  exact lpo_X7_unmet hR hgc m 0 0 (by omega) rfl

set_option maxHeartbeats 4000000 in
set_option maxRecDepth 100000 in
theorem c_X7_access0 {E : Ev} {m : Nat} {σ : Sg} {τ : Tu} {h : Hp} (hR : RR E m σ τ h) {p : Nat} (hp : p < m) (h2 : ¬ σ.1 325 p < 2) (h11 : ¬ 11 < σ.1 325 p) (hAO : AO m σ p) (hnp : σ.1 325 p = 2 → ¬ σ.1 328 p = -1 ∧ ¬ σ.1 451 0 < σ.1 328 p) : Cn E mX7_access (rk 4 0 0) h [.ref (aX E), .ref (aP E p)] (fun v h' => v = none ∧ RR E m (acc σ p) τ h') := by
  refine Cn_of (by decide) rfl (by simp [Value.category]) (Nat.le_of_ble_eq_true rfl) ?_
  have hm := hR.1.1
  refine G_aload_n 1 rfl rfl dX7_access_0 ?_
  refine G_dup 2 rfl rfl dX7_access_1 ?_
  refine G_gi 5 rfl hR 7 4 0 452 (σ.1 452 0) fl_X7_147 rfl rfl rfl rfl rfl dX7_access_2 ?_
  refine G_iconst 6 rfl (1) (by decide) dX7_access_5 ?_
  refine G_iadd 7 rfl dX7_access_6 ?_
  refine G_pi 10 rfl hR 7 4 0 452 fl_X7_147 rfl rfl ⟨rfl, rfl⟩ rfl rfl dX7_access_7 (fun h hR => ?_)
  have hnp : (up σ 452 0 (σ.1 452 0 + 1)).1 325 p = 2 → ¬ (up σ 452 0 (σ.1 452 0 + 1)).1 328 p = -1 ∧ ¬ (up σ 452 0 (σ.1 452 0 + 1)).1 451 0 < (up σ 452 0 (σ.1 452 0 + 1)).1 328 p := hnp
  have hAO : AO m (up σ 452 0 (σ.1 452 0 + 1)) p := hAO
  have hph1 : ¬ (up σ 452 0 (σ.1 452 0 + 1)).1 325 p < 2 := h2
  have hph2 : ¬ 11 < (up σ 452 0 (σ.1 452 0 + 1)).1 325 p := h11
  unfold acc
  generalize up σ 452 0 (σ.1 452 0 + 1) = σ1 at hR hAO hph1 hph2 hnp ⊢
  obtain ⟨g, w, z, ⟨hg, hg8⟩, ⟨hw, hwl⟩, ⟨hz, hzb⟩, hnp0, hA1, hA2, hA3⟩ := hAO
  refine G_aload_n 11 rfl rfl dX7_access_10 ?_
  refine G_aload_n 12 rfl rfl dX7_access_11 ?_
  refine G_gi 15 rfl hR 7 3 0 451 (σ1.1 451 0) fl_X7_72 rfl rfl rfl rfl rfl dX7_access_12 ?_
  refine G_callV 18 rfl [.int (σ1.1 451 0)] (c_X5_isDue hR hp (σ1.1 451 0)) ok_X5_isDue ov_X5_isDue ml_X7_167 (hR.ob (ci := 5) (i := p) (by decide) hp) ⟨by decide, rfl⟩ rfl ⟨by decide, by decide⟩ rfl rfl (Nat.le_of_ble_eq_true rfl) rfl dX7_access_15 ?_
  rintro v h' ⟨⟨hs, rfl⟩ | ⟨hs, rfl⟩, rfl⟩
  · skip
    refine G_ifF_eq 21 rfl (by decide) ⟨34, by decide⟩ dX7_access_18 ?_
    refine G_aload_n 22 rfl rfl dX7_access_21 ?_
    refine G_callV 25 rfl [] (c_X5_heedsTime hR hp) ok_X5_heedsTime ov_X5_heedsTime ml_X7_171 (hR.ob (ci := 5) (i := p) (by decide) hp) ⟨by decide, rfl⟩ rfl ⟨by decide, by decide⟩ rfl rfl (Nat.le_of_ble_eq_true rfl) rfl dX7_access_22 ?_
    rintro v h' ⟨⟨ht, rfl⟩ | ⟨ht, rfl⟩, rfl⟩
    · skip
      refine G_ifF_eq 28 rfl (by decide) ⟨34, by decide⟩ dX7_access_25 ?_
      refine G_aload_n 29 rfl rfl dX7_access_28 ?_
      refine G_aload_n 30 rfl rfl dX7_access_29 ?_
      refine G_callV 33 rfl [.ref (aP E p)] (c_X7_runOutOfTime hR hp hw hwl) ok_X7_runOutOfTime ov_X7_runOutOfTime ml_X7_174 (hR.ob (ci := 7) (i := 0) (by decide) rfl) ⟨by decide, rfl⟩ rfl ⟨by decide, by decide⟩ rfl rfl (Nat.le_of_ble_eq_true rfl) rfl dX7_access_30 ?_
      rintro v h ⟨rfl, hR⟩
      refine G_ret rfl ?_ dX7_access_33
      refine ⟨rfl, ?_⟩
      unfold acc1
      rw [if_pos ⟨hs, ht⟩]
      exact hR
    · skip
      refine G_ifT_eq 34 (by decide) (by decide) dX7_access_25 ?_
      refine G_aload_n 35 rfl rfl dX7_access_34 ?_
      refine G_gi 38 rfl hR 5 5 p 325 (σ1.1 325 p) fl_X7_48 hp rfl rfl rfl rfl dX7_access_35 ?_
      by_cases k38_2 : σ1.1 325 p = 2
      · refine G_tableIn 92 dX7_access_38 (by rw [k38_2]; decide) (by rw [k38_2]; decide) (off := 54) (by rw [k38_2]; rfl) (by decide) ?_
        refine G_aload_n 93 rfl rfl dX7_access_92 ?_
        refine G_aload_n 94 rfl rfl dX7_access_93 ?_
        exfalso
        have hd := hnp k38_2
        first | exact hs hd | exact ht (Or.inl k38_2)
      · skip
        by_cases k38_3 : σ1.1 325 p = 3
        · refine G_tableIn 100 dX7_access_38 (by rw [k38_3]; decide) (by rw [k38_3]; decide) (off := 62) (by rw [k38_3]; rfl) (by decide) ?_
          refine G_aload_n 101 rfl rfl dX7_access_100 ?_
          refine G_aload_n 102 rfl rfl dX7_access_101 ?_
          obtain ⟨j, c, hjg, hj, hch, hc, hv, hpb⟩ := hA1 (by rw [k38_3]; decide)
          have ej : atN σ1 p = j := by unfold atN; rw [hj]; exact cN_nI (by omega)
          have ec : chN σ1 p = c := by unfold chN; rw [ej, hch]; exact cN_nI (by omega)
          refine G_callV 105 rfl [.ref (aP E p)] (c_X7_lookOn hR hp hg hg8 hj hjg hch hc hv) ok_X7_lookOn ov_X7_lookOn ml_X7_180 (hR.ob (ci := 7) (i := 0) (by decide) rfl) ⟨by decide, rfl⟩ rfl ⟨by decide, by decide⟩ rfl rfl (Nat.le_of_ble_eq_true rfl) rfl dX7_access_102 ?_
          rintro v h ⟨rfl, hR⟩
          refine G_goto 135 (by decide) dX7_access_105 ?_
          refine G_ret rfl ?_ dX7_access_135
          refine ⟨rfl, ?_⟩
          unfold acc1
          rw [if_neg (by first | exact fun z => hs z.1 | exact fun z => ht z.2)]
          unfold phS
          rw [if_neg k38_2, if_pos k38_3, ej, ec]
          exact hR
        · skip
          by_cases k38_4 : σ1.1 325 p = 4
          · refine G_tableIn 130 dX7_access_38 (by rw [k38_4]; decide) (by rw [k38_4]; decide) (off := 92) (by rw [k38_4]; rfl) (by decide) ?_
            refine G_aload_n 131 rfl rfl dX7_access_130 ?_
            refine G_aload_n 132 rfl rfl dX7_access_131 ?_
            have hk : ∃ k : Int32, σ1.1 325 p = k ∧ (k = 4 ∨ k = 5 ∨ k = 6 ∨ k = 7 ∨ k = 8) := by
              first
              | exact ⟨4, k38_4, Or.inl rfl⟩
              | exact ⟨5, k38_5, Or.inr (Or.inl rfl)⟩
              | exact ⟨6, k38_6, Or.inr (Or.inr (Or.inl rfl))⟩
              | exact ⟨7, k38_7, Or.inr (Or.inr (Or.inr (Or.inl rfl)))⟩
              | exact ⟨8, k38_8, Or.inr (Or.inr (Or.inr (Or.inr rfl)))⟩
            obtain ⟨k, kk, hkk⟩ := hk
            obtain ⟨j, c, hjg, hj, hch, hc, hv, hpb⟩ := hA1 (by rw [kk]; rcases hkk with rfl | rfl | rfl | rfl | rfl <;> decide)
            obtain ⟨n, q, hmet, hn, hq0, hq⟩ := hA2 (by rw [kk]; rcases hkk with rfl | rfl | rfl | rfl | rfl <;> decide)
            have ej : atN σ1 p = j := by unfold atN; rw [hj]; exact cN_nI (by omega)
            refine G_callV 135 rfl [.ref (aP E p)] (c_X7_accessToMeet hR hp hg hg8 hj hjg hw hwl hz hzb hmet hn hq0 hq (by rw [kk]; exact hkk)) ok_X7_accessToMeet ov_X7_accessToMeet ml_X7_192 (hR.ob (ci := 7) (i := 0) (by decide) rfl) ⟨by decide, rfl⟩ rfl ⟨by decide, by decide⟩ rfl rfl (Nat.le_of_ble_eq_true rfl) rfl dX7_access_132 ?_
            rintro v h ⟨rfl, hR⟩
            refine G_ret rfl ?_ dX7_access_135
            refine ⟨rfl, ?_⟩
            unfold acc1
            rw [if_neg (by first | exact fun z => hs z.1 | exact fun z => ht z.2)]
            unfold phS
            rw [if_neg (by rw [kk]; rcases hkk with rfl | rfl | rfl | rfl | rfl <;> decide), if_neg (by rw [kk]; rcases hkk with rfl | rfl | rfl | rfl | rfl <;> decide), if_neg (by rw [kk]; rcases hkk with rfl | rfl | rfl | rfl | rfl <;> decide), if_neg (by rw [kk]; rcases hkk with rfl | rfl | rfl | rfl | rfl <;> decide), if_neg (by rw [kk]; rcases hkk with rfl | rfl | rfl | rfl | rfl <;> decide), ej]
            unfold meN
            rw [hmet]
            show RR E m (meet σ1 p (cN (σ1.1 0 n)) n (8 * p + j)) τ h
            rw [hq0, cN_nI (by omega)]
            exact hR
          · skip
            by_cases k38_5 : σ1.1 325 p = 5
            · refine G_tableIn 130 dX7_access_38 (by rw [k38_5]; decide) (by rw [k38_5]; decide) (off := 92) (by rw [k38_5]; rfl) (by decide) ?_
              refine G_aload_n 131 rfl rfl dX7_access_130 ?_
              refine G_aload_n 132 rfl rfl dX7_access_131 ?_
              have hk : ∃ k : Int32, σ1.1 325 p = k ∧ (k = 4 ∨ k = 5 ∨ k = 6 ∨ k = 7 ∨ k = 8) := by
                first
                | exact ⟨4, k38_4, Or.inl rfl⟩
                | exact ⟨5, k38_5, Or.inr (Or.inl rfl)⟩
                | exact ⟨6, k38_6, Or.inr (Or.inr (Or.inl rfl))⟩
                | exact ⟨7, k38_7, Or.inr (Or.inr (Or.inr (Or.inl rfl)))⟩
                | exact ⟨8, k38_8, Or.inr (Or.inr (Or.inr (Or.inr rfl)))⟩
              obtain ⟨k, kk, hkk⟩ := hk
              obtain ⟨j, c, hjg, hj, hch, hc, hv, hpb⟩ := hA1 (by rw [kk]; rcases hkk with rfl | rfl | rfl | rfl | rfl <;> decide)
              obtain ⟨n, q, hmet, hn, hq0, hq⟩ := hA2 (by rw [kk]; rcases hkk with rfl | rfl | rfl | rfl | rfl <;> decide)
              have ej : atN σ1 p = j := by unfold atN; rw [hj]; exact cN_nI (by omega)
              refine G_callV 135 rfl [.ref (aP E p)] (c_X7_accessToMeet hR hp hg hg8 hj hjg hw hwl hz hzb hmet hn hq0 hq (by rw [kk]; exact hkk)) ok_X7_accessToMeet ov_X7_accessToMeet ml_X7_192 (hR.ob (ci := 7) (i := 0) (by decide) rfl) ⟨by decide, rfl⟩ rfl ⟨by decide, by decide⟩ rfl rfl (Nat.le_of_ble_eq_true rfl) rfl dX7_access_132 ?_
              rintro v h ⟨rfl, hR⟩
              refine G_ret rfl ?_ dX7_access_135
              refine ⟨rfl, ?_⟩
              unfold acc1
              rw [if_neg (by first | exact fun z => hs z.1 | exact fun z => ht z.2)]
              unfold phS
              rw [if_neg (by rw [kk]; rcases hkk with rfl | rfl | rfl | rfl | rfl <;> decide), if_neg (by rw [kk]; rcases hkk with rfl | rfl | rfl | rfl | rfl <;> decide), if_neg (by rw [kk]; rcases hkk with rfl | rfl | rfl | rfl | rfl <;> decide), if_neg (by rw [kk]; rcases hkk with rfl | rfl | rfl | rfl | rfl <;> decide), if_neg (by rw [kk]; rcases hkk with rfl | rfl | rfl | rfl | rfl <;> decide), ej]
              unfold meN
              rw [hmet]
              show RR E m (meet σ1 p (cN (σ1.1 0 n)) n (8 * p + j)) τ h
              rw [hq0, cN_nI (by omega)]
              exact hR
            · skip
              by_cases k38_6 : σ1.1 325 p = 6
              · refine G_tableIn 130 dX7_access_38 (by rw [k38_6]; decide) (by rw [k38_6]; decide) (off := 92) (by rw [k38_6]; rfl) (by decide) ?_
                refine G_aload_n 131 rfl rfl dX7_access_130 ?_
                refine G_aload_n 132 rfl rfl dX7_access_131 ?_
                have hk : ∃ k : Int32, σ1.1 325 p = k ∧ (k = 4 ∨ k = 5 ∨ k = 6 ∨ k = 7 ∨ k = 8) := by
                  first
                  | exact ⟨4, k38_4, Or.inl rfl⟩
                  | exact ⟨5, k38_5, Or.inr (Or.inl rfl)⟩
                  | exact ⟨6, k38_6, Or.inr (Or.inr (Or.inl rfl))⟩
                  | exact ⟨7, k38_7, Or.inr (Or.inr (Or.inr (Or.inl rfl)))⟩
                  | exact ⟨8, k38_8, Or.inr (Or.inr (Or.inr (Or.inr rfl)))⟩
                obtain ⟨k, kk, hkk⟩ := hk
                obtain ⟨j, c, hjg, hj, hch, hc, hv, hpb⟩ := hA1 (by rw [kk]; rcases hkk with rfl | rfl | rfl | rfl | rfl <;> decide)
                obtain ⟨n, q, hmet, hn, hq0, hq⟩ := hA2 (by rw [kk]; rcases hkk with rfl | rfl | rfl | rfl | rfl <;> decide)
                have ej : atN σ1 p = j := by unfold atN; rw [hj]; exact cN_nI (by omega)
                refine G_callV 135 rfl [.ref (aP E p)] (c_X7_accessToMeet hR hp hg hg8 hj hjg hw hwl hz hzb hmet hn hq0 hq (by rw [kk]; exact hkk)) ok_X7_accessToMeet ov_X7_accessToMeet ml_X7_192 (hR.ob (ci := 7) (i := 0) (by decide) rfl) ⟨by decide, rfl⟩ rfl ⟨by decide, by decide⟩ rfl rfl (Nat.le_of_ble_eq_true rfl) rfl dX7_access_132 ?_
                rintro v h ⟨rfl, hR⟩
                refine G_ret rfl ?_ dX7_access_135
                refine ⟨rfl, ?_⟩
                unfold acc1
                rw [if_neg (by first | exact fun z => hs z.1 | exact fun z => ht z.2)]
                unfold phS
                rw [if_neg (by rw [kk]; rcases hkk with rfl | rfl | rfl | rfl | rfl <;> decide), if_neg (by rw [kk]; rcases hkk with rfl | rfl | rfl | rfl | rfl <;> decide), if_neg (by rw [kk]; rcases hkk with rfl | rfl | rfl | rfl | rfl <;> decide), if_neg (by rw [kk]; rcases hkk with rfl | rfl | rfl | rfl | rfl <;> decide), if_neg (by rw [kk]; rcases hkk with rfl | rfl | rfl | rfl | rfl <;> decide), ej]
                unfold meN
                rw [hmet]
                show RR E m (meet σ1 p (cN (σ1.1 0 n)) n (8 * p + j)) τ h
                rw [hq0, cN_nI (by omega)]
                exact hR
              · skip
                by_cases k38_7 : σ1.1 325 p = 7
                · refine G_tableIn 130 dX7_access_38 (by rw [k38_7]; decide) (by rw [k38_7]; decide) (off := 92) (by rw [k38_7]; rfl) (by decide) ?_
                  refine G_aload_n 131 rfl rfl dX7_access_130 ?_
                  refine G_aload_n 132 rfl rfl dX7_access_131 ?_
                  have hk : ∃ k : Int32, σ1.1 325 p = k ∧ (k = 4 ∨ k = 5 ∨ k = 6 ∨ k = 7 ∨ k = 8) := by
                    first
                    | exact ⟨4, k38_4, Or.inl rfl⟩
                    | exact ⟨5, k38_5, Or.inr (Or.inl rfl)⟩
                    | exact ⟨6, k38_6, Or.inr (Or.inr (Or.inl rfl))⟩
                    | exact ⟨7, k38_7, Or.inr (Or.inr (Or.inr (Or.inl rfl)))⟩
                    | exact ⟨8, k38_8, Or.inr (Or.inr (Or.inr (Or.inr rfl)))⟩
                  obtain ⟨k, kk, hkk⟩ := hk
                  obtain ⟨j, c, hjg, hj, hch, hc, hv, hpb⟩ := hA1 (by rw [kk]; rcases hkk with rfl | rfl | rfl | rfl | rfl <;> decide)
                  obtain ⟨n, q, hmet, hn, hq0, hq⟩ := hA2 (by rw [kk]; rcases hkk with rfl | rfl | rfl | rfl | rfl <;> decide)
                  have ej : atN σ1 p = j := by unfold atN; rw [hj]; exact cN_nI (by omega)
                  refine G_callV 135 rfl [.ref (aP E p)] (c_X7_accessToMeet hR hp hg hg8 hj hjg hw hwl hz hzb hmet hn hq0 hq (by rw [kk]; exact hkk)) ok_X7_accessToMeet ov_X7_accessToMeet ml_X7_192 (hR.ob (ci := 7) (i := 0) (by decide) rfl) ⟨by decide, rfl⟩ rfl ⟨by decide, by decide⟩ rfl rfl (Nat.le_of_ble_eq_true rfl) rfl dX7_access_132 ?_
                  rintro v h ⟨rfl, hR⟩
                  refine G_ret rfl ?_ dX7_access_135
                  refine ⟨rfl, ?_⟩
                  unfold acc1
                  rw [if_neg (by first | exact fun z => hs z.1 | exact fun z => ht z.2)]
                  unfold phS
                  rw [if_neg (by rw [kk]; rcases hkk with rfl | rfl | rfl | rfl | rfl <;> decide), if_neg (by rw [kk]; rcases hkk with rfl | rfl | rfl | rfl | rfl <;> decide), if_neg (by rw [kk]; rcases hkk with rfl | rfl | rfl | rfl | rfl <;> decide), if_neg (by rw [kk]; rcases hkk with rfl | rfl | rfl | rfl | rfl <;> decide), if_neg (by rw [kk]; rcases hkk with rfl | rfl | rfl | rfl | rfl <;> decide), ej]
                  unfold meN
                  rw [hmet]
                  show RR E m (meet σ1 p (cN (σ1.1 0 n)) n (8 * p + j)) τ h
                  rw [hq0, cN_nI (by omega)]
                  exact hR
                · skip
                  by_cases k38_8 : σ1.1 325 p = 8
                  · refine G_tableIn 130 dX7_access_38 (by rw [k38_8]; decide) (by rw [k38_8]; decide) (off := 92) (by rw [k38_8]; rfl) (by decide) ?_
                    refine G_aload_n 131 rfl rfl dX7_access_130 ?_
                    refine G_aload_n 132 rfl rfl dX7_access_131 ?_
                    have hk : ∃ k : Int32, σ1.1 325 p = k ∧ (k = 4 ∨ k = 5 ∨ k = 6 ∨ k = 7 ∨ k = 8) := by
                      first
                      | exact ⟨4, k38_4, Or.inl rfl⟩
                      | exact ⟨5, k38_5, Or.inr (Or.inl rfl)⟩
                      | exact ⟨6, k38_6, Or.inr (Or.inr (Or.inl rfl))⟩
                      | exact ⟨7, k38_7, Or.inr (Or.inr (Or.inr (Or.inl rfl)))⟩
                      | exact ⟨8, k38_8, Or.inr (Or.inr (Or.inr (Or.inr rfl)))⟩
                    obtain ⟨k, kk, hkk⟩ := hk
                    obtain ⟨j, c, hjg, hj, hch, hc, hv, hpb⟩ := hA1 (by rw [kk]; rcases hkk with rfl | rfl | rfl | rfl | rfl <;> decide)
                    obtain ⟨n, q, hmet, hn, hq0, hq⟩ := hA2 (by rw [kk]; rcases hkk with rfl | rfl | rfl | rfl | rfl <;> decide)
                    have ej : atN σ1 p = j := by unfold atN; rw [hj]; exact cN_nI (by omega)
                    refine G_callV 135 rfl [.ref (aP E p)] (c_X7_accessToMeet hR hp hg hg8 hj hjg hw hwl hz hzb hmet hn hq0 hq (by rw [kk]; exact hkk)) ok_X7_accessToMeet ov_X7_accessToMeet ml_X7_192 (hR.ob (ci := 7) (i := 0) (by decide) rfl) ⟨by decide, rfl⟩ rfl ⟨by decide, by decide⟩ rfl rfl (Nat.le_of_ble_eq_true rfl) rfl dX7_access_132 ?_
                    rintro v h ⟨rfl, hR⟩
                    refine G_ret rfl ?_ dX7_access_135
                    refine ⟨rfl, ?_⟩
                    unfold acc1
                    rw [if_neg (by first | exact fun z => hs z.1 | exact fun z => ht z.2)]
                    unfold phS
                    rw [if_neg (by rw [kk]; rcases hkk with rfl | rfl | rfl | rfl | rfl <;> decide), if_neg (by rw [kk]; rcases hkk with rfl | rfl | rfl | rfl | rfl <;> decide), if_neg (by rw [kk]; rcases hkk with rfl | rfl | rfl | rfl | rfl <;> decide), if_neg (by rw [kk]; rcases hkk with rfl | rfl | rfl | rfl | rfl <;> decide), if_neg (by rw [kk]; rcases hkk with rfl | rfl | rfl | rfl | rfl <;> decide), ej]
                    unfold meN
                    rw [hmet]
                    show RR E m (meet σ1 p (cN (σ1.1 0 n)) n (8 * p + j)) τ h
                    rw [hq0, cN_nI (by omega)]
                    exact hR
                  · skip
                    by_cases k38_9 : σ1.1 325 p = 9
                    · refine G_tableIn 108 dX7_access_38 (by rw [k38_9]; decide) (by rw [k38_9]; decide) (off := 70) (by rw [k38_9]; rfl) (by decide) ?_
                      refine G_aload_n 109 rfl rfl dX7_access_108 ?_
                      refine G_callV 112 rfl [] (c_X5_endLooking hR hp hg hg8 hw hwl) ok_X5_endLooking ov_X5_endLooking ml_X7_183 (hR.ob (ci := 5) (i := p) (by decide) hp) ⟨by decide, rfl⟩ rfl ⟨by decide, by decide⟩ rfl rfl (Nat.le_of_ble_eq_true rfl) rfl dX7_access_109 ?_
                      rintro v h ⟨rfl, hR⟩
                      have hR : RR E m (endL σ1 p) τ h := by
                        unfold endL
                        rcases hR with ⟨x1, x2⟩ | ⟨x1, x2, x3⟩ | ⟨x1, x2, x3⟩
                        · rw [if_pos x1]; exact x2
                        · rw [if_neg x1, if_neg x2]; exact x3
                        · rw [if_neg x1, if_pos x2]; exact x3
                      refine G_goto 135 (by decide) dX7_access_112 ?_
                      refine G_ret rfl ?_ dX7_access_135
                      refine ⟨rfl, ?_⟩
                      unfold acc1
                      rw [if_neg (by first | exact fun z => hs z.1 | exact fun z => ht z.2)]
                      unfold phS
                      rw [if_neg k38_2, if_neg k38_3, if_pos k38_9]
                      exact hR
                    · skip
                      by_cases k38_10 : σ1.1 325 p = 10
                      · refine G_tableIn 115 dX7_access_38 (by rw [k38_10]; decide) (by rw [k38_10]; decide) (off := 77) (by rw [k38_10]; rfl) (by decide) ?_
                        refine G_aload_n 116 rfl rfl dX7_access_115 ?_
                        refine G_callV 119 rfl [] (c_X5_wakeIfSettled hR hp hw hwl) ok_X5_wakeIfSettled ov_X5_wakeIfSettled ml_X7_186 (hR.ob (ci := 5) (i := p) (by decide) hp) ⟨by decide, rfl⟩ rfl ⟨by decide, by decide⟩ rfl rfl (Nat.le_of_ble_eq_true rfl) rfl dX7_access_116 ?_
                        rintro v h ⟨rfl, hR⟩
                        have hR : RR E m (wake σ1 p) τ h := by
                          unfold wake
                          rcases hR with ⟨x1, x2⟩ | ⟨x1, x2⟩
                          · rw [if_pos x1]; exact x2
                          · rw [if_neg x1]; exact x2
                        refine G_goto 135 (by decide) dX7_access_119 ?_
                        refine G_ret rfl ?_ dX7_access_135
                        refine ⟨rfl, ?_⟩
                        unfold acc1
                        rw [if_neg (by first | exact fun z => hs z.1 | exact fun z => ht z.2)]
                        unfold phS
                        rw [if_neg k38_2, if_neg k38_3, if_neg k38_9, if_pos k38_10]
                        exact hR
                      · skip
                        by_cases k38_11 : σ1.1 325 p = 11
                        · refine G_tableIn 122 dX7_access_38 (by rw [k38_11]; decide) (by rw [k38_11]; decide) (off := 84) (by rw [k38_11]; rfl) (by decide) ?_
                          refine G_aload_n 123 rfl rfl dX7_access_122 ?_
                          refine G_aload_n 124 rfl rfl dX7_access_123 ?_
                          obtain ⟨n, c, hwn, hn, hec, hc, hv⟩ := hA3 k38_11
                          have hl8 := (hR.2.2.1.2.2.2.2.2.2.2 p hp).1
                          have hfe : fE σ1 p = some n := by unfold fE; rw [hw, cN_nI (by omega)]; exact hwn
                          refine G_callV 127 rfl [.ref (aP E p)] (c_X7_withdrawEntry hR hp hw hwn hn hec hc hv) ok_X7_withdrawEntry ov_X7_withdrawEntry ml_X7_189 (hR.ob (ci := 7) (i := 0) (by decide) rfl) ⟨by decide, rfl⟩ rfl ⟨by decide, by decide⟩ rfl rfl (Nat.le_of_ble_eq_true rfl) rfl dX7_access_124 ?_
                          rintro v h ⟨rfl, hR⟩
                          refine G_goto 135 (by decide) dX7_access_127 ?_
                          refine G_ret rfl ?_ dX7_access_135
                          refine ⟨rfl, ?_⟩
                          unfold acc1
                          rw [if_neg (by first | exact fun z => hs z.1 | exact fun z => ht z.2)]
                          unfold phS
                          rw [if_neg k38_2, if_neg k38_3, if_neg k38_9, if_neg k38_10, if_pos k38_11, hfe]
                          show RR E m (wdS σ1 p n (cN (σ1.1 3 n))) τ h
                          rw [hec, cN_nI (by omega)]
                          exact hR
                        · skip
                          exfalso
                          rcases ph_cases hph1 hph2 with x | x | x | x | x | x | x | x | x | x
                          · exact absurd x k38_2
                          · exact absurd x k38_3
                          · exact absurd x k38_4
                          · exact absurd x k38_5
                          · exact absurd x k38_6
                          · exact absurd x k38_7
                          · exact absurd x k38_8
                          · exact absurd x k38_9
                          · exact absurd x k38_10
                          · exact absurd x k38_11
  · skip
    refine G_ifT_eq 34 (by decide) (by decide) dX7_access_18 ?_
    refine G_aload_n 35 rfl rfl dX7_access_34 ?_
    refine G_gi 38 rfl hR 5 5 p 325 (σ1.1 325 p) fl_X7_48 hp rfl rfl rfl rfl dX7_access_35 ?_
    by_cases k38_2 : σ1.1 325 p = 2
    · refine G_tableIn 92 dX7_access_38 (by rw [k38_2]; decide) (by rw [k38_2]; decide) (off := 54) (by rw [k38_2]; rfl) (by decide) ?_
      refine G_aload_n 93 rfl rfl dX7_access_92 ?_
      refine G_aload_n 94 rfl rfl dX7_access_93 ?_
      exfalso
      have hd := hnp k38_2
      first | exact hs hd | exact ht (Or.inl k38_2)
    · skip
      by_cases k38_3 : σ1.1 325 p = 3
      · refine G_tableIn 100 dX7_access_38 (by rw [k38_3]; decide) (by rw [k38_3]; decide) (off := 62) (by rw [k38_3]; rfl) (by decide) ?_
        refine G_aload_n 101 rfl rfl dX7_access_100 ?_
        refine G_aload_n 102 rfl rfl dX7_access_101 ?_
        obtain ⟨j, c, hjg, hj, hch, hc, hv, hpb⟩ := hA1 (by rw [k38_3]; decide)
        have ej : atN σ1 p = j := by unfold atN; rw [hj]; exact cN_nI (by omega)
        have ec : chN σ1 p = c := by unfold chN; rw [ej, hch]; exact cN_nI (by omega)
        refine G_callV 105 rfl [.ref (aP E p)] (c_X7_lookOn hR hp hg hg8 hj hjg hch hc hv) ok_X7_lookOn ov_X7_lookOn ml_X7_180 (hR.ob (ci := 7) (i := 0) (by decide) rfl) ⟨by decide, rfl⟩ rfl ⟨by decide, by decide⟩ rfl rfl (Nat.le_of_ble_eq_true rfl) rfl dX7_access_102 ?_
        rintro v h ⟨rfl, hR⟩
        refine G_goto 135 (by decide) dX7_access_105 ?_
        refine G_ret rfl ?_ dX7_access_135
        refine ⟨rfl, ?_⟩
        unfold acc1
        rw [if_neg (by first | exact fun z => hs z.1 | exact fun z => ht z.2)]
        unfold phS
        rw [if_neg k38_2, if_pos k38_3, ej, ec]
        exact hR
      · skip
        by_cases k38_4 : σ1.1 325 p = 4
        · refine G_tableIn 130 dX7_access_38 (by rw [k38_4]; decide) (by rw [k38_4]; decide) (off := 92) (by rw [k38_4]; rfl) (by decide) ?_
          refine G_aload_n 131 rfl rfl dX7_access_130 ?_
          refine G_aload_n 132 rfl rfl dX7_access_131 ?_
          have hk : ∃ k : Int32, σ1.1 325 p = k ∧ (k = 4 ∨ k = 5 ∨ k = 6 ∨ k = 7 ∨ k = 8) := by
            first
            | exact ⟨4, k38_4, Or.inl rfl⟩
            | exact ⟨5, k38_5, Or.inr (Or.inl rfl)⟩
            | exact ⟨6, k38_6, Or.inr (Or.inr (Or.inl rfl))⟩
            | exact ⟨7, k38_7, Or.inr (Or.inr (Or.inr (Or.inl rfl)))⟩
            | exact ⟨8, k38_8, Or.inr (Or.inr (Or.inr (Or.inr rfl)))⟩
          obtain ⟨k, kk, hkk⟩ := hk
          obtain ⟨j, c, hjg, hj, hch, hc, hv, hpb⟩ := hA1 (by rw [kk]; rcases hkk with rfl | rfl | rfl | rfl | rfl <;> decide)
          obtain ⟨n, q, hmet, hn, hq0, hq⟩ := hA2 (by rw [kk]; rcases hkk with rfl | rfl | rfl | rfl | rfl <;> decide)
          have ej : atN σ1 p = j := by unfold atN; rw [hj]; exact cN_nI (by omega)
          refine G_callV 135 rfl [.ref (aP E p)] (c_X7_accessToMeet hR hp hg hg8 hj hjg hw hwl hz hzb hmet hn hq0 hq (by rw [kk]; exact hkk)) ok_X7_accessToMeet ov_X7_accessToMeet ml_X7_192 (hR.ob (ci := 7) (i := 0) (by decide) rfl) ⟨by decide, rfl⟩ rfl ⟨by decide, by decide⟩ rfl rfl (Nat.le_of_ble_eq_true rfl) rfl dX7_access_132 ?_
          rintro v h ⟨rfl, hR⟩
          refine G_ret rfl ?_ dX7_access_135
          refine ⟨rfl, ?_⟩
          unfold acc1
          rw [if_neg (by first | exact fun z => hs z.1 | exact fun z => ht z.2)]
          unfold phS
          rw [if_neg (by rw [kk]; rcases hkk with rfl | rfl | rfl | rfl | rfl <;> decide), if_neg (by rw [kk]; rcases hkk with rfl | rfl | rfl | rfl | rfl <;> decide), if_neg (by rw [kk]; rcases hkk with rfl | rfl | rfl | rfl | rfl <;> decide), if_neg (by rw [kk]; rcases hkk with rfl | rfl | rfl | rfl | rfl <;> decide), if_neg (by rw [kk]; rcases hkk with rfl | rfl | rfl | rfl | rfl <;> decide), ej]
          unfold meN
          rw [hmet]
          show RR E m (meet σ1 p (cN (σ1.1 0 n)) n (8 * p + j)) τ h
          rw [hq0, cN_nI (by omega)]
          exact hR
        · skip
          by_cases k38_5 : σ1.1 325 p = 5
          · refine G_tableIn 130 dX7_access_38 (by rw [k38_5]; decide) (by rw [k38_5]; decide) (off := 92) (by rw [k38_5]; rfl) (by decide) ?_
            refine G_aload_n 131 rfl rfl dX7_access_130 ?_
            refine G_aload_n 132 rfl rfl dX7_access_131 ?_
            have hk : ∃ k : Int32, σ1.1 325 p = k ∧ (k = 4 ∨ k = 5 ∨ k = 6 ∨ k = 7 ∨ k = 8) := by
              first
              | exact ⟨4, k38_4, Or.inl rfl⟩
              | exact ⟨5, k38_5, Or.inr (Or.inl rfl)⟩
              | exact ⟨6, k38_6, Or.inr (Or.inr (Or.inl rfl))⟩
              | exact ⟨7, k38_7, Or.inr (Or.inr (Or.inr (Or.inl rfl)))⟩
              | exact ⟨8, k38_8, Or.inr (Or.inr (Or.inr (Or.inr rfl)))⟩
            obtain ⟨k, kk, hkk⟩ := hk
            obtain ⟨j, c, hjg, hj, hch, hc, hv, hpb⟩ := hA1 (by rw [kk]; rcases hkk with rfl | rfl | rfl | rfl | rfl <;> decide)
            obtain ⟨n, q, hmet, hn, hq0, hq⟩ := hA2 (by rw [kk]; rcases hkk with rfl | rfl | rfl | rfl | rfl <;> decide)
            have ej : atN σ1 p = j := by unfold atN; rw [hj]; exact cN_nI (by omega)
            refine G_callV 135 rfl [.ref (aP E p)] (c_X7_accessToMeet hR hp hg hg8 hj hjg hw hwl hz hzb hmet hn hq0 hq (by rw [kk]; exact hkk)) ok_X7_accessToMeet ov_X7_accessToMeet ml_X7_192 (hR.ob (ci := 7) (i := 0) (by decide) rfl) ⟨by decide, rfl⟩ rfl ⟨by decide, by decide⟩ rfl rfl (Nat.le_of_ble_eq_true rfl) rfl dX7_access_132 ?_
            rintro v h ⟨rfl, hR⟩
            refine G_ret rfl ?_ dX7_access_135
            refine ⟨rfl, ?_⟩
            unfold acc1
            rw [if_neg (by first | exact fun z => hs z.1 | exact fun z => ht z.2)]
            unfold phS
            rw [if_neg (by rw [kk]; rcases hkk with rfl | rfl | rfl | rfl | rfl <;> decide), if_neg (by rw [kk]; rcases hkk with rfl | rfl | rfl | rfl | rfl <;> decide), if_neg (by rw [kk]; rcases hkk with rfl | rfl | rfl | rfl | rfl <;> decide), if_neg (by rw [kk]; rcases hkk with rfl | rfl | rfl | rfl | rfl <;> decide), if_neg (by rw [kk]; rcases hkk with rfl | rfl | rfl | rfl | rfl <;> decide), ej]
            unfold meN
            rw [hmet]
            show RR E m (meet σ1 p (cN (σ1.1 0 n)) n (8 * p + j)) τ h
            rw [hq0, cN_nI (by omega)]
            exact hR
          · skip
            by_cases k38_6 : σ1.1 325 p = 6
            · refine G_tableIn 130 dX7_access_38 (by rw [k38_6]; decide) (by rw [k38_6]; decide) (off := 92) (by rw [k38_6]; rfl) (by decide) ?_
              refine G_aload_n 131 rfl rfl dX7_access_130 ?_
              refine G_aload_n 132 rfl rfl dX7_access_131 ?_
              have hk : ∃ k : Int32, σ1.1 325 p = k ∧ (k = 4 ∨ k = 5 ∨ k = 6 ∨ k = 7 ∨ k = 8) := by
                first
                | exact ⟨4, k38_4, Or.inl rfl⟩
                | exact ⟨5, k38_5, Or.inr (Or.inl rfl)⟩
                | exact ⟨6, k38_6, Or.inr (Or.inr (Or.inl rfl))⟩
                | exact ⟨7, k38_7, Or.inr (Or.inr (Or.inr (Or.inl rfl)))⟩
                | exact ⟨8, k38_8, Or.inr (Or.inr (Or.inr (Or.inr rfl)))⟩
              obtain ⟨k, kk, hkk⟩ := hk
              obtain ⟨j, c, hjg, hj, hch, hc, hv, hpb⟩ := hA1 (by rw [kk]; rcases hkk with rfl | rfl | rfl | rfl | rfl <;> decide)
              obtain ⟨n, q, hmet, hn, hq0, hq⟩ := hA2 (by rw [kk]; rcases hkk with rfl | rfl | rfl | rfl | rfl <;> decide)
              have ej : atN σ1 p = j := by unfold atN; rw [hj]; exact cN_nI (by omega)
              refine G_callV 135 rfl [.ref (aP E p)] (c_X7_accessToMeet hR hp hg hg8 hj hjg hw hwl hz hzb hmet hn hq0 hq (by rw [kk]; exact hkk)) ok_X7_accessToMeet ov_X7_accessToMeet ml_X7_192 (hR.ob (ci := 7) (i := 0) (by decide) rfl) ⟨by decide, rfl⟩ rfl ⟨by decide, by decide⟩ rfl rfl (Nat.le_of_ble_eq_true rfl) rfl dX7_access_132 ?_
              rintro v h ⟨rfl, hR⟩
              refine G_ret rfl ?_ dX7_access_135
              refine ⟨rfl, ?_⟩
              unfold acc1
              rw [if_neg (by first | exact fun z => hs z.1 | exact fun z => ht z.2)]
              unfold phS
              rw [if_neg (by rw [kk]; rcases hkk with rfl | rfl | rfl | rfl | rfl <;> decide), if_neg (by rw [kk]; rcases hkk with rfl | rfl | rfl | rfl | rfl <;> decide), if_neg (by rw [kk]; rcases hkk with rfl | rfl | rfl | rfl | rfl <;> decide), if_neg (by rw [kk]; rcases hkk with rfl | rfl | rfl | rfl | rfl <;> decide), if_neg (by rw [kk]; rcases hkk with rfl | rfl | rfl | rfl | rfl <;> decide), ej]
              unfold meN
              rw [hmet]
              show RR E m (meet σ1 p (cN (σ1.1 0 n)) n (8 * p + j)) τ h
              rw [hq0, cN_nI (by omega)]
              exact hR
            · skip
              by_cases k38_7 : σ1.1 325 p = 7
              · refine G_tableIn 130 dX7_access_38 (by rw [k38_7]; decide) (by rw [k38_7]; decide) (off := 92) (by rw [k38_7]; rfl) (by decide) ?_
                refine G_aload_n 131 rfl rfl dX7_access_130 ?_
                refine G_aload_n 132 rfl rfl dX7_access_131 ?_
                have hk : ∃ k : Int32, σ1.1 325 p = k ∧ (k = 4 ∨ k = 5 ∨ k = 6 ∨ k = 7 ∨ k = 8) := by
                  first
                  | exact ⟨4, k38_4, Or.inl rfl⟩
                  | exact ⟨5, k38_5, Or.inr (Or.inl rfl)⟩
                  | exact ⟨6, k38_6, Or.inr (Or.inr (Or.inl rfl))⟩
                  | exact ⟨7, k38_7, Or.inr (Or.inr (Or.inr (Or.inl rfl)))⟩
                  | exact ⟨8, k38_8, Or.inr (Or.inr (Or.inr (Or.inr rfl)))⟩
                obtain ⟨k, kk, hkk⟩ := hk
                obtain ⟨j, c, hjg, hj, hch, hc, hv, hpb⟩ := hA1 (by rw [kk]; rcases hkk with rfl | rfl | rfl | rfl | rfl <;> decide)
                obtain ⟨n, q, hmet, hn, hq0, hq⟩ := hA2 (by rw [kk]; rcases hkk with rfl | rfl | rfl | rfl | rfl <;> decide)
                have ej : atN σ1 p = j := by unfold atN; rw [hj]; exact cN_nI (by omega)
                refine G_callV 135 rfl [.ref (aP E p)] (c_X7_accessToMeet hR hp hg hg8 hj hjg hw hwl hz hzb hmet hn hq0 hq (by rw [kk]; exact hkk)) ok_X7_accessToMeet ov_X7_accessToMeet ml_X7_192 (hR.ob (ci := 7) (i := 0) (by decide) rfl) ⟨by decide, rfl⟩ rfl ⟨by decide, by decide⟩ rfl rfl (Nat.le_of_ble_eq_true rfl) rfl dX7_access_132 ?_
                rintro v h ⟨rfl, hR⟩
                refine G_ret rfl ?_ dX7_access_135
                refine ⟨rfl, ?_⟩
                unfold acc1
                rw [if_neg (by first | exact fun z => hs z.1 | exact fun z => ht z.2)]
                unfold phS
                rw [if_neg (by rw [kk]; rcases hkk with rfl | rfl | rfl | rfl | rfl <;> decide), if_neg (by rw [kk]; rcases hkk with rfl | rfl | rfl | rfl | rfl <;> decide), if_neg (by rw [kk]; rcases hkk with rfl | rfl | rfl | rfl | rfl <;> decide), if_neg (by rw [kk]; rcases hkk with rfl | rfl | rfl | rfl | rfl <;> decide), if_neg (by rw [kk]; rcases hkk with rfl | rfl | rfl | rfl | rfl <;> decide), ej]
                unfold meN
                rw [hmet]
                show RR E m (meet σ1 p (cN (σ1.1 0 n)) n (8 * p + j)) τ h
                rw [hq0, cN_nI (by omega)]
                exact hR
              · skip
                by_cases k38_8 : σ1.1 325 p = 8
                · refine G_tableIn 130 dX7_access_38 (by rw [k38_8]; decide) (by rw [k38_8]; decide) (off := 92) (by rw [k38_8]; rfl) (by decide) ?_
                  refine G_aload_n 131 rfl rfl dX7_access_130 ?_
                  refine G_aload_n 132 rfl rfl dX7_access_131 ?_
                  have hk : ∃ k : Int32, σ1.1 325 p = k ∧ (k = 4 ∨ k = 5 ∨ k = 6 ∨ k = 7 ∨ k = 8) := by
                    first
                    | exact ⟨4, k38_4, Or.inl rfl⟩
                    | exact ⟨5, k38_5, Or.inr (Or.inl rfl)⟩
                    | exact ⟨6, k38_6, Or.inr (Or.inr (Or.inl rfl))⟩
                    | exact ⟨7, k38_7, Or.inr (Or.inr (Or.inr (Or.inl rfl)))⟩
                    | exact ⟨8, k38_8, Or.inr (Or.inr (Or.inr (Or.inr rfl)))⟩
                  obtain ⟨k, kk, hkk⟩ := hk
                  obtain ⟨j, c, hjg, hj, hch, hc, hv, hpb⟩ := hA1 (by rw [kk]; rcases hkk with rfl | rfl | rfl | rfl | rfl <;> decide)
                  obtain ⟨n, q, hmet, hn, hq0, hq⟩ := hA2 (by rw [kk]; rcases hkk with rfl | rfl | rfl | rfl | rfl <;> decide)
                  have ej : atN σ1 p = j := by unfold atN; rw [hj]; exact cN_nI (by omega)
                  refine G_callV 135 rfl [.ref (aP E p)] (c_X7_accessToMeet hR hp hg hg8 hj hjg hw hwl hz hzb hmet hn hq0 hq (by rw [kk]; exact hkk)) ok_X7_accessToMeet ov_X7_accessToMeet ml_X7_192 (hR.ob (ci := 7) (i := 0) (by decide) rfl) ⟨by decide, rfl⟩ rfl ⟨by decide, by decide⟩ rfl rfl (Nat.le_of_ble_eq_true rfl) rfl dX7_access_132 ?_
                  rintro v h ⟨rfl, hR⟩
                  refine G_ret rfl ?_ dX7_access_135
                  refine ⟨rfl, ?_⟩
                  unfold acc1
                  rw [if_neg (by first | exact fun z => hs z.1 | exact fun z => ht z.2)]
                  unfold phS
                  rw [if_neg (by rw [kk]; rcases hkk with rfl | rfl | rfl | rfl | rfl <;> decide), if_neg (by rw [kk]; rcases hkk with rfl | rfl | rfl | rfl | rfl <;> decide), if_neg (by rw [kk]; rcases hkk with rfl | rfl | rfl | rfl | rfl <;> decide), if_neg (by rw [kk]; rcases hkk with rfl | rfl | rfl | rfl | rfl <;> decide), if_neg (by rw [kk]; rcases hkk with rfl | rfl | rfl | rfl | rfl <;> decide), ej]
                  unfold meN
                  rw [hmet]
                  show RR E m (meet σ1 p (cN (σ1.1 0 n)) n (8 * p + j)) τ h
                  rw [hq0, cN_nI (by omega)]
                  exact hR
                · skip
                  by_cases k38_9 : σ1.1 325 p = 9
                  · refine G_tableIn 108 dX7_access_38 (by rw [k38_9]; decide) (by rw [k38_9]; decide) (off := 70) (by rw [k38_9]; rfl) (by decide) ?_
                    refine G_aload_n 109 rfl rfl dX7_access_108 ?_
                    refine G_callV 112 rfl [] (c_X5_endLooking hR hp hg hg8 hw hwl) ok_X5_endLooking ov_X5_endLooking ml_X7_183 (hR.ob (ci := 5) (i := p) (by decide) hp) ⟨by decide, rfl⟩ rfl ⟨by decide, by decide⟩ rfl rfl (Nat.le_of_ble_eq_true rfl) rfl dX7_access_109 ?_
                    rintro v h ⟨rfl, hR⟩
                    have hR : RR E m (endL σ1 p) τ h := by
                      unfold endL
                      rcases hR with ⟨x1, x2⟩ | ⟨x1, x2, x3⟩ | ⟨x1, x2, x3⟩
                      · rw [if_pos x1]; exact x2
                      · rw [if_neg x1, if_neg x2]; exact x3
                      · rw [if_neg x1, if_pos x2]; exact x3
                    refine G_goto 135 (by decide) dX7_access_112 ?_
                    refine G_ret rfl ?_ dX7_access_135
                    refine ⟨rfl, ?_⟩
                    unfold acc1
                    rw [if_neg (by first | exact fun z => hs z.1 | exact fun z => ht z.2)]
                    unfold phS
                    rw [if_neg k38_2, if_neg k38_3, if_pos k38_9]
                    exact hR
                  · skip
                    by_cases k38_10 : σ1.1 325 p = 10
                    · refine G_tableIn 115 dX7_access_38 (by rw [k38_10]; decide) (by rw [k38_10]; decide) (off := 77) (by rw [k38_10]; rfl) (by decide) ?_
                      refine G_aload_n 116 rfl rfl dX7_access_115 ?_
                      refine G_callV 119 rfl [] (c_X5_wakeIfSettled hR hp hw hwl) ok_X5_wakeIfSettled ov_X5_wakeIfSettled ml_X7_186 (hR.ob (ci := 5) (i := p) (by decide) hp) ⟨by decide, rfl⟩ rfl ⟨by decide, by decide⟩ rfl rfl (Nat.le_of_ble_eq_true rfl) rfl dX7_access_116 ?_
                      rintro v h ⟨rfl, hR⟩
                      have hR : RR E m (wake σ1 p) τ h := by
                        unfold wake
                        rcases hR with ⟨x1, x2⟩ | ⟨x1, x2⟩
                        · rw [if_pos x1]; exact x2
                        · rw [if_neg x1]; exact x2
                      refine G_goto 135 (by decide) dX7_access_119 ?_
                      refine G_ret rfl ?_ dX7_access_135
                      refine ⟨rfl, ?_⟩
                      unfold acc1
                      rw [if_neg (by first | exact fun z => hs z.1 | exact fun z => ht z.2)]
                      unfold phS
                      rw [if_neg k38_2, if_neg k38_3, if_neg k38_9, if_pos k38_10]
                      exact hR
                    · skip
                      by_cases k38_11 : σ1.1 325 p = 11
                      · refine G_tableIn 122 dX7_access_38 (by rw [k38_11]; decide) (by rw [k38_11]; decide) (off := 84) (by rw [k38_11]; rfl) (by decide) ?_
                        refine G_aload_n 123 rfl rfl dX7_access_122 ?_
                        refine G_aload_n 124 rfl rfl dX7_access_123 ?_
                        obtain ⟨n, c, hwn, hn, hec, hc, hv⟩ := hA3 k38_11
                        have hl8 := (hR.2.2.1.2.2.2.2.2.2.2 p hp).1
                        have hfe : fE σ1 p = some n := by unfold fE; rw [hw, cN_nI (by omega)]; exact hwn
                        refine G_callV 127 rfl [.ref (aP E p)] (c_X7_withdrawEntry hR hp hw hwn hn hec hc hv) ok_X7_withdrawEntry ov_X7_withdrawEntry ml_X7_189 (hR.ob (ci := 7) (i := 0) (by decide) rfl) ⟨by decide, rfl⟩ rfl ⟨by decide, by decide⟩ rfl rfl (Nat.le_of_ble_eq_true rfl) rfl dX7_access_124 ?_
                        rintro v h ⟨rfl, hR⟩
                        refine G_goto 135 (by decide) dX7_access_127 ?_
                        refine G_ret rfl ?_ dX7_access_135
                        refine ⟨rfl, ?_⟩
                        unfold acc1
                        rw [if_neg (by first | exact fun z => hs z.1 | exact fun z => ht z.2)]
                        unfold phS
                        rw [if_neg k38_2, if_neg k38_3, if_neg k38_9, if_neg k38_10, if_pos k38_11, hfe]
                        show RR E m (wdS σ1 p n (cN (σ1.1 3 n))) τ h
                        rw [hec, cN_nI (by omega)]
                        exact hR
                      · skip
                        exfalso
                        rcases ph_cases hph1 hph2 with x | x | x | x | x | x | x | x | x | x
                        · exact absurd x k38_2
                        · exact absurd x k38_3
                        · exact absurd x k38_4
                        · exact absurd x k38_5
                        · exact absurd x k38_6
                        · exact absurd x k38_7
                        · exact absurd x k38_8
                        · exact absurd x k38_9
                        · exact absurd x k38_10
                        · exact absurd x k38_11

set_option maxHeartbeats 4000000 in
set_option maxRecDepth 100000 in
theorem lp_X7_run {E : Ev} {m : Nat} {τ : Tu} {Inv : Sg → Prop} {Pt : Sg → Nat} (hAO : ∀ σ p, Inv σ → p < m → AO m σ p) (hst : ∀ σ p, Inv σ → p < m → offg σ p → Inv (acc σ p)) (hpt : ∀ σ p, Inv σ → p < m → offg σ p → Pt (acc σ p) ≤ Pt σ) (hpq : ∀ σ p, Inv σ → p < m → σ.1 325 p = 2 → ¬ (¬ σ.1 328 p = -1 ∧ ¬ σ.1 451 0 < σ.1 328 p) → Pt (acc σ p) + 1 ≤ Pt σ) {N : Nat} (hN : N ≤ 5000) (s0 b : Int32) (σ0 : Sg) : ∀ (r a : Nat), a + r = N → ∀ (σ : Sg) (s : Int32) (ac : Nat) {h : Hp}, Inv σ → Pt σ ≤ ac → RR E m σ τ h → rnS m r σ s = rnS m N σ0 s0 → G E mX7_run (rk 5 128 768) (fun v h' => v = some (.int ((rnS m N σ0 s0).1 257 0 - b)) ∧ RR E m (rnS m N σ0 s0) τ h') 38 [some (.ref (aX E)), some (.int (nI N)), some (.int s0), some (.int (nI m)), some (.int b), some (.int s), some (.int (nI a)), none] [] h ac (6 * ac) := by
  intro r
  induction r with
  | zero =>
    intro a ha σ s ac h hI hac hR hv
    have hm := hR.1.1
    refine G_iload 40 rfl rfl dX7_run_38 ?_
    refine G_iload_n 41 rfl rfl dX7_run_40 ?_
    refine G_icmpT_ge 93 (nI_le (by omega) (by omega)) (by decide) dX7_run_41 ?_
    refine G_aload_n 94 rfl rfl dX7_run_93 ?_
    refine G_x2 97 rfl hR fl_X7_37 dX7_run_94 ?_
    refine G_gi 100 rfl hR 4 1 0 257 (σ.1 257 0) fl_X7_110 rfl rfl rfl rfl rfl dX7_run_97 ?_
    refine G_iload 102 rfl rfl dX7_run_100 ?_
    refine G_isub 103 rfl dX7_run_102 ?_
    refine G_iret (ty := .int) rfl rfl ?_ dX7_run_103
    exact ⟨by rw [← hv, rnS_0], by rw [← hv, rnS_0]; exact hR⟩
  | succ r ih =>
    intro a ha σ s ac h hI hac hR hv
    have hm := hR.1.1
    have hpk : pik m (s * 1103515245 + 12345) < m := pik_lt hm.1 _
    refine G_iload 40 rfl rfl dX7_run_38 ?_
    refine G_iload_n 41 rfl rfl dX7_run_40 ?_
    refine G_icmpF_ge 44 rfl (nI_ge (by omega) (by omega)) ⟨93, by decide⟩ dX7_run_41 ?_
    refine G_iload 46 rfl rfl dX7_run_44 ?_
    refine G_ldc 48 rfl ct_X7_113 dX7_run_46 ?_
    refine G_imul 49 rfl dX7_run_48 ?_
    refine G_sipush 52 rfl (12345) (by decide) dX7_run_49 ?_
    refine G_iadd 53 rfl dX7_run_52 ?_
    refine G_istore 55 rfl (by decide) dX7_run_53 ?_
    refine G_aload_n 56 rfl rfl dX7_run_55 ?_
    refine G_iload 58 rfl rfl dX7_run_56 ?_
    refine G_bipush 60 rfl (16) (by decide) dX7_run_58 ?_
    refine G_iushr 61 rfl dX7_run_60 ?_
    refine G_iload_n 62 rfl rfl dX7_run_61 ?_
    refine G_irem 63 rfl (show ¬ nI m = 0 from nI_ne0 (by omega) (by omega)) dX7_run_62 ?_
    rw [pik_eq hm]
    refine G_callV 66 rfl [.int (nI (pik m (s * 1103515245 + 12345)))] (c_X7_procAt hR (nI (pik m (s * 1103515245 + 12345)))) ok_X7_procAt ov_X7_procAt ml_X7_78 (hR.ob (ci := 7) (i := 0) (by decide) rfl) ⟨by decide, rfl⟩ rfl ⟨by decide, by decide⟩ rfl rfl (Nat.le_of_ble_eq_true rfl) rfl dX7_run_63 ?_
    rintro v h' ⟨⟨p, hp, e, rfl⟩ | ⟨e, rfl⟩, rfl⟩
    rotate_left
    · exact absurd e (fun z => z.elim (nI_pos (by omega)) (nI_ge hpk (by omega)))
    obtain rfl : pik m (s * 1103515245 + 12345) = p := (nI_eq (by omega) (by omega)).mp e
    refine G_astore 68 rfl (by decide) dX7_run_66 ?_
    refine G_aload 70 rfl rfl dX7_run_68 ?_
    refine G_ifnull 73 rfl dX7_run_70 ?_
    refine G_aload 75 rfl rfl dX7_run_73 ?_
    refine G_callV 78 rfl [] (c_X5_isOffering hR hpk) ok_X5_isOffering ov_X5_isOffering ml_X7_82 (hR.ob (ci := 5) (i := pik m (s * 1103515245 + 12345)) (by decide) hpk) ⟨by decide, rfl⟩ rfl ⟨by decide, by decide⟩ rfl rfl (Nat.le_of_ble_eq_true rfl) rfl dX7_run_75 ?_
    rintro v h' ⟨⟨hof, rfl⟩ | ⟨hof, rfl⟩, rfl⟩
    · skip
      refine G_ifF_eq 81 rfl (by decide) ⟨87, by decide⟩ dX7_run_78 ?_
      refine G_aload_n 82 rfl rfl dX7_run_81 ?_
      refine G_aload 84 rfl rfl dX7_run_82 ?_
      by_cases hnp : σ.1 325 (pik m (s * 1103515245 + 12345)) = 2 → ¬ σ.1 328 (pik m (s * 1103515245 + 12345)) = -1 ∧ ¬ σ.1 451 0 < σ.1 328 (pik m (s * 1103515245 + 12345))
      · refine G_callV 87 rfl [.ref (aP E (pik m (s * 1103515245 + 12345)))] (c_X7_access0 hR hpk hof.1 hof.2 (hAO σ _ hI hpk) hnp) ok_X7_access ov_X7_access ml_X7_86 (hR.ob (ci := 7) (i := 0) (by decide) rfl) ⟨by decide, rfl⟩ rfl ⟨by decide, by decide⟩ (ac' := ac) (as' := 6 * ac) rfl rfl (Nat.le_of_ble_eq_true rfl) rfl dX7_run_84 ?_
        rintro v h ⟨rfl, hR⟩
        refine G_iinc 90 rfl (nI (a + 1)) rfl (inc1 a) (by decide) dX7_run_87 ?_
        refine G_goto 38 (by decide) dX7_run_90 ?_
        refine G_lw [some (.ref (aX E)), some (.int (nI N)), some (.int s0), some (.int (nI m)), some (.int b), some (.int (lcg s)), some (.int (nI (a + 1))), none] (by intro x y hx; rcases x with _ | _ | _ | _ | _ | _ | _ | _ | x <;> first | exact hx | cases hx) ?_
        exact ih (a + 1) (by omega) _ (lcg s) ac (hst _ _ hI hpk hof) (Nat.le_trans (hpt _ _ hI hpk hof) hac) hR (by rw [← hv, rnS_succ]; unfold stp1; rw [if_pos (show ¬ σ.1 325 (pik m (lcg s)) < 2 ∧ ¬ 11 < σ.1 325 (pik m (lcg s)) from hof)]; rfl)
      · have h2 : σ.1 325 (pik m (s * 1103515245 + 12345)) = 2 := Classical.byContradiction (fun z => hnp (fun y => absurd y z))
        have hnd : ¬ (¬ σ.1 328 (pik m (s * 1103515245 + 12345)) = -1 ∧ ¬ σ.1 451 0 < σ.1 328 (pik m (s * 1103515245 + 12345))) := fun z => hnp (fun _ => z)
        have hq := hpq σ _ hI hpk h2 hnd
        obtain ⟨ac2, rfl⟩ : ∃ x, ac = x + 1 := ⟨ac - 1, by omega⟩
        refine G_callV 87 rfl [.ref (aP E (pik m (s * 1103515245 + 12345)))] (c_X7_access hR hpk hof.1 hof.2 (hAO σ _ hI hpk)) ok_X7_access ov_X7_access ml_X7_86 (hR.ob (ci := 7) (i := 0) (by decide) rfl) ⟨by decide, rfl⟩ rfl ⟨by decide, by decide⟩ (ac' := ac2) (as' := 6 * ac2) rfl (by show 6 * (ac2 + 1) = 6 * ac2 + 6; omega) (Nat.le_of_ble_eq_true rfl) rfl dX7_run_84 ?_
        rintro v h ⟨rfl, hR⟩
        refine G_iinc 90 rfl (nI (a + 1)) rfl (inc1 a) (by decide) dX7_run_87 ?_
        refine G_goto 38 (by decide) dX7_run_90 ?_
        refine G_lw [some (.ref (aX E)), some (.int (nI N)), some (.int s0), some (.int (nI m)), some (.int b), some (.int (lcg s)), some (.int (nI (a + 1))), none] (by intro x y hx; rcases x with _ | _ | _ | _ | _ | _ | _ | _ | x <;> first | exact hx | cases hx) ?_
        exact ih (a + 1) (by omega) _ (lcg s) ac2 (hst _ _ hI hpk hof) (by omega) hR (by rw [← hv, rnS_succ]; unfold stp1; rw [if_pos (show ¬ σ.1 325 (pik m (lcg s)) < 2 ∧ ¬ 11 < σ.1 325 (pik m (lcg s)) from hof)]; rfl)
    · skip
      refine G_ifT_eq 87 (by decide) (by decide) dX7_run_78 ?_
      refine G_iinc 90 rfl (nI (a + 1)) rfl (inc1 a) (by decide) dX7_run_87 ?_
      refine G_goto 38 (by decide) dX7_run_90 ?_
      refine G_lw [some (.ref (aX E)), some (.int (nI N)), some (.int s0), some (.int (nI m)), some (.int b), some (.int (lcg s)), some (.int (nI (a + 1))), none] (by intro x y hx; rcases x with _ | _ | _ | _ | _ | _ | _ | _ | x <;> first | exact hx | cases hx) ?_
      exact ih (a + 1) (by omega) σ (lcg s) ac hI hac hR (by rw [← hv, rnS_succ]; unfold stp1; rw [if_neg (show ¬ (¬ σ.1 325 (pik m (lcg s)) < 2 ∧ ¬ 11 < σ.1 325 (pik m (lcg s))) from hof)])

set_option maxHeartbeats 4000000 in
set_option maxRecDepth 100000 in
theorem c_X7_run {E : Ev} {m : Nat} {σ : Sg} {τ : Tu} {h : Hp} (hR : RR E m σ τ h) (k s : Int32) {Inv : Sg → Prop} {Pt : Sg → Nat} (hAO : ∀ σ p, Inv σ → p < m → AO m σ p) (hst : ∀ σ p, Inv σ → p < m → offg σ p → Inv (acc σ p)) (hpt : ∀ σ p, Inv σ → p < m → offg σ p → Pt (acc σ p) ≤ Pt σ) (hpq : ∀ σ p, Inv σ → p < m → σ.1 325 p = 2 → ¬ (¬ σ.1 328 p = -1 ∧ ¬ σ.1 451 0 < σ.1 328 p) → Pt (acc σ p) + 1 ≤ Pt σ) (hI : Inv σ) (hP : Pt σ ≤ 128) : Cn E mX7_run (rk 5 128 768) h [.ref (aX E), .int k, .int s] (fun v h' => (∃ N : Nat, N ≤ 5000 ∧ k = nI N ∧ v = some (.int ((rnS m N σ s).1 257 0 - σ.1 257 0)) ∧ RR E m (rnS m N σ s) τ h') ∨ ((k < 0 ∨ 5000 < k) ∧ v = some (.int (-1)) ∧ RR E m σ τ h')) := by
  refine Cn_of (by decide) rfl (by simp [Value.category]) (Nat.le_of_ble_eq_true rfl) ?_
  have hm := hR.1.1
  refine G_aload_n 1 rfl rfl dX7_run_0 ?_
  refine G_x0 4 rfl hR fl_X7_20 dX7_run_1 ?_
  refine G_lenPA 5 rfl hR dX7_run_4 ?_
  refine G_istore_n 6 rfl (by decide) dX7_run_5 ?_
  refine G_iload_n 7 rfl rfl dX7_run_6 ?_
  refine G_if_lt 21 10 rfl (by decide) dX7_run_7 (fun c7 => ?_) (fun c7 => ?_)
  · skip
    refine G_iconst 22 rfl (-1) (by decide) dX7_run_21 ?_
    refine G_iret (ty := .int) rfl rfl ?_ dX7_run_22
    exact Or.inr ⟨by first | exact Or.inl c7 | exact Or.inr c14, rfl, hR⟩
  · skip
    refine G_iload_n 11 rfl rfl dX7_run_10 ?_
    refine G_sipush 14 rfl (5000) (by decide) dX7_run_11 ?_
    refine G_icmp_gt 21 17 rfl (by decide) dX7_run_14 (fun c14 => ?_) (fun c14 => ?_)
    · skip
      refine G_iconst 22 rfl (-1) (by decide) dX7_run_21 ?_
      refine G_iret (ty := .int) rfl rfl ?_ dX7_run_22
      exact Or.inr ⟨by first | exact Or.inl c7 | exact Or.inr c14, rfl, hR⟩
    · skip
      refine G_iload_n 18 rfl rfl dX7_run_17 ?_
      refine G_ifT_ne 23 (nI_ne0 (by omega) (by omega)) (by decide) dX7_run_18 ?_
      refine G_aload_n 24 rfl rfl dX7_run_23 ?_
      refine G_x2 27 rfl hR fl_X7_37 dX7_run_24 ?_
      refine G_gi 30 rfl hR 4 1 0 257 (σ.1 257 0) fl_X7_110 rfl rfl rfl rfl rfl dX7_run_27 ?_
      refine G_istore 32 rfl (by decide) dX7_run_30 ?_
      refine G_iload_n 33 rfl rfl dX7_run_32 ?_
      refine G_istore 35 rfl (by decide) dX7_run_33 ?_
      refine G_iconst 36 rfl (0) (by decide) dX7_run_35 ?_
      refine G_istore 38 rfl (by decide) dX7_run_36 ?_
      obtain ⟨N, hN, rfl⟩ : ∃ N, N ≤ 5000 ∧ k = nI N := by
        obtain ⟨j, hj, e⟩ := nI_of c7
        refine ⟨j, ?_, e⟩
        by_cases q : j ≤ 5000
        · exact q
        · exact absurd (by rw [e]; exact nI_lt (a := 5000) (by omega) hj) c14
      have hlp := lp_X7_run (E := E) (m := m) (τ := τ) hAO hst hpt hpq hN s (σ.1 257 0) σ N 0 (by omega) σ s 128 hI hP hR rfl
      refine G_lw [some (.ref (aX E)), some (.int (nI N)), some (.int s), some (.int (nI m)), some (.int (σ.1 257 0)), some (.int s), some (.int (nI 0)), none] (by intro x y hx; rcases x with _ | _ | _ | _ | _ | _ | _ | _ | x <;> first | exact hx | cases hx) ?_
      exact G_post (fun v h' q => Or.inl ⟨N, hN, rfl, q⟩) hlp

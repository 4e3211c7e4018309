section INIT2
variable {E : Ev} {m : Nat} {h : Hp}
def QC (f : Nat → Nat) (i : Nat) : Cl := (c0.1, c0.2.1, c0.2.2.1, fun j => if j < i then some (f j) else none)
theorem QC_s (f : Nat → Nat) (i : Nat) : kQ (QC f i) i (some (f i)) = QC f (i + 1) := by
  unfold kQ QC
  have : (fun j => if j = i then some (f i) else if j < i then some (f j) else none) = fun j => if j < i + 1 then some (f j) else none := by
    funext j
    by_cases h1 : j = i
    · subst h1; simp
    · rw [if_neg h1]
      by_cases h2 : j < i
      · rw [if_pos h2, if_pos (by omega)]
      · rw [if_neg h2, if_neg (by omega)]
  simp only [this]
theorem QC_0 (f : Nat → Nat) : QC f 0 = c0 := by
  unfold QC c0
  simp
def PF (E : Ev) (h : Hp) (p : Nat) : Prop := cl h (aP E p) = PC E p ∧ cl h (aW E p) = WC ∧ cl h (aT E p) = c0 ∧ cl h (aGA E p) = GC E p 8 ∧ cl h (aOA E p) = c0 ∧ ∀ j, j < 8 → cl h (aG E (8 * p + j)) = c0
theorem PF.keep {h' : Hp} {p : Nat} (hp : PF E h p) (hk : ∀ b, aP E p ≤ b → b < aP E (p + 1) → cl h' b = cl h b) : PF E h' p := by
  obtain ⟨q1, q2, q3, q4, q5, q6⟩ := hp
  refine ⟨?_, ?_, ?_, ?_, ?_, fun j hj => ?_⟩
  · rw [hk _ (by simp only [aP]; omega) (by simp only [aP]; omega)]; exact q1
  · rw [hk _ (by simp only [aP, aW]; omega) (by simp only [aP, aW]; omega)]; exact q2
  · rw [hk _ (by simp only [aP, aT]; omega) (by simp only [aP, aT]; omega)]; exact q3
  · rw [hk _ (by simp only [aP, aGA]; omega) (by simp only [aP, aGA]; omega)]; exact q4
  · rw [hk _ (by simp only [aP, aOA]; omega) (by simp only [aP, aOA]; omega)]; exact q5
  · rw [hk _ (by simp only [aP, aG]; omega) (by simp only [aP, aG]; omega)]; exact q6 j hj
/-- i of the processes are made -/
def XI (E : Ev) (i : Nat) (h : Hp) : Prop := hn h = aP E i ∧ cl h (aX E) = kR c0 448 (some (aPA E)) ∧ cl h (aPA E) = QC (aP E) i ∧ ∀ p, p < i → PF E h p
/-- i of the lists are made -/
def LI (E : Ev) (m i : Nat) (h : Hp) : Prop := hn h = aLs E m i ∧ cl h (aX E) = kR (kR c0 448 (some (aPA E))) 449 (some (aLL E m)) ∧ cl h (aPA E) = QC (aP E) m ∧ (∀ p, p < m → PF E h p) ∧ cl h (aLL E m) = QC (aLs E m) i ∧ ∀ c, c < i → cl h (aLs E m c) = kR c0 64 (some (aLA E m c)) ∧ cl h (aLA E m c) = c0
/-- the bench is made -/
def CI (E : Ev) (m : Nat) (h : Hp) : Prop := hn h = aM E m ∧ cl h (aX E) = kR (kR (kR c0 448 (some (aPA E))) 449 (some (aLL E m))) 450 (some (aPL E m)) ∧ cl h (aPA E) = QC (aP E) m ∧ (∀ p, p < m → PF E h p) ∧ cl h (aLL E m) = QC (aLs E m) 8 ∧ (∀ c, c < 8 → cl h (aLs E m c) = kR c0 64 (some (aLA E m c)) ∧ cl h (aLA E m c) = c0) ∧ cl h (aPL E m) = kR c0 256 (some (aPP E m)) ∧ cl h (aPP E m) = c0
set_option maxHeartbeats 4000000 in
set_option maxRecDepth 100000 in
theorem lp1_X7_init (hL : LY E m) {k : Int32} (c s : Nat) (hk : ∀ h, XI E m h → G E mX7_init (rk 3 228 3882) (fun v h' => v = none ∧ CI E m h') 50 [some (.ref (aX E)), some (.int k), some (.int (nI m)), none] [] h c s) : ∀ (n i : Nat), i + n = m → ∀ h, XI E i h → G E mX7_init (rk 3 228 3882) (fun v h' => v = none ∧ CI E m h') 25 [some (.ref (aX E)), some (.int k), some (.int (nI m)), some (.int (nI i))] [] h (13 * n + c) (76 * n + s) := by
  intro n
  have hm := hL.1
  induction n with
  | zero =>
    intro i hi h hI
    obtain rfl : i = m := by omega
    refine G_iload_n 26 rfl rfl dX7_init_25 ?_
    refine G_iload_n 27 rfl rfl dX7_init_26 ?_
    refine G_icmpT_ge 50 (nI_le (by omega) (by omega)) (by decide) dX7_init_27 ?_
    refine G_lw [some (.ref (aX E)), some (.int k), some (.int (nI i)), none] (by intro x y hx; rcases x with _ | _ | _ | _ | x <;> first | exact hx | cases hx) ?_
    simpa using hk h hI
  | succ n ih =>
    intro i hi h hI
    obtain ⟨i1, i2, i3, i4⟩ := hI
    have kX : eK E (aX E) = 7 := hL.k (ci := 7) (i := 0) (by decide) rfl
    have kP : eK E (hn h) = 5 := by rw [i1]; exact hL.k (ci := 5) (i := i) (by decide) (show i < m by omega)
    have l1 : eB E ≤ aX E ∧ aX E < hn h := by rw [i1]; simp only [aX, aP]; omega
    have l2 : eB E ≤ aPA E ∧ aPA E < hn h := by rw [i1]; simp only [aPA, aP]; omega
    refine G_iload_n 26 rfl rfl dX7_init_25 ?_
    refine G_iload_n 27 rfl rfl dX7_init_26 ?_
    refine G_icmpF_ge 30 rfl (nI_ge (by omega) (by omega)) ⟨50, by decide⟩ dX7_init_27 ?_
    refine G_aload_n 31 rfl rfl dX7_init_30 ?_
    refine G_getR 34 rfl (ci := 7) (k := 0) (b := aPA E) fl_X7_20 rfl ⟨kX, l1.1, l1.2⟩ (cl_r i2 448) dX7_init_31 ?_
    refine G_iload_n 35 rfl rfl dX7_init_34 ?_
    refine G_new 38 rfl (ci := 5) (by decide) cl_X7_18 w_in5 w_it5 kP (ac' := 13 * n + c + 12) (as' := 76 * n + s + 56) (by omega) (by show _ = 76 * n + s + 56 + 20; omega) dX7_init_35 ?_
    refine G_dup 39 rfl rfl dX7_init_38 ?_
    refine G_iload_n 40 rfl rfl dX7_init_39 ?_
    rw [i1]
    refine G_callI 43 rfl [.int (nI i)] (c_X5_init hL (p := i) (show i < m by omega) (by rw [hn_sN, i1]; simp only [aP, aW]; omega) (by rw [cl_sN, if_pos i1.symm])) ok_X5_init oi_X5_init rfl rfl ml_X7_24 rfl ⟨by decide, by decide⟩ (ac' := 13 * n + c) (as' := 76 * n + s) rfl rfl (Nat.le_of_ble_eq_true rfl) rfl dX7_init_40 ?_
    rintro v h2 ⟨rfl, g1, g2, g3, g4, g5, g6, g7, g8⟩
    have hh2 : hn h2 = aP E (i + 1) := by rw [g1]; simp only [aP]; omega
    refine G_aastore 44 rfl (ci := 14) (cv := 5) i rfl ⟨hL.2.2.1.1, l2.1, by rw [hh2]; simp only [aPA, aP]; omega⟩ (by decide) (by decide) (by decide) rfl (b := aP E i) ⟨hL.k (ci := 5) (i := i) (by decide) (show i < m by omega), by simp only [aP]; omega, by rw [hh2]; simp only [aP]; omega⟩ (by rw [hL.2.2.1.2]; omega) (by omega) dX7_init_43 ?_
    refine G_iinc 47 rfl (nI (i + 1)) rfl (inc1 i) (by decide) dX7_init_44 ?_
    refine G_goto 25 (by decide) dX7_init_47 ?_
    have old : ∀ b, b < aP E i → cl h2 b = cl h b := fun b hb => by rw [g8 b hb, cl_sN, if_neg (by omega)]
    refine ih (i + 1) (by omega) _ ⟨?_, ?_, ?_, fun p hp => ?_⟩
    · exact hh2
    · rw [cl_sQ, if_neg (by simp only [aX, aPA]; omega), old _ (by simp only [aX, aP]; omega)]; exact i2
    · rw [cl_sQ, if_pos rfl, old _ (by simp only [aPA, aP]; omega), i3]; exact QC_s _ i
    · by_cases hpi : p = i
      · subst hpi
        exact PF.keep (h := h2) ⟨g2, g3, g4, g5, g6, g7⟩ (fun b hb _ => by rw [cl_sQ, if_neg (by simp only [aP] at hb; simp only [aPA]; omega)])
      · exact (i4 p (by omega)).keep (fun b hb1 hb2 => by rw [cl_sQ, if_neg (by simp only [aP] at hb1; simp only [aPA]; omega), old b (by simp only [aP] at hb2 ⊢; omega)])

set_option maxHeartbeats 4000000 in
set_option maxRecDepth 100000 in
theorem lp2_X7_init (hL : LY E m) {k : Int32} (c s : Nat) (hk : ∀ h, LI E m 8 h → G E mX7_init (rk 3 228 3882) (fun v h' => v = none ∧ CI E m h') 86 [some (.ref (aX E)), some (.int k), some (.int (nI m)), none] [] h c s) : ∀ (n i : Nat), i + n = 8 → ∀ h, LI E m i h → G E mX7_init (rk 3 228 3882) (fun v h' => v = none ∧ CI E m h') 61 [some (.ref (aX E)), some (.int k), some (.int (nI m)), some (.int (nI i))] [] h (2 * n + c) (130 * n + s) := by
  intro n
  have hm := hL.1
  induction n with
  | zero =>
    intro i hi h hI
    obtain rfl : i = 8 := by omega
    refine G_iload_n 62 rfl rfl dX7_init_61 ?_
    refine G_bipush 64 rfl (8) (by decide) dX7_init_62 ?_
    refine G_icmpT_ge 86 (by decide) (by decide) dX7_init_64 ?_
    refine G_lw [some (.ref (aX E)), some (.int k), some (.int (nI m)), none] (by intro x y hx; rcases x with _ | _ | _ | _ | x <;> first | exact hx | cases hx) ?_
    simpa using hk h hI
  | succ n ih =>
    intro i hi h hI
    obtain ⟨i1, i2, i3, i4, i5, i6⟩ := hI
    have kX : eK E (aX E) = 7 := hL.k (ci := 7) (i := 0) (by decide) rfl
    have kLs : eK E (aLs E m i) = 1 := hL.k (ci := 1) (i := i) (by decide) (show i < 8 by omega)
    have kA := hL.2.2.2.2.2.1 i (by omega)
    have kLL := hL.2.2.2.2.1
    have e1 : hn h + 1 = aLA E m i := by rw [i1]; simp only [aLs, aLA]; omega
    have l1 : eB E ≤ aX E ∧ aX E < hn h := by rw [i1]; simp only [aX, aLs]; omega
    have l2 : eB E ≤ aLL E m ∧ aLL E m < hn h := by rw [i1]; simp only [aLL, aLs]; omega
    have l3 : eB E ≤ aLs E m i := by simp only [aLs]; omega
    refine G_iload_n 62 rfl rfl dX7_init_61 ?_
    refine G_bipush 64 rfl (8) (by decide) dX7_init_62 ?_
    refine G_icmpF_ge 67 rfl (nI_ge (b := 8) (by omega) (by omega)) ⟨86, by decide⟩ dX7_init_64 ?_
    refine G_aload_n 68 rfl rfl dX7_init_67 ?_
    refine G_getR 71 rfl (ci := 7) (k := 1) (b := aLL E m) fl_X7_29 rfl ⟨kX, l1.1, l1.2⟩ (cl_r i2 449) dX7_init_68 ?_
    refine G_iload_n 72 rfl rfl dX7_init_71 ?_
    refine G_new 75 rfl (ci := 1) (by decide) cl_X7_27 w_in1 w_it1 (by rw [i1]; exact kLs) (ac' := 2 * n + c + 1) (as' := 130 * n + s + 128) (by omega) (by show _ = 130 * n + s + 128 + 2; omega) dX7_init_72 ?_
    refine G_dup 76 rfl rfl dX7_init_75 ?_
    rw [i1]
    refine G_callN 79 rfl [] (c_X1_init (a := aLs E m i) ⟨kLs, l3, by rw [hn_sN]; omega⟩ (by rw [hn_sN, e1]; exact kA.1) (by rw [hn_sN, e1]; exact kA.2)) ok_X1_init oi_X1_init rfl rfl mn_X7_33 rfl ⟨by decide, by decide⟩ (ac' := 2 * n + c) (as' := 130 * n + s) rfl rfl (Nat.le_of_ble_eq_true rfl) rfl dX7_init_76 ?_
    rintro v h2 ⟨rfl, rfl⟩
    refine G_aastore 80 rfl (ci := 12) (cv := 1) i rfl ⟨kLL.1, l2.1, show aLL E m < hn h + 1 + 1 by omega⟩ (by decide) (by decide) (by decide) rfl (b := aLs E m i) ⟨kLs, l3, show aLs E m i < hn h + 1 + 1 by omega⟩ (by rw [kLL.2]; omega) (by omega) dX7_init_79 ?_
    refine G_iinc 83 rfl (nI (i + 1)) rfl (inc1 i) (by decide) dX7_init_80 ?_
    refine G_goto 61 (by decide) dX7_init_83 ?_
    have old : ∀ b, b < aLs E m i → b ≠ aLL E m → cl (sQ (sR (sN (sN h)) 64 (aLs E m i) (some (hn (sN h)))) (aLL E m) i (some (aLs E m i))) b = cl h b := fun b hb hb2 => by
      rw [cl_sQ, if_neg hb2, cl_sR, if_neg (by omega), cl_sN, if_neg (by rw [hn_sN]; omega), cl_sN, if_neg (by omega)]
    refine ih (i + 1) (by omega) _ ⟨?_, ?_, ?_, fun p hp => ?_, ?_, fun c hc => ?_⟩
    · show hn h + 1 + 1 = _; rw [i1]; simp only [aLs]; omega
    · rw [old _ (by simp only [aX, aLs]; omega) (by simp only [aX, aLL]; omega)]; exact i2
    · rw [old _ (by simp only [aPA, aLs]; omega) (by simp only [aPA, aLL]; omega)]; exact i3
    · exact (i4 p hp).keep (fun b hb1 hb2 => old b (by simp only [aP] at hb2; simp only [aLs]; omega) (by simp only [aP] at hb2; simp only [aLL]; omega))
    · rw [cl_sQ, if_pos rfl, cl_sR, if_neg (by simp only [aLL, aLs]; omega), cl_sN, if_neg (by rw [hn_sN]; omega), cl_sN, if_neg (by omega), i5]; exact QC_s _ i
    · by_cases hci : c = i
      · subst hci
        refine ⟨?_, ?_⟩
        · rw [cl_sQ, if_neg (by simp only [aLL, aLs]; omega), cl_sR, if_pos rfl, cl_sN, if_neg (by rw [hn_sN]; omega), cl_sN, if_pos i1.symm, hn_sN, e1]
        · rw [cl_sQ, if_neg (by simp only [aLL, aLA]; omega), cl_sR, if_neg (by simp only [aLs, aLA]; omega), cl_sN, if_pos (by rw [hn_sN, e1])]
      · rw [old _ (by simp only [aLs]; omega) (by simp only [aLs, aLL]; omega), old _ (by simp only [aLs, aLA]; omega) (by simp only [aLA, aLL]; omega)]
        exact i6 c (by omega)

set_option maxHeartbeats 4000000 in
set_option maxRecDepth 100000 in
theorem c_X7_init (hL : LY E m) (k : Int32) (hkm : (if 2 < (if k < 16 then k else 16) then (if k < 16 then k else 16) else 2) = nI m) (hhn : hn h = aPA E) (hz : cl h (aX E) = c0) : Cn E mX7_init (rk 3 228 3882) h [.ref (aX E), .int k] (fun v h' => v = none ∧ CI E m h') := by
  refine Cn_of (by decide) rfl (by simp [Value.category]) (Nat.le_of_ble_eq_true rfl) ?_
  have hm := hL.1
  have kX : eK E (aX E) = 7 := hL.k (ci := 7) (i := 0) (by decide) rfl
  have l1 : eB E ≤ aX E ∧ aX E < hn h := by rw [hhn]; simp only [aX, aPA]; omega
  refine G_aload_n 1 rfl rfl dX7_init_0 ?_
  refine G_objInit 4 rfl ml_X7_3 w_oi1 w_oi2 (Nat.le_of_ble_eq_true rfl) ⟨by decide, by decide⟩ dX7_init_1 ?_
  refine G_iconst 5 rfl (2) (by decide) dX7_init_4 ?_
  refine G_bipush 7 rfl (16) (by decide) dX7_init_5 ?_
  refine G_iload_n 8 rfl rfl dX7_init_7 ?_
  refine G_mmin 11 rfl w_min_lX7 ⟨by decide, by decide⟩ (Nat.le_of_ble_eq_true rfl) dX7_init_8 ?_
  refine G_mmax 14 rfl w_max_lX7 ⟨by decide, by decide⟩ (Nat.le_of_ble_eq_true rfl) dX7_init_11 ?_
  rw [hkm]
  refine G_istore_n 15 rfl (by decide) dX7_init_14 ?_
  refine G_aload_n 16 rfl rfl dX7_init_15 ?_
  refine G_iload_n 17 rfl rfl dX7_init_16 ?_
  refine G_anew 20 rfl (ci := 14) (N := m) (by decide) (by decide) rfl cl_X7_18 rfl (by omega) (by rw [hhn]; exact hL.2.2.1.1) (by rw [hhn]; exact hL.2.2.1.2) (ac' := 227) (as' := 3882 - m) rfl (by show 3882 = _; omega) dX7_init_17 ?_
  refine G_putFR 23 rfl (ci := 7) (k := 0) fl_X7_20 ⟨rfl, rfl, rfl⟩ ⟨rfl, rfl⟩ ⟨kX, l1.1, show aX E < hn h + 1 by omega⟩ dX7_init_20 ?_
  refine G_iconst 24 rfl (0) (by decide) dX7_init_23 ?_
  refine G_istore_n 25 rfl (by decide) dX7_init_24 ?_
  have e1 : (227 : Nat) = 13 * m + (227 - 13 * m) := by omega
  have e2 : 3882 - m = 76 * m + (3882 - 77 * m) := by omega
  rw [e1, e2]
  refine lp1_X7_init hL (k := k) (227 - 13 * m) (3882 - 77 * m) ?_ m 0 (by omega) _ ⟨?_, ?_, ?_, fun p hp => by omega⟩
  · intro h hI
    obtain ⟨i1, i2, i3, i4⟩ := hI
    have l1 : eB E ≤ aX E ∧ aX E < hn h := by rw [i1]; simp only [aX, aP]; omega
    have kLL := hL.2.2.2.2.1
    have eLL : hn h = aLL E m := i1
    refine G_aload_n 51 rfl rfl dX7_init_50 ?_
    refine G_bipush 53 rfl (8) (by decide) dX7_init_51 ?_
    refine G_anew 56 rfl (ci := 12) (N := 8) (by decide) (by decide) rfl cl_X7_27 rfl (by omega) (by rw [eLL]; exact kLL.1) (by rw [eLL]; exact kLL.2) (ac' := 226 - 13 * m) (as' := 3882 - 77 * m - 8) (by omega) (by omega) dX7_init_53 ?_
    refine G_putFR 59 rfl (ci := 7) (k := 1) fl_X7_29 ⟨rfl, rfl, rfl⟩ ⟨rfl, rfl⟩ ⟨kX, l1.1, show aX E < hn h + 1 by omega⟩ dX7_init_56 ?_
    refine G_iconst 60 rfl (0) (by decide) dX7_init_59 ?_
    refine G_istore_n 61 rfl (by decide) dX7_init_60 ?_
    have e3 : 226 - 13 * m = 2 * 8 + (210 - 13 * m) := by omega
    have e4 : 3882 - 77 * m - 8 = 130 * 8 + (2834 - 77 * m) := by omega
    rw [e3, e4]
    refine lp2_X7_init hL (k := k) (210 - 13 * m) (2834 - 77 * m) ?_ 8 0 (by omega) _ ⟨?_, ?_, ?_, fun p hp => ?_, ?_, fun c hc => by omega⟩
    · intro h hI
      obtain ⟨j1, j2, j3, j4, j5, j6⟩ := hI
      have eh : hn h = aPL E m := by rw [j1]; simp only [aLs, aPL]; omega
      have e5 : hn h + 1 = aPP E m := by rw [eh]; simp only [aPL, aPP]; omega
      have l1 : eB E ≤ aX E ∧ aX E < hn h := by rw [eh]; simp only [aX, aPL]; omega
      have kPL : eK E (aPL E m) = 4 := hL.k (ci := 4) (i := 0) (by decide) rfl
      have kPP := hL.2.2.2.2.2.2.1
      refine G_aload_n 87 rfl rfl dX7_init_86 ?_
      refine G_new 90 rfl (ci := 4) (by decide) cl_X7_34 w_in4 w_it4 (by rw [eh]; exact kPL) (ac' := 209 - 13 * m) (as' := 2834 - 77 * m - 2) (by omega) (by show _ = _ - 2 + 2; omega) dX7_init_87 ?_
      refine G_dup 91 rfl rfl dX7_init_90 ?_
      rw [eh]
      refine G_callN 94 rfl [] (c_X4_init (a := aPL E m) ⟨kPL, by simp only [aPL]; omega, by rw [hn_sN]; omega⟩ (by rw [hn_sN, e5]; exact kPP.1) (by rw [hn_sN, e5]; exact kPP.2)) ok_X4_init oi_X4_init rfl rfl mn_X7_36 rfl ⟨by decide, by decide⟩ (ac' := 208 - 13 * m) (as' := 1232 - 77 * m) (by show _ = _ + 1; omega) (by show _ = _ + 1600; omega) (Nat.le_of_ble_eq_true rfl) rfl dX7_init_91 ?_
      rintro v h2 ⟨rfl, rfl⟩
      refine G_putFR 97 rfl (ci := 7) (k := 2) fl_X7_37 ⟨rfl, rfl, rfl⟩ ⟨rfl, rfl⟩ ⟨kX, l1.1, show aX E < hn h + 1 + 1 by omega⟩ dX7_init_94 ?_
      refine G_ret rfl ?_ dX7_init_97
      have old : ∀ b, b < aPL E m → b ≠ aX E → cl (sR (sR (sN (sN h)) 256 (aPL E m) (some (hn (sN h)))) 450 (aX E) (some (aPL E m))) b = cl h b := fun b hb hb2 => by
        rw [cl_sR, if_neg hb2, cl_sR, if_neg (by omega), cl_sN, if_neg (by rw [hn_sN]; omega), cl_sN, if_neg (by omega)]
      refine ⟨rfl, ?_, ?_, ?_, fun p hp => ?_, ?_, fun c hc => ?_, ?_, ?_⟩
      · show hn h + 1 + 1 = _; rw [eh]; simp only [aPL, aM]; omega
      · rw [cl_sR, if_pos rfl, cl_sR, if_neg (by simp only [aX, aPL]; omega), cl_sN, if_neg (by rw [hn_sN]; omega), cl_sN, if_neg (by omega), j2]
      · rw [old _ (by simp only [aPA, aPL]; omega) (by simp only [aPA, aX]; omega)]; exact j3
      · exact (j4 p hp).keep (fun b hb1 hb2 => old b (by simp only [aP] at hb2; simp only [aPL]; omega) (by simp only [aP] at hb1; simp only [aX]; omega))
      · rw [old _ (by simp only [aLL, aPL]; omega) (by simp only [aLL, aX]; omega)]; exact j5
      · rw [old _ (by simp only [aLs, aPL]; omega) (by simp only [aLs, aX]; omega), old _ (by simp only [aLA, aPL]; omega) (by simp only [aLA, aX]; omega)]; exact j6 c hc
      · rw [cl_sR, if_neg (by simp only [aX, aPL]; omega), cl_sR, if_pos rfl, cl_sN, if_neg (by rw [hn_sN]; omega), cl_sN, if_pos eh.symm, hn_sN, e5]
      · rw [cl_sR, if_neg (by simp only [aX, aPP]; omega), cl_sR, if_neg (by simp only [aPL, aPP]; omega), cl_sN, if_pos (by rw [hn_sN, e5])]
    · show hn h + 1 = _; rw [eLL]; simp only [aLL, aLs]; omega
    · rw [cl_sR, if_pos rfl, cl_sN, if_neg (by omega), i2, eLL]
    · rw [cl_sR, if_neg (by simp only [aX, aPA]; omega), cl_sN, if_neg (by rw [eLL]; simp only [aPA, aLL]; omega)]; exact i3
    · exact (i4 p hp).keep (fun b hb1 hb2 => by rw [cl_sR, if_neg (by simp only [aP] at hb1; simp only [aX]; omega), cl_sN, if_neg (by rw [eLL]; simp only [aP] at hb2; simp only [aLL]; omega)])
    · rw [cl_sR, if_neg (by simp only [aX, aLL]; omega), cl_sN, if_pos eLL.symm, QC_0]
  · show hn h + 1 = _; rw [hhn]; simp only [aPA, aP]
  · rw [cl_sR, if_pos rfl, cl_sN, if_neg (by omega), hz, hhn]
  · rw [cl_sR, if_neg (by simp only [aX, aPA]; omega), cl_sN, if_pos hhn.symm, QC_0]

def kf (n : Nat) : Nat := if n < 24 then n + 7 else n + 8
theorem kf_is {n : Nat} (hn : n < 33) : isMA (kf n) := by unfold kf isMA; split <;> omega
theorem aMA_kf (E : Ev) (m : Nat) {n : Nat} (hn : n < 33) : aMA E m (kf n) = aM E m + 1 + n := by
  unfold aMA kf
  split <;> split <;> omega
def MC (E : Ev) (m n : Nat) : Cl := (c0.1, fun f => if (519 ≤ f ∧ f ≤ 542) ∧ f - 519 < n then some (aM E m + 1 + (f - 519)) else if (544 ≤ f ∧ f ≤ 552) ∧ f - 520 < n then some (aM E m + 1 + (f - 520)) else none, c0.2.2)
theorem MC_s (E : Ev) (m : Nat) {n : Nat} (hn : n < 33) : kR (MC E m n) (512 + kf n) (some (aM E m + 1 + n)) = MC E m (n + 1) := by
  unfold kR MC
  refine Prod.ext rfl (Prod.ext ?_ rfl)
  funext f
  show (if f = 512 + kf n then some (aM E m + 1 + n) else if (519 ≤ f ∧ f ≤ 542) ∧ f - 519 < n then some (aM E m + 1 + (f - 519)) else if (544 ≤ f ∧ f ≤ 552) ∧ f - 520 < n then some (aM E m + 1 + (f - 520)) else none) = if (519 ≤ f ∧ f ≤ 542) ∧ f - 519 < n + 1 then some (aM E m + 1 + (f - 519)) else if (544 ≤ f ∧ f ≤ 552) ∧ f - 520 < n + 1 then some (aM E m + 1 + (f - 520)) else none
  by_cases hf : f = 512 + kf n
  · rw [if_pos hf]
    unfold kf at hf
    by_cases h24 : n < 24
    · rw [if_pos h24] at hf
      rw [if_pos (by omega), show f - 519 = n by omega]
    · rw [if_neg h24] at hf
      rw [if_neg (by omega), if_pos (by omega), show f - 520 = n by omega]
  · rw [if_neg hf]
    unfold kf at hf
    have c1 : ((519 ≤ f ∧ f ≤ 542) ∧ f - 519 < n) ↔ ((519 ≤ f ∧ f ≤ 542) ∧ f - 519 < n + 1) := by split at hf <;> omega
    have c2 : ((544 ≤ f ∧ f ≤ 552) ∧ f - 520 < n) ↔ ((544 ≤ f ∧ f ≤ 552) ∧ f - 520 < n + 1) := by split at hf <;> omega
    simp only [c1, c2]
theorem MC_0 (E : Ev) (m : Nat) : MC E m 0 = c0 := by
  unfold MC c0
  simp
/-- n of the model's arrays are made -/
def MI (E : Ev) (m : Nat) (h0 : Hp) (n : Nat) (h : Hp) : Prop := hn h = aM E m + 1 + n ∧ cl h (aM E m) = MC E m n ∧ (∀ i, i < n → cl h (aM E m + 1 + i) = c0) ∧ ∀ b, b < aM E m → cl h b = cl h0 b
theorem MI_s {h0 : Hp} {n : Nat} (hI : MI E m h0 n h) (h33 : n < 33) : MI E m h0 (n + 1) (sR (sN h) (512 + kf n) (aM E m) (some (hn h))) := by
  obtain ⟨i1, i2, i3, i4⟩ := hI
  refine ⟨?_, ?_, fun i hi => ?_, fun b hb => ?_⟩
  · show hn h + 1 = _; omega
  · rw [cl_sR, if_pos rfl, cl_sN, if_neg (by omega), i2, i1]; exact MC_s E m h33
  · rw [cl_sR, if_neg (by omega), cl_sN]
    by_cases hin : i = n
    · rw [if_pos (by omega)]
    · rw [if_neg (by omega)]; exact i3 i (by omega)
  · rw [cl_sR, if_neg (by omega), cl_sN, if_neg (by omega)]; exact i4 b hb
theorem MI_k {h0 : Hp} {n : Nat} (hL : LY E m) (hI : MI E m h0 n h) (h33 : n < 33) : eK E (hn h) = mKd (kf n) ∧ eN E (hn h) = mLn (kf n) := by
  rw [hI.1, ← aMA_kf E m h33]
  exact hL.2.2.2.2.2.2.2 _ (kf_is h33)
theorem MI_o {h0 : Hp} {n : Nat} (hL : LY E m) (hI : MI E m h0 n h) : eK E (aM E m) = 8 ∧ eB E ≤ aM E m ∧ aM E m < hn h + 1 := ⟨hL.k (ci := 8) (i := 0) (by decide) rfl, by simp only [aM]; omega, by rw [hI.1]; omega⟩

set_option maxHeartbeats 4000000 in
set_option maxRecDepth 100000 in
theorem c_X8_init (hL : LY E m) (k : Int32) (hkm : (if k < 2 then 2 else if 16 < k then 16 else k) = nI m) (hhn : hn h = aM E m + 1) (hz : cl h (aM E m) = c0) : Cn E mX8_init (rk 1 33 35244) h [.ref (aM E m), .int k] (fun v h' => v = none ∧ ∃ h1, MI E m h 33 h1 ∧ h' = sI h1 512 (aM E m) (nI m)) := by
  refine Cn_of (by decide) rfl (by simp [Value.category]) (Nat.le_of_ble_eq_true rfl) ?_
  have hI0 : MI E m h 0 h := ⟨by rw [hhn], by rw [hz, MC_0], fun i hi => by omega, fun b _ => rfl⟩
  refine G_aload_n 1 rfl rfl dX8_init_0 ?_
  refine G_objInit 4 rfl ml_X8_1 w_oi1 w_oi2 (Nat.le_of_ble_eq_true rfl) ⟨by decide, by decide⟩ dX8_init_1 ?_
  refine G_aload_n 5 rfl rfl dX8_init_4 ?_
  refine G_bipush 7 rfl (16) (by decide) dX8_init_5 ?_
  refine G_newI 9 rfl (ci := 9) (at' := .int) (N := 16) (Or.inl ⟨rfl, rfl⟩) w_ai rfl (by omega) (MI_k hL hI0 (by omega)).1 (MI_k hL hI0 (by omega)).2 (ac' := 32) (as' := 35228) rfl rfl dX8_init_7 ?_
  refine G_putFR 12 rfl (ci := 8) (k := 7) fl_X8_9 ⟨rfl, rfl, rfl⟩ ⟨rfl, rfl⟩ (MI_o hL hI0) dX8_init_9 ?_
  have hI1 := MI_s hI0 (by omega)
  generalize hg0 : sR (sN h) (512 + kf 0) (aM E m) (some (hn h)) = h1 at hI1
  rw [show sR (sN h) (64 * 8 + 7) (aM E m) (some (hn h)) = h1 from hg0]
  refine G_aload_n 13 rfl rfl dX8_init_12 ?_
  refine G_bipush 15 rfl (16) (by decide) dX8_init_13 ?_
  refine G_newI 17 rfl (ci := 9) (at' := .int) (N := 16) (Or.inl ⟨rfl, rfl⟩) w_ai rfl (by omega) (MI_k hL hI1 (by omega)).1 (MI_k hL hI1 (by omega)).2 (ac' := 31) (as' := 35212) rfl rfl dX8_init_15 ?_
  refine G_putFR 20 rfl (ci := 8) (k := 8) fl_X8_13 ⟨rfl, rfl, rfl⟩ ⟨rfl, rfl⟩ (MI_o hL hI1) dX8_init_17 ?_
  have hI2 := MI_s hI1 (by omega)
  generalize hg1 : sR (sN h1) (512 + kf 1) (aM E m) (some (hn h1)) = h2 at hI2
  rw [show sR (sN h1) (64 * 8 + 8) (aM E m) (some (hn h1)) = h2 from hg1]
  refine G_aload_n 21 rfl rfl dX8_init_20 ?_
  refine G_sipush 24 rfl (128) (by decide) dX8_init_21 ?_
  refine G_newI 26 rfl (ci := 9) (at' := .int) (N := 128) (Or.inl ⟨rfl, rfl⟩) w_ai rfl (by omega) (MI_k hL hI2 (by omega)).1 (MI_k hL hI2 (by omega)).2 (ac' := 30) (as' := 35084) rfl rfl dX8_init_24 ?_
  refine G_putFR 29 rfl (ci := 8) (k := 9) fl_X8_16 ⟨rfl, rfl, rfl⟩ ⟨rfl, rfl⟩ (MI_o hL hI2) dX8_init_26 ?_
  have hI3 := MI_s hI2 (by omega)
  generalize hg2 : sR (sN h2) (512 + kf 2) (aM E m) (some (hn h2)) = h3 at hI3
  rw [show sR (sN h2) (64 * 8 + 9) (aM E m) (some (hn h2)) = h3 from hg2]
  refine G_aload_n 30 rfl rfl dX8_init_29 ?_
  refine G_sipush 33 rfl (128) (by decide) dX8_init_30 ?_
  refine G_newI 35 rfl (ci := 9) (at' := .int) (N := 128) (Or.inl ⟨rfl, rfl⟩) w_ai rfl (by omega) (MI_k hL hI3 (by omega)).1 (MI_k hL hI3 (by omega)).2 (ac' := 29) (as' := 34956) rfl rfl dX8_init_33 ?_
  refine G_putFR 38 rfl (ci := 8) (k := 10) fl_X8_19 ⟨rfl, rfl, rfl⟩ ⟨rfl, rfl⟩ (MI_o hL hI3) dX8_init_35 ?_
  have hI4 := MI_s hI3 (by omega)
  generalize hg3 : sR (sN h3) (512 + kf 3) (aM E m) (some (hn h3)) = h4 at hI4
  rw [show sR (sN h3) (64 * 8 + 10) (aM E m) (some (hn h3)) = h4 from hg3]
  refine G_aload_n 39 rfl rfl dX8_init_38 ?_
  refine G_sipush 42 rfl (128) (by decide) dX8_init_39 ?_
  refine G_newI 44 rfl (ci := 9) (at' := .int) (N := 128) (Or.inl ⟨rfl, rfl⟩) w_ai rfl (by omega) (MI_k hL hI4 (by omega)).1 (MI_k hL hI4 (by omega)).2 (ac' := 28) (as' := 34828) rfl rfl dX8_init_42 ?_
  refine G_putFR 47 rfl (ci := 8) (k := 11) fl_X8_22 ⟨rfl, rfl, rfl⟩ ⟨rfl, rfl⟩ (MI_o hL hI4) dX8_init_44 ?_
  have hI5 := MI_s hI4 (by omega)
  generalize hg4 : sR (sN h4) (512 + kf 4) (aM E m) (some (hn h4)) = h5 at hI5
  rw [show sR (sN h4) (64 * 8 + 11) (aM E m) (some (hn h4)) = h5 from hg4]
  refine G_aload_n 48 rfl rfl dX8_init_47 ?_
  refine G_sipush 51 rfl (128) (by decide) dX8_init_48 ?_
  refine G_newI 53 rfl (ci := 10) (at' := .boolean) (N := 128) (Or.inr ⟨rfl, rfl⟩) w_az rfl (by omega) (MI_k hL hI5 (by omega)).1 (MI_k hL hI5 (by omega)).2 (ac' := 27) (as' := 34700) rfl rfl dX8_init_51 ?_
  refine G_putFR 56 rfl (ci := 8) (k := 12) fl_X8_25 ⟨rfl, rfl, rfl⟩ ⟨rfl, rfl⟩ (MI_o hL hI5) dX8_init_53 ?_
  have hI6 := MI_s hI5 (by omega)
  generalize hg5 : sR (sN h5) (512 + kf 5) (aM E m) (some (hn h5)) = h6 at hI6
  rw [show sR (sN h5) (64 * 8 + 12) (aM E m) (some (hn h5)) = h6 from hg5]
  refine G_aload_n 57 rfl rfl dX8_init_56 ?_
  refine G_bipush 59 rfl (16) (by decide) dX8_init_57 ?_
  refine G_newI 61 rfl (ci := 9) (at' := .int) (N := 16) (Or.inl ⟨rfl, rfl⟩) w_ai rfl (by omega) (MI_k hL hI6 (by omega)).1 (MI_k hL hI6 (by omega)).2 (ac' := 26) (as' := 34684) rfl rfl dX8_init_59 ?_
  refine G_putFR 64 rfl (ci := 8) (k := 13) fl_X8_29 ⟨rfl, rfl, rfl⟩ ⟨rfl, rfl⟩ (MI_o hL hI6) dX8_init_61 ?_
  have hI7 := MI_s hI6 (by omega)
  generalize hg6 : sR (sN h6) (512 + kf 6) (aM E m) (some (hn h6)) = h7 at hI7
  rw [show sR (sN h6) (64 * 8 + 13) (aM E m) (some (hn h6)) = h7 from hg6]
  refine G_aload_n 65 rfl rfl dX8_init_64 ?_
  refine G_bipush 67 rfl (16) (by decide) dX8_init_65 ?_
  refine G_newI 69 rfl (ci := 9) (at' := .int) (N := 16) (Or.inl ⟨rfl, rfl⟩) w_ai rfl (by omega) (MI_k hL hI7 (by omega)).1 (MI_k hL hI7 (by omega)).2 (ac' := 25) (as' := 34668) rfl rfl dX8_init_67 ?_
  refine G_putFR 72 rfl (ci := 8) (k := 14) fl_X8_32 ⟨rfl, rfl, rfl⟩ ⟨rfl, rfl⟩ (MI_o hL hI7) dX8_init_69 ?_
  have hI8 := MI_s hI7 (by omega)
  generalize hg7 : sR (sN h7) (512 + kf 7) (aM E m) (some (hn h7)) = h8 at hI8
  rw [show sR (sN h7) (64 * 8 + 14) (aM E m) (some (hn h7)) = h8 from hg7]
  refine G_aload_n 73 rfl rfl dX8_init_72 ?_
  refine G_bipush 75 rfl (16) (by decide) dX8_init_73 ?_
  refine G_newI 77 rfl (ci := 9) (at' := .int) (N := 16) (Or.inl ⟨rfl, rfl⟩) w_ai rfl (by omega) (MI_k hL hI8 (by omega)).1 (MI_k hL hI8 (by omega)).2 (ac' := 24) (as' := 34652) rfl rfl dX8_init_75 ?_
  refine G_putFR 80 rfl (ci := 8) (k := 15) fl_X8_35 ⟨rfl, rfl, rfl⟩ ⟨rfl, rfl⟩ (MI_o hL hI8) dX8_init_77 ?_
  have hI9 := MI_s hI8 (by omega)
  generalize hg8 : sR (sN h8) (512 + kf 8) (aM E m) (some (hn h8)) = h9 at hI9
  rw [show sR (sN h8) (64 * 8 + 15) (aM E m) (some (hn h8)) = h9 from hg8]
  refine G_aload_n 81 rfl rfl dX8_init_80 ?_
  refine G_bipush 83 rfl (16) (by decide) dX8_init_81 ?_
  refine G_newI 85 rfl (ci := 9) (at' := .int) (N := 16) (Or.inl ⟨rfl, rfl⟩) w_ai rfl (by omega) (MI_k hL hI9 (by omega)).1 (MI_k hL hI9 (by omega)).2 (ac' := 23) (as' := 34636) rfl rfl dX8_init_83 ?_
  refine G_putFR 88 rfl (ci := 8) (k := 16) fl_X8_38 ⟨rfl, rfl, rfl⟩ ⟨rfl, rfl⟩ (MI_o hL hI9) dX8_init_85 ?_
  have hI10 := MI_s hI9 (by omega)
  generalize hg9 : sR (sN h9) (512 + kf 9) (aM E m) (some (hn h9)) = h10 at hI10
  rw [show sR (sN h9) (64 * 8 + 16) (aM E m) (some (hn h9)) = h10 from hg9]
  refine G_aload_n 89 rfl rfl dX8_init_88 ?_
  refine G_bipush 91 rfl (16) (by decide) dX8_init_89 ?_
  refine G_newI 93 rfl (ci := 9) (at' := .int) (N := 16) (Or.inl ⟨rfl, rfl⟩) w_ai rfl (by omega) (MI_k hL hI10 (by omega)).1 (MI_k hL hI10 (by omega)).2 (ac' := 22) (as' := 34620) rfl rfl dX8_init_91 ?_
  refine G_putFR 96 rfl (ci := 8) (k := 17) fl_X8_41 ⟨rfl, rfl, rfl⟩ ⟨rfl, rfl⟩ (MI_o hL hI10) dX8_init_93 ?_
  have hI11 := MI_s hI10 (by omega)
  generalize hg10 : sR (sN h10) (512 + kf 10) (aM E m) (some (hn h10)) = h11 at hI11
  rw [show sR (sN h10) (64 * 8 + 17) (aM E m) (some (hn h10)) = h11 from hg10]
  refine G_aload_n 97 rfl rfl dX8_init_96 ?_
  refine G_bipush 99 rfl (16) (by decide) dX8_init_97 ?_
  refine G_newI 101 rfl (ci := 9) (at' := .int) (N := 16) (Or.inl ⟨rfl, rfl⟩) w_ai rfl (by omega) (MI_k hL hI11 (by omega)).1 (MI_k hL hI11 (by omega)).2 (ac' := 21) (as' := 34604) rfl rfl dX8_init_99 ?_
  refine G_putFR 104 rfl (ci := 8) (k := 18) fl_X8_44 ⟨rfl, rfl, rfl⟩ ⟨rfl, rfl⟩ (MI_o hL hI11) dX8_init_101 ?_
  have hI12 := MI_s hI11 (by omega)
  generalize hg11 : sR (sN h11) (512 + kf 11) (aM E m) (some (hn h11)) = h12 at hI12
  rw [show sR (sN h11) (64 * 8 + 18) (aM E m) (some (hn h11)) = h12 from hg11]
  refine G_aload_n 105 rfl rfl dX8_init_104 ?_
  refine G_bipush 107 rfl (16) (by decide) dX8_init_105 ?_
  refine G_newI 109 rfl (ci := 9) (at' := .int) (N := 16) (Or.inl ⟨rfl, rfl⟩) w_ai rfl (by omega) (MI_k hL hI12 (by omega)).1 (MI_k hL hI12 (by omega)).2 (ac' := 20) (as' := 34588) rfl rfl dX8_init_107 ?_
  refine G_putFR 112 rfl (ci := 8) (k := 19) fl_X8_47 ⟨rfl, rfl, rfl⟩ ⟨rfl, rfl⟩ (MI_o hL hI12) dX8_init_109 ?_
  have hI13 := MI_s hI12 (by omega)
  generalize hg12 : sR (sN h12) (512 + kf 12) (aM E m) (some (hn h12)) = h13 at hI13
  rw [show sR (sN h12) (64 * 8 + 19) (aM E m) (some (hn h12)) = h13 from hg12]
  refine G_aload_n 113 rfl rfl dX8_init_112 ?_
  refine G_bipush 115 rfl (16) (by decide) dX8_init_113 ?_
  refine G_newI 117 rfl (ci := 10) (at' := .boolean) (N := 16) (Or.inr ⟨rfl, rfl⟩) w_az rfl (by omega) (MI_k hL hI13 (by omega)).1 (MI_k hL hI13 (by omega)).2 (ac' := 19) (as' := 34572) rfl rfl dX8_init_115 ?_
  refine G_putFR 120 rfl (ci := 8) (k := 20) fl_X8_50 ⟨rfl, rfl, rfl⟩ ⟨rfl, rfl⟩ (MI_o hL hI13) dX8_init_117 ?_
  have hI14 := MI_s hI13 (by omega)
  generalize hg13 : sR (sN h13) (512 + kf 13) (aM E m) (some (hn h13)) = h14 at hI14
  rw [show sR (sN h13) (64 * 8 + 20) (aM E m) (some (hn h13)) = h14 from hg13]
  refine G_aload_n 121 rfl rfl dX8_init_120 ?_
  refine G_bipush 123 rfl (16) (by decide) dX8_init_121 ?_
  refine G_newI 125 rfl (ci := 9) (at' := .int) (N := 16) (Or.inl ⟨rfl, rfl⟩) w_ai rfl (by omega) (MI_k hL hI14 (by omega)).1 (MI_k hL hI14 (by omega)).2 (ac' := 18) (as' := 34556) rfl rfl dX8_init_123 ?_
  refine G_putFR 128 rfl (ci := 8) (k := 21) fl_X8_53 ⟨rfl, rfl, rfl⟩ ⟨rfl, rfl⟩ (MI_o hL hI14) dX8_init_125 ?_
  have hI15 := MI_s hI14 (by omega)
  generalize hg14 : sR (sN h14) (512 + kf 14) (aM E m) (some (hn h14)) = h15 at hI15
  rw [show sR (sN h14) (64 * 8 + 21) (aM E m) (some (hn h14)) = h15 from hg14]
  refine G_aload_n 129 rfl rfl dX8_init_128 ?_
  refine G_bipush 131 rfl (16) (by decide) dX8_init_129 ?_
  refine G_newI 133 rfl (ci := 9) (at' := .int) (N := 16) (Or.inl ⟨rfl, rfl⟩) w_ai rfl (by omega) (MI_k hL hI15 (by omega)).1 (MI_k hL hI15 (by omega)).2 (ac' := 17) (as' := 34540) rfl rfl dX8_init_131 ?_
  refine G_putFR 136 rfl (ci := 8) (k := 22) fl_X8_56 ⟨rfl, rfl, rfl⟩ ⟨rfl, rfl⟩ (MI_o hL hI15) dX8_init_133 ?_
  have hI16 := MI_s hI15 (by omega)
  generalize hg15 : sR (sN h15) (512 + kf 15) (aM E m) (some (hn h15)) = h16 at hI16
  rw [show sR (sN h15) (64 * 8 + 22) (aM E m) (some (hn h15)) = h16 from hg15]
  refine G_aload_n 137 rfl rfl dX8_init_136 ?_
  refine G_bipush 139 rfl (16) (by decide) dX8_init_137 ?_
  refine G_newI 141 rfl (ci := 9) (at' := .int) (N := 16) (Or.inl ⟨rfl, rfl⟩) w_ai rfl (by omega) (MI_k hL hI16 (by omega)).1 (MI_k hL hI16 (by omega)).2 (ac' := 16) (as' := 34524) rfl rfl dX8_init_139 ?_
  refine G_putFR 144 rfl (ci := 8) (k := 23) fl_X8_59 ⟨rfl, rfl, rfl⟩ ⟨rfl, rfl⟩ (MI_o hL hI16) dX8_init_141 ?_
  have hI17 := MI_s hI16 (by omega)
  generalize hg16 : sR (sN h16) (512 + kf 16) (aM E m) (some (hn h16)) = h17 at hI17
  rw [show sR (sN h16) (64 * 8 + 23) (aM E m) (some (hn h16)) = h17 from hg16]
  refine G_aload_n 145 rfl rfl dX8_init_144 ?_
  refine G_bipush 147 rfl (16) (by decide) dX8_init_145 ?_
  refine G_newI 149 rfl (ci := 10) (at' := .boolean) (N := 16) (Or.inr ⟨rfl, rfl⟩) w_az rfl (by omega) (MI_k hL hI17 (by omega)).1 (MI_k hL hI17 (by omega)).2 (ac' := 15) (as' := 34508) rfl rfl dX8_init_147 ?_
  refine G_putFR 152 rfl (ci := 8) (k := 24) fl_X8_62 ⟨rfl, rfl, rfl⟩ ⟨rfl, rfl⟩ (MI_o hL hI17) dX8_init_149 ?_
  have hI18 := MI_s hI17 (by omega)
  generalize hg17 : sR (sN h17) (512 + kf 17) (aM E m) (some (hn h17)) = h18 at hI18
  rw [show sR (sN h17) (64 * 8 + 24) (aM E m) (some (hn h17)) = h18 from hg17]
  refine G_aload_n 153 rfl rfl dX8_init_152 ?_
  refine G_bipush 155 rfl (16) (by decide) dX8_init_153 ?_
  refine G_newI 157 rfl (ci := 10) (at' := .boolean) (N := 16) (Or.inr ⟨rfl, rfl⟩) w_az rfl (by omega) (MI_k hL hI18 (by omega)).1 (MI_k hL hI18 (by omega)).2 (ac' := 14) (as' := 34492) rfl rfl dX8_init_155 ?_
  refine G_putFR 160 rfl (ci := 8) (k := 25) fl_X8_65 ⟨rfl, rfl, rfl⟩ ⟨rfl, rfl⟩ (MI_o hL hI18) dX8_init_157 ?_
  have hI19 := MI_s hI18 (by omega)
  generalize hg18 : sR (sN h18) (512 + kf 18) (aM E m) (some (hn h18)) = h19 at hI19
  rw [show sR (sN h18) (64 * 8 + 25) (aM E m) (some (hn h18)) = h19 from hg18]
  refine G_aload_n 161 rfl rfl dX8_init_160 ?_
  refine G_bipush 163 rfl (16) (by decide) dX8_init_161 ?_
  refine G_newI 165 rfl (ci := 10) (at' := .boolean) (N := 16) (Or.inr ⟨rfl, rfl⟩) w_az rfl (by omega) (MI_k hL hI19 (by omega)).1 (MI_k hL hI19 (by omega)).2 (ac' := 13) (as' := 34476) rfl rfl dX8_init_163 ?_
  refine G_putFR 168 rfl (ci := 8) (k := 26) fl_X8_68 ⟨rfl, rfl, rfl⟩ ⟨rfl, rfl⟩ (MI_o hL hI19) dX8_init_165 ?_
  have hI20 := MI_s hI19 (by omega)
  generalize hg19 : sR (sN h19) (512 + kf 19) (aM E m) (some (hn h19)) = h20 at hI20
  rw [show sR (sN h19) (64 * 8 + 26) (aM E m) (some (hn h19)) = h20 from hg19]
  refine G_aload_n 169 rfl rfl dX8_init_168 ?_
  refine G_bipush 171 rfl (16) (by decide) dX8_init_169 ?_
  refine G_newI 173 rfl (ci := 9) (at' := .int) (N := 16) (Or.inl ⟨rfl, rfl⟩) w_ai rfl (by omega) (MI_k hL hI20 (by omega)).1 (MI_k hL hI20 (by omega)).2 (ac' := 12) (as' := 34460) rfl rfl dX8_init_171 ?_
  refine G_putFR 176 rfl (ci := 8) (k := 27) fl_X8_71 ⟨rfl, rfl, rfl⟩ ⟨rfl, rfl⟩ (MI_o hL hI20) dX8_init_173 ?_
  have hI21 := MI_s hI20 (by omega)
  generalize hg20 : sR (sN h20) (512 + kf 20) (aM E m) (some (hn h20)) = h21 at hI21
  rw [show sR (sN h20) (64 * 8 + 27) (aM E m) (some (hn h20)) = h21 from hg20]
  refine G_aload_n 177 rfl rfl dX8_init_176 ?_
  refine G_bipush 179 rfl (16) (by decide) dX8_init_177 ?_
  refine G_newI 181 rfl (ci := 9) (at' := .int) (N := 16) (Or.inl ⟨rfl, rfl⟩) w_ai rfl (by omega) (MI_k hL hI21 (by omega)).1 (MI_k hL hI21 (by omega)).2 (ac' := 11) (as' := 34444) rfl rfl dX8_init_179 ?_
  refine G_putFR 184 rfl (ci := 8) (k := 28) fl_X8_74 ⟨rfl, rfl, rfl⟩ ⟨rfl, rfl⟩ (MI_o hL hI21) dX8_init_181 ?_
  have hI22 := MI_s hI21 (by omega)
  generalize hg21 : sR (sN h21) (512 + kf 21) (aM E m) (some (hn h21)) = h22 at hI22
  rw [show sR (sN h21) (64 * 8 + 28) (aM E m) (some (hn h21)) = h22 from hg21]
  refine G_aload_n 185 rfl rfl dX8_init_184 ?_
  refine G_bipush 187 rfl (16) (by decide) dX8_init_185 ?_
  refine G_newI 189 rfl (ci := 9) (at' := .int) (N := 16) (Or.inl ⟨rfl, rfl⟩) w_ai rfl (by omega) (MI_k hL hI22 (by omega)).1 (MI_k hL hI22 (by omega)).2 (ac' := 10) (as' := 34428) rfl rfl dX8_init_187 ?_
  refine G_putFR 192 rfl (ci := 8) (k := 29) fl_X8_77 ⟨rfl, rfl, rfl⟩ ⟨rfl, rfl⟩ (MI_o hL hI22) dX8_init_189 ?_
  have hI23 := MI_s hI22 (by omega)
  generalize hg22 : sR (sN h22) (512 + kf 22) (aM E m) (some (hn h22)) = h23 at hI23
  rw [show sR (sN h22) (64 * 8 + 29) (aM E m) (some (hn h22)) = h23 from hg22]
  refine G_aload_n 193 rfl rfl dX8_init_192 ?_
  refine G_bipush 195 rfl (16) (by decide) dX8_init_193 ?_
  refine G_newI 197 rfl (ci := 9) (at' := .int) (N := 16) (Or.inl ⟨rfl, rfl⟩) w_ai rfl (by omega) (MI_k hL hI23 (by omega)).1 (MI_k hL hI23 (by omega)).2 (ac' := 9) (as' := 34412) rfl rfl dX8_init_195 ?_
  refine G_putFR 200 rfl (ci := 8) (k := 30) fl_X8_80 ⟨rfl, rfl, rfl⟩ ⟨rfl, rfl⟩ (MI_o hL hI23) dX8_init_197 ?_
  have hI24 := MI_s hI23 (by omega)
  generalize hg23 : sR (sN h23) (512 + kf 23) (aM E m) (some (hn h23)) = h24 at hI24
  rw [show sR (sN h23) (64 * 8 + 30) (aM E m) (some (hn h23)) = h24 from hg23]
  refine G_aload_n 201 rfl rfl dX8_init_200 ?_
  refine G_sipush 204 rfl (130) (by decide) dX8_init_201 ?_
  refine G_newI 206 rfl (ci := 9) (at' := .int) (N := 130) (Or.inl ⟨rfl, rfl⟩) w_ai rfl (by omega) (MI_k hL hI24 (by omega)).1 (MI_k hL hI24 (by omega)).2 (ac' := 8) (as' := 34282) rfl rfl dX8_init_204 ?_
  refine G_putFR 209 rfl (ci := 8) (k := 32) fl_X8_83 ⟨rfl, rfl, rfl⟩ ⟨rfl, rfl⟩ (MI_o hL hI24) dX8_init_206 ?_
  have hI25 := MI_s hI24 (by omega)
  generalize hg24 : sR (sN h24) (512 + kf 24) (aM E m) (some (hn h24)) = h25 at hI25
  rw [show sR (sN h24) (64 * 8 + 32) (aM E m) (some (hn h24)) = h25 from hg24]
  refine G_aload_n 210 rfl rfl dX8_init_209 ?_
  refine G_sipush 213 rfl (130) (by decide) dX8_init_210 ?_
  refine G_newI 215 rfl (ci := 9) (at' := .int) (N := 130) (Or.inl ⟨rfl, rfl⟩) w_ai rfl (by omega) (MI_k hL hI25 (by omega)).1 (MI_k hL hI25 (by omega)).2 (ac' := 7) (as' := 34152) rfl rfl dX8_init_213 ?_
  refine G_putFR 218 rfl (ci := 8) (k := 33) fl_X8_86 ⟨rfl, rfl, rfl⟩ ⟨rfl, rfl⟩ (MI_o hL hI25) dX8_init_215 ?_
  have hI26 := MI_s hI25 (by omega)
  generalize hg25 : sR (sN h25) (512 + kf 25) (aM E m) (some (hn h25)) = h26 at hI26
  rw [show sR (sN h25) (64 * 8 + 33) (aM E m) (some (hn h25)) = h26 from hg25]
  refine G_aload_n 219 rfl rfl dX8_init_218 ?_
  refine G_sipush 222 rfl (130) (by decide) dX8_init_219 ?_
  refine G_newI 224 rfl (ci := 9) (at' := .int) (N := 130) (Or.inl ⟨rfl, rfl⟩) w_ai rfl (by omega) (MI_k hL hI26 (by omega)).1 (MI_k hL hI26 (by omega)).2 (ac' := 6) (as' := 34022) rfl rfl dX8_init_222 ?_
  refine G_putFR 227 rfl (ci := 8) (k := 34) fl_X8_89 ⟨rfl, rfl, rfl⟩ ⟨rfl, rfl⟩ (MI_o hL hI26) dX8_init_224 ?_
  have hI27 := MI_s hI26 (by omega)
  generalize hg26 : sR (sN h26) (512 + kf 26) (aM E m) (some (hn h26)) = h27 at hI27
  rw [show sR (sN h26) (64 * 8 + 34) (aM E m) (some (hn h26)) = h27 from hg26]
  refine G_aload_n 228 rfl rfl dX8_init_227 ?_
  refine G_sipush 231 rfl (130) (by decide) dX8_init_228 ?_
  refine G_newI 233 rfl (ci := 9) (at' := .int) (N := 130) (Or.inl ⟨rfl, rfl⟩) w_ai rfl (by omega) (MI_k hL hI27 (by omega)).1 (MI_k hL hI27 (by omega)).2 (ac' := 5) (as' := 33892) rfl rfl dX8_init_231 ?_
  refine G_putFR 236 rfl (ci := 8) (k := 35) fl_X8_92 ⟨rfl, rfl, rfl⟩ ⟨rfl, rfl⟩ (MI_o hL hI27) dX8_init_233 ?_
  have hI28 := MI_s hI27 (by omega)
  generalize hg27 : sR (sN h27) (512 + kf 27) (aM E m) (some (hn h27)) = h28 at hI28
  rw [show sR (sN h27) (64 * 8 + 35) (aM E m) (some (hn h27)) = h28 from hg27]
  refine G_aload_n 237 rfl rfl dX8_init_236 ?_
  refine G_sipush 240 rfl (130) (by decide) dX8_init_237 ?_
  refine G_newI 242 rfl (ci := 9) (at' := .int) (N := 130) (Or.inl ⟨rfl, rfl⟩) w_ai rfl (by omega) (MI_k hL hI28 (by omega)).1 (MI_k hL hI28 (by omega)).2 (ac' := 4) (as' := 33762) rfl rfl dX8_init_240 ?_
  refine G_putFR 245 rfl (ci := 8) (k := 36) fl_X8_95 ⟨rfl, rfl, rfl⟩ ⟨rfl, rfl⟩ (MI_o hL hI28) dX8_init_242 ?_
  have hI29 := MI_s hI28 (by omega)
  generalize hg28 : sR (sN h28) (512 + kf 28) (aM E m) (some (hn h28)) = h29 at hI29
  rw [show sR (sN h28) (64 * 8 + 36) (aM E m) (some (hn h28)) = h29 from hg28]
  refine G_aload_n 246 rfl rfl dX8_init_245 ?_
  refine G_sipush 249 rfl (130) (by decide) dX8_init_246 ?_
  refine G_newI 251 rfl (ci := 9) (at' := .int) (N := 130) (Or.inl ⟨rfl, rfl⟩) w_ai rfl (by omega) (MI_k hL hI29 (by omega)).1 (MI_k hL hI29 (by omega)).2 (ac' := 3) (as' := 33632) rfl rfl dX8_init_249 ?_
  refine G_putFR 254 rfl (ci := 8) (k := 37) fl_X8_98 ⟨rfl, rfl, rfl⟩ ⟨rfl, rfl⟩ (MI_o hL hI29) dX8_init_251 ?_
  have hI30 := MI_s hI29 (by omega)
  generalize hg29 : sR (sN h29) (512 + kf 29) (aM E m) (some (hn h29)) = h30 at hI30
  rw [show sR (sN h29) (64 * 8 + 37) (aM E m) (some (hn h29)) = h30 from hg29]
  refine G_aload_n 255 rfl rfl dX8_init_254 ?_
  refine G_sipush 258 rfl (1600) (by decide) dX8_init_255 ?_
  refine G_newI 260 rfl (ci := 9) (at' := .int) (N := 1600) (Or.inl ⟨rfl, rfl⟩) w_ai rfl (by omega) (MI_k hL hI30 (by omega)).1 (MI_k hL hI30 (by omega)).2 (ac' := 2) (as' := 32032) rfl rfl dX8_init_258 ?_
  refine G_putFR 263 rfl (ci := 8) (k := 38) fl_X8_101 ⟨rfl, rfl, rfl⟩ ⟨rfl, rfl⟩ (MI_o hL hI30) dX8_init_260 ?_
  have hI31 := MI_s hI30 (by omega)
  generalize hg30 : sR (sN h30) (512 + kf 30) (aM E m) (some (hn h30)) = h31 at hI31
  rw [show sR (sN h30) (64 * 8 + 38) (aM E m) (some (hn h30)) = h31 from hg30]
  refine G_aload_n 264 rfl rfl dX8_init_263 ?_
  refine G_sipush 267 rfl (16016) (by decide) dX8_init_264 ?_
  refine G_newI 269 rfl (ci := 9) (at' := .int) (N := 16016) (Or.inl ⟨rfl, rfl⟩) w_ai rfl (by omega) (MI_k hL hI31 (by omega)).1 (MI_k hL hI31 (by omega)).2 (ac' := 1) (as' := 16016) rfl rfl dX8_init_267 ?_
  refine G_putFR 272 rfl (ci := 8) (k := 39) fl_X8_104 ⟨rfl, rfl, rfl⟩ ⟨rfl, rfl⟩ (MI_o hL hI31) dX8_init_269 ?_
  have hI32 := MI_s hI31 (by omega)
  generalize hg31 : sR (sN h31) (512 + kf 31) (aM E m) (some (hn h31)) = h32 at hI32
  rw [show sR (sN h31) (64 * 8 + 39) (aM E m) (some (hn h31)) = h32 from hg31]
  refine G_aload_n 273 rfl rfl dX8_init_272 ?_
  refine G_sipush 276 rfl (16016) (by decide) dX8_init_273 ?_
  refine G_newI 278 rfl (ci := 10) (at' := .boolean) (N := 16016) (Or.inr ⟨rfl, rfl⟩) w_az rfl (by omega) (MI_k hL hI32 (by omega)).1 (MI_k hL hI32 (by omega)).2 (ac' := 0) (as' := 0) rfl rfl dX8_init_276 ?_
  refine G_putFR 281 rfl (ci := 8) (k := 40) fl_X8_107 ⟨rfl, rfl, rfl⟩ ⟨rfl, rfl⟩ (MI_o hL hI32) dX8_init_278 ?_
  have hI33 := MI_s hI32 (by omega)
  generalize hg32 : sR (sN h32) (512 + kf 32) (aM E m) (some (hn h32)) = h33 at hI33
  rw [show sR (sN h32) (64 * 8 + 40) (aM E m) (some (hn h32)) = h33 from hg32]
  refine G_aload_n 282 rfl rfl dX8_init_281 ?_
  refine G_iload_n 283 rfl rfl dX8_init_282 ?_
  refine G_iconst 284 rfl (2) (by decide) dX8_init_283 ?_
  refine G_icmp_ge 291 287 rfl (by decide) dX8_init_284 (fun c1 => ?_) (fun c1 => ?_)
  · rw [if_neg (Int32.not_lt.mpr c1)] at hkm
    refine G_iload_n 292 rfl rfl dX8_init_291 ?_
    refine G_bipush 294 rfl (16) (by decide) dX8_init_292 ?_
    refine G_icmp_le 302 297 rfl (by decide) dX8_init_294 (fun c2 => ?_) (fun c2 => ?_)
    · rw [if_neg (Int32.not_lt.mpr c2)] at hkm
      refine G_iload_n 303 rfl rfl dX8_init_302 ?_
      refine G_putFI 306 rfl (ci := 8) (k := 0) fl_X8_110 ⟨rfl, rfl, rfl⟩ ⟨rfl, rfl⟩ ⟨(MI_o hL hI33).1, (MI_o hL hI33).2.1, by rw [hI33.1]; omega⟩ dX8_init_303 ?_
      refine G_ret rfl ?_ dX8_init_306
      exact ⟨rfl, h33, hI33, by rw [hkm]⟩
    · rw [if_pos (Int32.not_le.mp c2)] at hkm
      refine G_bipush 299 rfl (16) (by decide) dX8_init_297 ?_
      refine G_goto 303 (by decide) dX8_init_299 ?_
      refine G_putFI 306 rfl (ci := 8) (k := 0) fl_X8_110 ⟨rfl, rfl, rfl⟩ ⟨rfl, rfl⟩ ⟨(MI_o hL hI33).1, (MI_o hL hI33).2.1, by rw [hI33.1]; omega⟩ dX8_init_303 ?_
      refine G_ret rfl ?_ dX8_init_306
      exact ⟨rfl, h33, hI33, by rw [hkm]⟩
  · rw [if_pos (Int32.not_le.mp c1)] at hkm
    refine G_iconst 288 rfl (2) (by decide) dX8_init_287 ?_
    refine G_goto 303 (by decide) dX8_init_288 ?_
    refine G_putFI 306 rfl (ci := 8) (k := 0) fl_X8_110 ⟨rfl, rfl, rfl⟩ ⟨rfl, rfl⟩ ⟨(MI_o hL hI33).1, (MI_o hL hI33).2.1, by rw [hI33.1]; omega⟩ dX8_init_303 ?_
    refine G_ret rfl ?_ dX8_init_306
    exact ⟨rfl, h33, hI33, by rw [hkm]⟩
end INIT2

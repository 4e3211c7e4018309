set_option maxHeartbeats 4000000 in
set_option maxRecDepth 100000 in
theorem c_X7_recordPair {E : Ev} {m : Nat} {σ : Sg} {τ : Tu} {h : Hp} (hR : RR E m σ τ h) {p : Nat} (hp : p < m) {q : Nat} (hq : q < m) {n : Nat} (hn : 1 ≤ n ∧ n ≤ sNp σ) {g : Nat} (hgg : g < 8 * m) {z : Nat} (hz : σ.1 257 0 = nI z) (hzb : z < 2 ^ 30) : Cn E mX7_recordPair (rk 1 0 0) h [.ref (aX E), .ref (aP E p), .ref (aP E q), .ref (aE E m n), .ref (aG E g)] (fun v h' => v = none ∧ RR E m (recP σ p q n g) τ h') := by
  refine Cn_of (by decide) rfl (by simp [Value.category]) (Nat.le_of_ble_eq_true rfl) ?_
  refine G_aload_n 1 rfl rfl dX7_recordPair_0 ?_
  refine G_x2 4 rfl hR fl_X7_37 dX7_recordPair_1 ?_
  refine G_aload_n 5 rfl rfl dX7_recordPair_4 ?_
  refine G_aload_n 6 rfl rfl dX7_recordPair_5 ?_
  refine G_aload 8 rfl rfl dX7_recordPair_6 ?_
  refine G_aload_n 9 rfl rfl dX7_recordPair_8 ?_
  refine G_gi 12 rfl hR 7 4 0 452 (σ.1 452 0) fl_X7_147 rfl rfl rfl rfl rfl dX7_recordPair_9 ?_
  refine G_callV 15 rfl [.ref (aP E p), .ref (aE E m n), .ref (aG E g), .int (σ.1 452 0)] (c_X4_add hR hp hn hgg hz hzb (σ.1 452 0)) ok_X4_add ov_X4_add ml_X7_324 (hR.ob (ci := 4) (i := 0) (by decide) rfl) ⟨by decide, rfl⟩ rfl ⟨by decide, by decide⟩ rfl rfl (Nat.le_of_ble_eq_true rfl) rfl dX7_recordPair_12 ?_
  rintro v h ⟨rfl, hR⟩
  refine G_aload_n 16 rfl rfl dX7_recordPair_15 ?_
  refine G_dup 17 rfl rfl dX7_recordPair_16 ?_
  refine G_gi 20 rfl hR 5 17 p 337 ((addP σ p n g (σ.1 452 0)).1 337 p) fl_X7_328 hp rfl rfl rfl rfl dX7_recordPair_17 ?_
  refine G_iconst 21 rfl (1) (by decide) dX7_recordPair_20 ?_
  refine G_iadd 22 rfl dX7_recordPair_21 ?_
  refine G_pi 25 rfl hR 5 17 p 337 fl_X7_328 hp rfl ⟨rfl, rfl⟩ rfl rfl dX7_recordPair_22 (fun h hR => ?_)
  refine G_aload_n 26 rfl rfl dX7_recordPair_25 ?_
  refine G_aload_n 27 rfl rfl dX7_recordPair_26 ?_
  refine G_callV 30 rfl [.ref (aP E p)] (c_X7_noteDouble hR hp) ok_X7_noteDouble ov_X7_noteDouble ml_X7_233 (hR.ob (ci := 7) (i := 0) (by decide) rfl) ⟨by decide, rfl⟩ rfl ⟨by decide, by decide⟩ rfl rfl (Nat.le_of_ble_eq_true rfl) rfl dX7_recordPair_27 ?_
  rintro v h ⟨rfl, hR⟩
  refine G_aload_n 31 rfl rfl dX7_recordPair_30 ?_
  refine G_dup 32 rfl rfl dX7_recordPair_31 ?_
  refine G_gi 35 rfl hR 5 17 q 337 ((pOf (addP σ p n g (σ.1 452 0)) p).1 337 q) fl_X7_328 hq rfl rfl rfl rfl dX7_recordPair_32 ?_
  refine G_iconst 36 rfl (1) (by decide) dX7_recordPair_35 ?_
  refine G_iadd 37 rfl dX7_recordPair_36 ?_
  refine G_pi 40 rfl hR 5 17 q 337 fl_X7_328 hq rfl ⟨rfl, rfl⟩ rfl rfl dX7_recordPair_37 (fun h hR => ?_)
  refine G_aload_n 41 rfl rfl dX7_recordPair_40 ?_
  refine G_aload_n 42 rfl rfl dX7_recordPair_41 ?_
  refine G_callV 45 rfl [.ref (aP E q)] (c_X7_noteDouble hR hq) ok_X7_noteDouble ov_X7_noteDouble ml_X7_233 (hR.ob (ci := 7) (i := 0) (by decide) rfl) ⟨by decide, rfl⟩ rfl ⟨by decide, by decide⟩ rfl rfl (Nat.le_of_ble_eq_true rfl) rfl dX7_recordPair_42 ?_
  rintro v h ⟨rfl, hR⟩
  refine G_ret rfl ?_ dX7_recordPair_45
  exact ⟨rfl, hR⟩

set_option maxHeartbeats 4000000 in
set_option maxRecDepth 100000 in
theorem c_X7_claimLower {E : Ev} {m : Nat} {σ : Sg} {τ : Tu} {h : Hp} (hR : RR E m σ τ h) {p : Nat} (hp : p < m) {q : Nat} (hq : q < m) {n : Nat} (hn : 1 ≤ n ∧ n ≤ sNp σ) {w : Nat} (hw : σ.1 336 p = nI w) (hwl : w ≤ (sPb σ p).length) : Cn E mX7_claimLower (rk 2 0 0) h [.ref (aX E), .ref (aP E p), .ref (aP E q), .ref (aE E m n)] (fun v h' => v = none ∧ (fun t : Nat => (tryOk σ p t n ∧ RR E m (up (tryY σ p t) 325 p 5) τ h') ∨ (¬ tryOk σ p t n ∧ t = p ∧ stl σ p ∧ RR E m (bWd (tryN σ) p) τ h') ∨ (¬ tryOk σ p t n ∧ ¬ (t = p ∧ stl σ p) ∧ RR E m (up (nBs (tryN σ) p t n) 325 p 3) τ h')) (loT p q)) := by
  refine Cn_of (by decide) rfl (by simp [Value.category]) (Nat.le_of_ble_eq_true rfl) ?_
  have hm := hR.1.1
  refine G_aload_n 1 rfl rfl dX7_claimLower_0 ?_
  refine G_p0 4 rfl hR fl_X7_241 hp dX7_claimLower_1 ?_
  refine G_aload_n 5 rfl rfl dX7_claimLower_4 ?_
  refine G_p0 8 rfl hR fl_X7_241 hq dX7_claimLower_5 ?_
  by_cases hpq : p < q
  · skip
    refine G_icmpF_ge 11 rfl (nI_ge hpq (by omega)) ⟨15, by decide⟩ dX7_claimLower_8 ?_
    refine G_aload_n 12 rfl rfl dX7_claimLower_11 ?_
    refine G_goto 16 (by decide) dX7_claimLower_12 ?_
    refine G_astore 18 rfl (by decide) dX7_claimLower_16 ?_
    refine G_aload_n 19 rfl rfl dX7_claimLower_18 ?_
    refine G_aload_n 20 rfl rfl dX7_claimLower_19 ?_
    refine G_aload 22 rfl rfl dX7_claimLower_20 ?_
    refine G_aload_n 23 rfl rfl dX7_claimLower_22 ?_
    refine G_callV 26 rfl [.ref (aP E p), .ref (aP E p), .ref (aE E m n)] (c_X7_tryWord hR hp hp hn) ok_X7_tryWord ov_X7_tryWord ml_X7_274 (hR.ob (ci := 7) (i := 0) (by decide) rfl) ⟨by decide, rfl⟩ rfl ⟨by decide, by decide⟩ rfl rfl (Nat.le_of_ble_eq_true rfl) rfl dX7_claimLower_23 ?_
    rintro v h (⟨ht1, rfl, hR⟩ | ⟨ht1, rfl, hR⟩)
    · skip
      refine G_ifF_eq 29 rfl (by decide) ⟨37, by decide⟩ dX7_claimLower_26 ?_
      refine G_aload_n 30 rfl rfl dX7_claimLower_29 ?_
      refine G_iconst 31 rfl (5) (by decide) dX7_claimLower_30 ?_
      refine G_pi 34 rfl hR 5 5 p 325 fl_X7_48 hp rfl ⟨rfl, rfl⟩ rfl rfl dX7_claimLower_31 (fun h hR => ?_)
      refine G_goto 72 (by decide) dX7_claimLower_34 ?_
      refine G_ret rfl ?_ dX7_claimLower_72
      refine ⟨rfl, ?_⟩
      unfold loT
      first | rw [if_pos hpq] | rw [if_neg hpq]
      exact Or.inl ⟨ht1, hR⟩
    · skip
      refine G_ifT_eq 37 (by decide) (by decide) dX7_claimLower_26 ?_
      refine G_aload 39 rfl rfl dX7_claimLower_37 ?_
      refine G_aload_n 40 rfl rfl dX7_claimLower_39 ?_
      refine G_acmp_ne 60 43 rfl (by decide) dX7_claimLower_40 (fun c40 => ?_) (fun c40 => ?_)
      · skip
        refine G_aload_n 61 rfl rfl dX7_claimLower_60 ?_
        refine G_aload 63 rfl rfl dX7_claimLower_61 ?_
        refine G_aload_n 64 rfl rfl dX7_claimLower_63 ?_
        refine G_callS 67 rfl [.ref (aP E p), .ref (aP E p), .ref (aE E m n)] (c_X7_noteBusy hR hp hp hn) ok_X7_noteBusy os_X7_noteBusy ml_X7_281 rfl ⟨by decide, by decide⟩ rfl rfl (Nat.le_of_ble_eq_true rfl) rfl dX7_claimLower_64 ?_
        rintro v h ⟨rfl, hR⟩
        refine G_aload_n 68 rfl rfl dX7_claimLower_67 ?_
        refine G_iconst 69 rfl (3) (by decide) dX7_claimLower_68 ?_
        refine G_pi 72 rfl hR 5 5 p 325 fl_X7_48 hp rfl ⟨rfl, rfl⟩ rfl rfl dX7_claimLower_69 (fun h hR => ?_)
        refine G_ret rfl ?_ dX7_claimLower_72
        refine ⟨rfl, ?_⟩
        unfold loT
        first | rw [if_pos hpq] | rw [if_neg hpq]
        exact Or.inr (Or.inr ⟨ht1, by first | exact fun z => hs z.2 | exact fun z => c40 (congrArg (aP E) z.1), hR⟩)
      · skip
        refine G_aload_n 44 rfl rfl dX7_claimLower_43 ?_
        refine G_p1 47 rfl hR fl_X7_63 hp dX7_claimLower_44 ?_
        refine G_callV 50 rfl [] (c_X6_isSettled hR hp) ok_X6_isSettled ov_X6_isSettled ml_X7_278 (hR.ob (ci := 6) (i := p) (by decide) hp) ⟨by decide, rfl⟩ rfl ⟨by decide, by decide⟩ rfl rfl (Nat.le_of_ble_eq_true rfl) rfl dX7_claimLower_47 ?_
        rintro v h' ⟨⟨hs, rfl⟩ | ⟨hs, rfl⟩, rfl⟩
        · skip
          refine G_ifF_eq 53 rfl (by decide) ⟨60, by decide⟩ dX7_claimLower_50 ?_
          refine G_aload_n 54 rfl rfl dX7_claimLower_53 ?_
          refine G_callV 57 rfl [] (c_X5_beginWithdraw hR hp (w := w) hw hwl) ok_X5_beginWithdraw ov_X5_beginWithdraw ml_X7_104 (hR.ob (ci := 5) (i := p) (by decide) hp) ⟨by decide, rfl⟩ rfl ⟨by decide, by decide⟩ rfl rfl (Nat.le_of_ble_eq_true rfl) rfl dX7_claimLower_54 ?_
          rintro v h ⟨rfl, hR⟩
          refine G_goto 72 (by decide) dX7_claimLower_57 ?_
          refine G_ret rfl ?_ dX7_claimLower_72
          refine ⟨rfl, ?_⟩
          unfold loT
          first | rw [if_pos hpq] | rw [if_neg hpq]
          exact Or.inr (Or.inl ⟨ht1, by first | rfl | exact aP_inj c40, hs, hR⟩)
        · skip
          refine G_ifT_eq 60 (by decide) (by decide) dX7_claimLower_50 ?_
          refine G_aload_n 61 rfl rfl dX7_claimLower_60 ?_
          refine G_aload 63 rfl rfl dX7_claimLower_61 ?_
          refine G_aload_n 64 rfl rfl dX7_claimLower_63 ?_
          refine G_callS 67 rfl [.ref (aP E p), .ref (aP E p), .ref (aE E m n)] (c_X7_noteBusy hR hp hp hn) ok_X7_noteBusy os_X7_noteBusy ml_X7_281 rfl ⟨by decide, by decide⟩ rfl rfl (Nat.le_of_ble_eq_true rfl) rfl dX7_claimLower_64 ?_
          rintro v h ⟨rfl, hR⟩
          refine G_aload_n 68 rfl rfl dX7_claimLower_67 ?_
          refine G_iconst 69 rfl (3) (by decide) dX7_claimLower_68 ?_
          refine G_pi 72 rfl hR 5 5 p 325 fl_X7_48 hp rfl ⟨rfl, rfl⟩ rfl rfl dX7_claimLower_69 (fun h hR => ?_)
          refine G_ret rfl ?_ dX7_claimLower_72
          refine ⟨rfl, ?_⟩
          unfold loT
          first | rw [if_pos hpq] | rw [if_neg hpq]
          exact Or.inr (Or.inr ⟨ht1, by first | exact fun z => hs z.2 | exact fun z => c40 (congrArg (aP E) z.1), hR⟩)
  · skip
    refine G_icmpT_ge 15 (nI_le (by omega) (by omega)) (by decide) dX7_claimLower_8 ?_
    refine G_aload_n 16 rfl rfl dX7_claimLower_15 ?_
    refine G_astore 18 rfl (by decide) dX7_claimLower_16 ?_
    refine G_aload_n 19 rfl rfl dX7_claimLower_18 ?_
    refine G_aload_n 20 rfl rfl dX7_claimLower_19 ?_
    refine G_aload 22 rfl rfl dX7_claimLower_20 ?_
    refine G_aload_n 23 rfl rfl dX7_claimLower_22 ?_
    refine G_callV 26 rfl [.ref (aP E p), .ref (aP E q), .ref (aE E m n)] (c_X7_tryWord hR hp hq hn) ok_X7_tryWord ov_X7_tryWord ml_X7_274 (hR.ob (ci := 7) (i := 0) (by decide) rfl) ⟨by decide, rfl⟩ rfl ⟨by decide, by decide⟩ rfl rfl (Nat.le_of_ble_eq_true rfl) rfl dX7_claimLower_23 ?_
    rintro v h (⟨ht1, rfl, hR⟩ | ⟨ht1, rfl, hR⟩)
    · skip
      refine G_ifF_eq 29 rfl (by decide) ⟨37, by decide⟩ dX7_claimLower_26 ?_
      refine G_aload_n 30 rfl rfl dX7_claimLower_29 ?_
      refine G_iconst 31 rfl (5) (by decide) dX7_claimLower_30 ?_
      refine G_pi 34 rfl hR 5 5 p 325 fl_X7_48 hp rfl ⟨rfl, rfl⟩ rfl rfl dX7_claimLower_31 (fun h hR => ?_)
      refine G_goto 72 (by decide) dX7_claimLower_34 ?_
      refine G_ret rfl ?_ dX7_claimLower_72
      refine ⟨rfl, ?_⟩
      unfold loT
      first | rw [if_pos hpq] | rw [if_neg hpq]
      exact Or.inl ⟨ht1, hR⟩
    · skip
      refine G_ifT_eq 37 (by decide) (by decide) dX7_claimLower_26 ?_
      refine G_aload 39 rfl rfl dX7_claimLower_37 ?_
      refine G_aload_n 40 rfl rfl dX7_claimLower_39 ?_
      refine G_acmp_ne 60 43 rfl (by decide) dX7_claimLower_40 (fun c40 => ?_) (fun c40 => ?_)
      · skip
        refine G_aload_n 61 rfl rfl dX7_claimLower_60 ?_
        refine G_aload 63 rfl rfl dX7_claimLower_61 ?_
        refine G_aload_n 64 rfl rfl dX7_claimLower_63 ?_
        refine G_callS 67 rfl [.ref (aP E p), .ref (aP E q), .ref (aE E m n)] (c_X7_noteBusy hR hp hq hn) ok_X7_noteBusy os_X7_noteBusy ml_X7_281 rfl ⟨by decide, by decide⟩ rfl rfl (Nat.le_of_ble_eq_true rfl) rfl dX7_claimLower_64 ?_
        rintro v h ⟨rfl, hR⟩
        refine G_aload_n 68 rfl rfl dX7_claimLower_67 ?_
        refine G_iconst 69 rfl (3) (by decide) dX7_claimLower_68 ?_
        refine G_pi 72 rfl hR 5 5 p 325 fl_X7_48 hp rfl ⟨rfl, rfl⟩ rfl rfl dX7_claimLower_69 (fun h hR => ?_)
        refine G_ret rfl ?_ dX7_claimLower_72
        refine ⟨rfl, ?_⟩
        unfold loT
        first | rw [if_pos hpq] | rw [if_neg hpq]
        exact Or.inr (Or.inr ⟨ht1, by first | exact fun z => hs z.2 | exact fun z => c40 (congrArg (aP E) z.1), hR⟩)
      · skip
        refine G_aload_n 44 rfl rfl dX7_claimLower_43 ?_
        refine G_p1 47 rfl hR fl_X7_63 hp dX7_claimLower_44 ?_
        refine G_callV 50 rfl [] (c_X6_isSettled hR hp) ok_X6_isSettled ov_X6_isSettled ml_X7_278 (hR.ob (ci := 6) (i := p) (by decide) hp) ⟨by decide, rfl⟩ rfl ⟨by decide, by decide⟩ rfl rfl (Nat.le_of_ble_eq_true rfl) rfl dX7_claimLower_47 ?_
        rintro v h' ⟨⟨hs, rfl⟩ | ⟨hs, rfl⟩, rfl⟩
        · skip
          refine G_ifF_eq 53 rfl (by decide) ⟨60, by decide⟩ dX7_claimLower_50 ?_
          refine G_aload_n 54 rfl rfl dX7_claimLower_53 ?_
          refine G_callV 57 rfl [] (c_X5_beginWithdraw hR hp (w := w) hw hwl) ok_X5_beginWithdraw ov_X5_beginWithdraw ml_X7_104 (hR.ob (ci := 5) (i := p) (by decide) hp) ⟨by decide, rfl⟩ rfl ⟨by decide, by decide⟩ rfl rfl (Nat.le_of_ble_eq_true rfl) rfl dX7_claimLower_54 ?_
          rintro v h ⟨rfl, hR⟩
          refine G_goto 72 (by decide) dX7_claimLower_57 ?_
          refine G_ret rfl ?_ dX7_claimLower_72
          refine ⟨rfl, ?_⟩
          unfold loT
          first | rw [if_pos hpq] | rw [if_neg hpq]
          exact Or.inr (Or.inl ⟨ht1, by first | rfl | exact aP_inj c40, hs, hR⟩)
        · skip
          refine G_ifT_eq 60 (by decide) (by decide) dX7_claimLower_50 ?_
          refine G_aload_n 61 rfl rfl dX7_claimLower_60 ?_
          refine G_aload 63 rfl rfl dX7_claimLower_61 ?_
          refine G_aload_n 64 rfl rfl dX7_claimLower_63 ?_
          refine G_callS 67 rfl [.ref (aP E p), .ref (aP E q), .ref (aE E m n)] (c_X7_noteBusy hR hp hq hn) ok_X7_noteBusy os_X7_noteBusy ml_X7_281 rfl ⟨by decide, by decide⟩ rfl rfl (Nat.le_of_ble_eq_true rfl) rfl dX7_claimLower_64 ?_
          rintro v h ⟨rfl, hR⟩
          refine G_aload_n 68 rfl rfl dX7_claimLower_67 ?_
          refine G_iconst 69 rfl (3) (by decide) dX7_claimLower_68 ?_
          refine G_pi 72 rfl hR 5 5 p 325 fl_X7_48 hp rfl ⟨rfl, rfl⟩ rfl rfl dX7_claimLower_69 (fun h hR => ?_)
          refine G_ret rfl ?_ dX7_claimLower_72
          refine ⟨rfl, ?_⟩
          unfold loT
          first | rw [if_pos hpq] | rw [if_neg hpq]
          exact Or.inr (Or.inr ⟨ht1, by first | exact fun z => hs z.2 | exact fun z => c40 (congrArg (aP E) z.1), hR⟩)

set_option maxHeartbeats 4000000 in
set_option maxRecDepth 100000 in
theorem c_X7_claimHigher {E : Ev} {m : Nat} {σ : Sg} {τ : Tu} {h : Hp} (hR : RR E m σ τ h) {p : Nat} (hp : p < m) {q : Nat} (hq : q < m) {n : Nat} (hn : 1 ≤ n ∧ n ≤ sNp σ) {g : Nat} (hgg : g < 8 * m) {z : Nat} (hz : σ.1 257 0 = nI z) (hzb : z < 2 ^ 30) : Cn E mX7_claimHigher (rk 2 0 0) h [.ref (aX E), .ref (aP E p), .ref (aP E q), .ref (aE E m n), .ref (aG E g)] (fun v h' => v = none ∧ (fun t : Nat => (tryOk σ p t n ∧ RR E m (up (recP (tryY σ p t) p q n g) 325 p 7) τ h') ∨ (¬ tryOk σ p t n ∧ RR E m (up (up (nBs (tryN σ) p t n) 333 p (if t = p ∧ stl σ p then 1 else 0)) 325 p 6) τ h')) (hiT p q)) := by
  refine Cn_of (by decide) rfl (by simp [Value.category]) (Nat.le_of_ble_eq_true rfl) ?_
  have hm := hR.1.1
  refine G_aload_n 1 rfl rfl dX7_claimHigher_0 ?_
  refine G_p0 4 rfl hR fl_X7_241 hp dX7_claimHigher_1 ?_
  refine G_aload_n 5 rfl rfl dX7_claimHigher_4 ?_
  refine G_p0 8 rfl hR fl_X7_241 hq dX7_claimHigher_5 ?_
  by_cases hpq : p < q
  · skip
    refine G_icmpF_ge 11 rfl (nI_ge hpq (by omega)) ⟨15, by decide⟩ dX7_claimHigher_8 ?_
    refine G_aload_n 12 rfl rfl dX7_claimHigher_11 ?_
    refine G_goto 16 (by decide) dX7_claimHigher_12 ?_
    refine G_astore 18 rfl (by decide) dX7_claimHigher_16 ?_
    refine G_aload_n 19 rfl rfl dX7_claimHigher_18 ?_
    refine G_aload_n 20 rfl rfl dX7_claimHigher_19 ?_
    refine G_aload 22 rfl rfl dX7_claimHigher_20 ?_
    refine G_aload_n 23 rfl rfl dX7_claimHigher_22 ?_
    refine G_callV 26 rfl [.ref (aP E p), .ref (aP E q), .ref (aE E m n)] (c_X7_tryWord hR hp hq hn) ok_X7_tryWord ov_X7_tryWord ml_X7_274 (hR.ob (ci := 7) (i := 0) (by decide) rfl) ⟨by decide, rfl⟩ rfl ⟨by decide, by decide⟩ rfl rfl (Nat.le_of_ble_eq_true rfl) rfl dX7_claimHigher_23 ?_
    rintro v h (⟨ht1, rfl, hR⟩ | ⟨ht1, rfl, hR⟩)
    · skip
      refine G_ifF_eq 29 rfl (by decide) ⟨45, by decide⟩ dX7_claimHigher_26 ?_
      refine G_aload_n 30 rfl rfl dX7_claimHigher_29 ?_
      refine G_aload_n 31 rfl rfl dX7_claimHigher_30 ?_
      refine G_aload_n 32 rfl rfl dX7_claimHigher_31 ?_
      refine G_aload_n 33 rfl rfl dX7_claimHigher_32 ?_
      refine G_aload 35 rfl rfl dX7_claimHigher_33 ?_
      refine G_callV 38 rfl [.ref (aP E p), .ref (aP E q), .ref (aE E m n), .ref (aG E g)] (c_X7_recordPair hR hp hq hn hgg (z := z) hz hzb) ok_X7_recordPair ov_X7_recordPair ml_X7_284 (hR.ob (ci := 7) (i := 0) (by decide) rfl) ⟨by decide, rfl⟩ rfl ⟨by decide, by decide⟩ rfl rfl (Nat.le_of_ble_eq_true rfl) rfl dX7_claimHigher_35 ?_
      rintro v h ⟨rfl, hR⟩
      refine G_aload_n 39 rfl rfl dX7_claimHigher_38 ?_
      refine G_bipush 41 rfl (7) (by decide) dX7_claimHigher_39 ?_
      refine G_pi 44 rfl hR 5 5 p 325 fl_X7_48 hp rfl ⟨rfl, rfl⟩ rfl rfl dX7_claimHigher_41 (fun h hR => ?_)
      refine G_ret rfl ?_ dX7_claimHigher_44
      refine ⟨rfl, ?_⟩
      unfold hiT
      first | rw [if_pos hpq] | rw [if_neg hpq]
      exact Or.inl ⟨ht1, hR⟩
    · skip
      refine G_ifT_eq 45 (by decide) (by decide) dX7_claimHigher_26 ?_
      refine G_aload_n 46 rfl rfl dX7_claimHigher_45 ?_
      refine G_aload 48 rfl rfl dX7_claimHigher_46 ?_
      refine G_aload_n 49 rfl rfl dX7_claimHigher_48 ?_
      refine G_callS 52 rfl [.ref (aP E p), .ref (aP E q), .ref (aE E m n)] (c_X7_noteBusy hR hp hq hn) ok_X7_noteBusy os_X7_noteBusy ml_X7_281 rfl ⟨by decide, by decide⟩ rfl rfl (Nat.le_of_ble_eq_true rfl) rfl dX7_claimHigher_49 ?_
      rintro v h ⟨rfl, hR⟩
      refine G_aload_n 53 rfl rfl dX7_claimHigher_52 ?_
      refine G_aload 55 rfl rfl dX7_claimHigher_53 ?_
      refine G_aload_n 56 rfl rfl dX7_claimHigher_55 ?_
      refine G_acmp_ne 73 59 rfl (by decide) dX7_claimHigher_56 (fun c56 => ?_) (fun c56 => ?_)
      · skip
        refine G_iconst 74 rfl (0) (by decide) dX7_claimHigher_73 ?_
        refine G_pz 77 rfl hR 5 13 p 333 fl_X7_287 hp rfl ⟨rfl, rfl⟩ (by decide) rfl rfl dX7_claimHigher_74 (fun h hR => ?_)
        refine G_aload_n 78 rfl rfl dX7_claimHigher_77 ?_
        refine G_bipush 80 rfl (6) (by decide) dX7_claimHigher_78 ?_
        refine G_pi 83 rfl hR 5 5 p 325 fl_X7_48 hp rfl ⟨rfl, rfl⟩ rfl rfl dX7_claimHigher_80 (fun h hR => ?_)
        refine G_ret rfl ?_ dX7_claimHigher_83
        refine ⟨rfl, ?_⟩
        unfold hiT
        first | rw [if_pos hpq] | rw [if_neg hpq]
        refine Or.inr ⟨ht1, ?_⟩
        rw [if_neg (by first | exact fun z => c56 (congrArg (aP E) z.1) | (rw [nBs_f _ _ _ _ _ _ (by decide)] at hs; exact fun z => hs z.2))]
        exact hR
      · skip
        refine G_aload_n 60 rfl rfl dX7_claimHigher_59 ?_
        refine G_p1 63 rfl hR fl_X7_63 hp dX7_claimHigher_60 ?_
        refine G_callV 66 rfl [] (c_X6_isSettled hR hp) ok_X6_isSettled ov_X6_isSettled ml_X7_278 (hR.ob (ci := 6) (i := p) (by decide) hp) ⟨by decide, rfl⟩ rfl ⟨by decide, by decide⟩ rfl rfl (Nat.le_of_ble_eq_true rfl) rfl dX7_claimHigher_63 ?_
        rintro v h' ⟨⟨hs, rfl⟩ | ⟨hs, rfl⟩, rfl⟩
        · skip
          refine G_ifF_eq 69 rfl (by decide) ⟨73, by decide⟩ dX7_claimHigher_66 ?_
          refine G_iconst 70 rfl (1) (by decide) dX7_claimHigher_69 ?_
          refine G_goto 74 (by decide) dX7_claimHigher_70 ?_
          refine G_pz 77 rfl hR 5 13 p 333 fl_X7_287 hp rfl ⟨rfl, rfl⟩ (by decide) rfl rfl dX7_claimHigher_74 (fun h hR => ?_)
          refine G_aload_n 78 rfl rfl dX7_claimHigher_77 ?_
          refine G_bipush 80 rfl (6) (by decide) dX7_claimHigher_78 ?_
          refine G_pi 83 rfl hR 5 5 p 325 fl_X7_48 hp rfl ⟨rfl, rfl⟩ rfl rfl dX7_claimHigher_80 (fun h hR => ?_)
          refine G_ret rfl ?_ dX7_claimHigher_83
          refine ⟨rfl, ?_⟩
          unfold hiT
          first | rw [if_pos hpq] | rw [if_neg hpq]
          refine Or.inr ⟨ht1, ?_⟩
          rw [if_pos ⟨by first | rfl | exact aP_inj c56, by rw [nBs_f _ _ _ _ _ _ (by decide)] at hs; exact hs⟩]
          exact hR
        · skip
          refine G_ifT_eq 73 (by decide) (by decide) dX7_claimHigher_66 ?_
          refine G_iconst 74 rfl (0) (by decide) dX7_claimHigher_73 ?_
          refine G_pz 77 rfl hR 5 13 p 333 fl_X7_287 hp rfl ⟨rfl, rfl⟩ (by decide) rfl rfl dX7_claimHigher_74 (fun h hR => ?_)
          refine G_aload_n 78 rfl rfl dX7_claimHigher_77 ?_
          refine G_bipush 80 rfl (6) (by decide) dX7_claimHigher_78 ?_
          refine G_pi 83 rfl hR 5 5 p 325 fl_X7_48 hp rfl ⟨rfl, rfl⟩ rfl rfl dX7_claimHigher_80 (fun h hR => ?_)
          refine G_ret rfl ?_ dX7_claimHigher_83
          refine ⟨rfl, ?_⟩
          unfold hiT
          first | rw [if_pos hpq] | rw [if_neg hpq]
          refine Or.inr ⟨ht1, ?_⟩
          rw [if_neg (by first | exact fun z => c56 (congrArg (aP E) z.1) | (rw [nBs_f _ _ _ _ _ _ (by decide)] at hs; exact fun z => hs z.2))]
          exact hR
  · skip
    refine G_icmpT_ge 15 (nI_le (by omega) (by omega)) (by decide) dX7_claimHigher_8 ?_
    refine G_aload_n 16 rfl rfl dX7_claimHigher_15 ?_
    refine G_astore 18 rfl (by decide) dX7_claimHigher_16 ?_
    refine G_aload_n 19 rfl rfl dX7_claimHigher_18 ?_
    refine G_aload_n 20 rfl rfl dX7_claimHigher_19 ?_
    refine G_aload 22 rfl rfl dX7_claimHigher_20 ?_
    refine G_aload_n 23 rfl rfl dX7_claimHigher_22 ?_
    refine G_callV 26 rfl [.ref (aP E p), .ref (aP E p), .ref (aE E m n)] (c_X7_tryWord hR hp hp hn) ok_X7_tryWord ov_X7_tryWord ml_X7_274 (hR.ob (ci := 7) (i := 0) (by decide) rfl) ⟨by decide, rfl⟩ rfl ⟨by decide, by decide⟩ rfl rfl (Nat.le_of_ble_eq_true rfl) rfl dX7_claimHigher_23 ?_
    rintro v h (⟨ht1, rfl, hR⟩ | ⟨ht1, rfl, hR⟩)
    · skip
      refine G_ifF_eq 29 rfl (by decide) ⟨45, by decide⟩ dX7_claimHigher_26 ?_
      refine G_aload_n 30 rfl rfl dX7_claimHigher_29 ?_
      refine G_aload_n 31 rfl rfl dX7_claimHigher_30 ?_
      refine G_aload_n 32 rfl rfl dX7_claimHigher_31 ?_
      refine G_aload_n 33 rfl rfl dX7_claimHigher_32 ?_
      refine G_aload 35 rfl rfl dX7_claimHigher_33 ?_
      refine G_callV 38 rfl [.ref (aP E p), .ref (aP E q), .ref (aE E m n), .ref (aG E g)] (c_X7_recordPair hR hp hq hn hgg (z := z) hz hzb) ok_X7_recordPair ov_X7_recordPair ml_X7_284 (hR.ob (ci := 7) (i := 0) (by decide) rfl) ⟨by decide, rfl⟩ rfl ⟨by decide, by decide⟩ rfl rfl (Nat.le_of_ble_eq_true rfl) rfl dX7_claimHigher_35 ?_
      rintro v h ⟨rfl, hR⟩
      refine G_aload_n 39 rfl rfl dX7_claimHigher_38 ?_
      refine G_bipush 41 rfl (7) (by decide) dX7_claimHigher_39 ?_
      refine G_pi 44 rfl hR 5 5 p 325 fl_X7_48 hp rfl ⟨rfl, rfl⟩ rfl rfl dX7_claimHigher_41 (fun h hR => ?_)
      refine G_ret rfl ?_ dX7_claimHigher_44
      refine ⟨rfl, ?_⟩
      unfold hiT
      first | rw [if_pos hpq] | rw [if_neg hpq]
      exact Or.inl ⟨ht1, hR⟩
    · skip
      refine G_ifT_eq 45 (by decide) (by decide) dX7_claimHigher_26 ?_
      refine G_aload_n 46 rfl rfl dX7_claimHigher_45 ?_
      refine G_aload 48 rfl rfl dX7_claimHigher_46 ?_
      refine G_aload_n 49 rfl rfl dX7_claimHigher_48 ?_
      refine G_callS 52 rfl [.ref (aP E p), .ref (aP E p), .ref (aE E m n)] (c_X7_noteBusy hR hp hp hn) ok_X7_noteBusy os_X7_noteBusy ml_X7_281 rfl ⟨by decide, by decide⟩ rfl rfl (Nat.le_of_ble_eq_true rfl) rfl dX7_claimHigher_49 ?_
      rintro v h ⟨rfl, hR⟩
      refine G_aload_n 53 rfl rfl dX7_claimHigher_52 ?_
      refine G_aload 55 rfl rfl dX7_claimHigher_53 ?_
      refine G_aload_n 56 rfl rfl dX7_claimHigher_55 ?_
      refine G_acmp_ne 73 59 rfl (by decide) dX7_claimHigher_56 (fun c56 => ?_) (fun c56 => ?_)
      · skip
        refine G_iconst 74 rfl (0) (by decide) dX7_claimHigher_73 ?_
        refine G_pz 77 rfl hR 5 13 p 333 fl_X7_287 hp rfl ⟨rfl, rfl⟩ (by decide) rfl rfl dX7_claimHigher_74 (fun h hR => ?_)
        refine G_aload_n 78 rfl rfl dX7_claimHigher_77 ?_
        refine G_bipush 80 rfl (6) (by decide) dX7_claimHigher_78 ?_
        refine G_pi 83 rfl hR 5 5 p 325 fl_X7_48 hp rfl ⟨rfl, rfl⟩ rfl rfl dX7_claimHigher_80 (fun h hR => ?_)
        refine G_ret rfl ?_ dX7_claimHigher_83
        refine ⟨rfl, ?_⟩
        unfold hiT
        first | rw [if_pos hpq] | rw [if_neg hpq]
        refine Or.inr ⟨ht1, ?_⟩
        rw [if_neg (by first | exact fun z => c56 (congrArg (aP E) z.1) | (rw [nBs_f _ _ _ _ _ _ (by decide)] at hs; exact fun z => hs z.2))]
        exact hR
      · skip
        refine G_aload_n 60 rfl rfl dX7_claimHigher_59 ?_
        refine G_p1 63 rfl hR fl_X7_63 hp dX7_claimHigher_60 ?_
        refine G_callV 66 rfl [] (c_X6_isSettled hR hp) ok_X6_isSettled ov_X6_isSettled ml_X7_278 (hR.ob (ci := 6) (i := p) (by decide) hp) ⟨by decide, rfl⟩ rfl ⟨by decide, by decide⟩ rfl rfl (Nat.le_of_ble_eq_true rfl) rfl dX7_claimHigher_63 ?_
        rintro v h' ⟨⟨hs, rfl⟩ | ⟨hs, rfl⟩, rfl⟩
        · skip
          refine G_ifF_eq 69 rfl (by decide) ⟨73, by decide⟩ dX7_claimHigher_66 ?_
          refine G_iconst 70 rfl (1) (by decide) dX7_claimHigher_69 ?_
          refine G_goto 74 (by decide) dX7_claimHigher_70 ?_
          refine G_pz 77 rfl hR 5 13 p 333 fl_X7_287 hp rfl ⟨rfl, rfl⟩ (by decide) rfl rfl dX7_claimHigher_74 (fun h hR => ?_)
          refine G_aload_n 78 rfl rfl dX7_claimHigher_77 ?_
          refine G_bipush 80 rfl (6) (by decide) dX7_claimHigher_78 ?_
          refine G_pi 83 rfl hR 5 5 p 325 fl_X7_48 hp rfl ⟨rfl, rfl⟩ rfl rfl dX7_claimHigher_80 (fun h hR => ?_)
          refine G_ret rfl ?_ dX7_claimHigher_83
          refine ⟨rfl, ?_⟩
          unfold hiT
          first | rw [if_pos hpq] | rw [if_neg hpq]
          refine Or.inr ⟨ht1, ?_⟩
          rw [if_pos ⟨by first | rfl | exact aP_inj c56, by rw [nBs_f _ _ _ _ _ _ (by decide)] at hs; exact hs⟩]
          exact hR
        · skip
          refine G_ifT_eq 73 (by decide) (by decide) dX7_claimHigher_66 ?_
          refine G_iconst 74 rfl (0) (by decide) dX7_claimHigher_73 ?_
          refine G_pz 77 rfl hR 5 13 p 333 fl_X7_287 hp rfl ⟨rfl, rfl⟩ (by decide) rfl rfl dX7_claimHigher_74 (fun h hR => ?_)
          refine G_aload_n 78 rfl rfl dX7_claimHigher_77 ?_
          refine G_bipush 80 rfl (6) (by decide) dX7_claimHigher_78 ?_
          refine G_pi 83 rfl hR 5 5 p 325 fl_X7_48 hp rfl ⟨rfl, rfl⟩ rfl rfl dX7_claimHigher_80 (fun h hR => ?_)
          refine G_ret rfl ?_ dX7_claimHigher_83
          refine ⟨rfl, ?_⟩
          unfold hiT
          first | rw [if_pos hpq] | rw [if_neg hpq]
          refine Or.inr ⟨ht1, ?_⟩
          rw [if_neg (by first | exact fun z => c56 (congrArg (aP E) z.1) | (rw [nBs_f _ _ _ _ _ _ (by decide)] at hs; exact fun z => hs z.2))]
          exact hR

set_option maxHeartbeats 4000000 in
set_option maxRecDepth 100000 in
theorem c_X7_giveBack {E : Ev} {m : Nat} {σ : Sg} {τ : Tu} {h : Hp} (hR : RR E m σ τ h) {p : Nat} (hp : p < m) {q : Nat} (hq : q < m) {w : Nat} (hw : σ.1 336 p = nI w) (hwl : w ≤ (sPb σ p).length) : Cn E mX7_giveBack (rk 2 0 0) h [.ref (aX E), .ref (aP E p), .ref (aP E q)] (fun v h' => v = none ∧ RR E m (gvB σ p q) τ h') := by
  refine Cn_of (by decide) rfl (by simp [Value.category]) (Nat.le_of_ble_eq_true rfl) ?_
  have hm := hR.1.1
  refine G_aload_n 1 rfl rfl dX7_giveBack_0 ?_
  refine G_p0 4 rfl hR fl_X7_241 hp dX7_giveBack_1 ?_
  refine G_aload_n 5 rfl rfl dX7_giveBack_4 ?_
  refine G_p0 8 rfl hR fl_X7_241 hq dX7_giveBack_5 ?_
  by_cases hpq : p < q
  · skip
    refine G_icmpF_ge 11 rfl (nI_ge hpq (by omega)) ⟨15, by decide⟩ dX7_giveBack_8 ?_
    refine G_aload_n 12 rfl rfl dX7_giveBack_11 ?_
    refine G_goto 16 (by decide) dX7_giveBack_12 ?_
    refine G_astore_n 17 rfl (by decide) dX7_giveBack_16 ?_
    refine G_aload_n 18 rfl rfl dX7_giveBack_17 ?_
    refine G_p1 21 rfl hR fl_X7_63 hp dX7_giveBack_18 ?_
    refine G_iconst 22 rfl (1) (by decide) dX7_giveBack_21 ?_
    refine G_callV 25 rfl [.int 1] (c_X6_become hR hp 1) ok_X6_become ov_X6_become ml_X7_107 (hR.ob (ci := 6) (i := p) (by decide) hp) ⟨by decide, rfl⟩ rfl ⟨by decide, by decide⟩ rfl rfl (Nat.le_of_ble_eq_true rfl) rfl dX7_giveBack_22 ?_
    rintro v h ⟨rfl, hR⟩
    refine G_aload_n 26 rfl rfl dX7_giveBack_25 ?_
    refine G_gi 29 rfl hR 5 13 p 333 (σ.1 333 p) fl_X7_287 hp rfl rfl rfl rfl dX7_giveBack_26 ?_
    refine G_if_eq 39 32 rfl (by decide) dX7_giveBack_29 (fun c29 => ?_) (fun c29 => ?_)
    · skip
      refine G_aload_n 40 rfl rfl dX7_giveBack_39 ?_
      refine G_iconst 41 rfl (3) (by decide) dX7_giveBack_40 ?_
      refine G_pi 44 rfl hR 5 5 p 325 fl_X7_48 hp rfl ⟨rfl, rfl⟩ rfl rfl dX7_giveBack_41 (fun h hR => ?_)
      refine G_ret rfl ?_ dX7_giveBack_44
      refine ⟨rfl, ?_⟩
      unfold gvB
      first | (rw [if_pos c29]; unfold loT gv0; first | (rw [if_pos hpq]; exact hR) | (rw [if_neg hpq]; exact hR)) | (rw [if_neg c29]; unfold loT gv0; first | (rw [if_pos hpq]; exact hR) | (rw [if_neg hpq]; exact hR))
    · skip
      refine G_aload_n 33 rfl rfl dX7_giveBack_32 ?_
      refine G_callV 36 rfl [] (c_X5_beginWithdraw hR hp (w := w) hw hwl) ok_X5_beginWithdraw ov_X5_beginWithdraw ml_X7_104 (hR.ob (ci := 5) (i := p) (by decide) hp) ⟨by decide, rfl⟩ rfl ⟨by decide, by decide⟩ rfl rfl (Nat.le_of_ble_eq_true rfl) rfl dX7_giveBack_33 ?_
      rintro v h ⟨rfl, hR⟩
      refine G_goto 44 (by decide) dX7_giveBack_36 ?_
      refine G_ret rfl ?_ dX7_giveBack_44
      refine ⟨rfl, ?_⟩
      unfold gvB
      first | (rw [if_pos c29]; unfold loT gv0; first | (rw [if_pos hpq]; exact hR) | (rw [if_neg hpq]; exact hR)) | (rw [if_neg c29]; unfold loT gv0; first | (rw [if_pos hpq]; exact hR) | (rw [if_neg hpq]; exact hR))
  · skip
    refine G_icmpT_ge 15 (nI_le (by omega) (by omega)) (by decide) dX7_giveBack_8 ?_
    refine G_aload_n 16 rfl rfl dX7_giveBack_15 ?_
    refine G_astore_n 17 rfl (by decide) dX7_giveBack_16 ?_
    refine G_aload_n 18 rfl rfl dX7_giveBack_17 ?_
    refine G_p1 21 rfl hR fl_X7_63 hq dX7_giveBack_18 ?_
    refine G_iconst 22 rfl (1) (by decide) dX7_giveBack_21 ?_
    refine G_callV 25 rfl [.int 1] (c_X6_become hR hq 1) ok_X6_become ov_X6_become ml_X7_107 (hR.ob (ci := 6) (i := q) (by decide) hq) ⟨by decide, rfl⟩ rfl ⟨by decide, by decide⟩ rfl rfl (Nat.le_of_ble_eq_true rfl) rfl dX7_giveBack_22 ?_
    rintro v h ⟨rfl, hR⟩
    refine G_aload_n 26 rfl rfl dX7_giveBack_25 ?_
    refine G_gi 29 rfl hR 5 13 p 333 (σ.1 333 p) fl_X7_287 hp rfl rfl rfl rfl dX7_giveBack_26 ?_
    refine G_if_eq 39 32 rfl (by decide) dX7_giveBack_29 (fun c29 => ?_) (fun c29 => ?_)
    · skip
      refine G_aload_n 40 rfl rfl dX7_giveBack_39 ?_
      refine G_iconst 41 rfl (3) (by decide) dX7_giveBack_40 ?_
      refine G_pi 44 rfl hR 5 5 p 325 fl_X7_48 hp rfl ⟨rfl, rfl⟩ rfl rfl dX7_giveBack_41 (fun h hR => ?_)
      refine G_ret rfl ?_ dX7_giveBack_44
      refine ⟨rfl, ?_⟩
      unfold gvB
      first | (rw [if_pos c29]; unfold loT gv0; first | (rw [if_pos hpq]; exact hR) | (rw [if_neg hpq]; exact hR)) | (rw [if_neg c29]; unfold loT gv0; first | (rw [if_pos hpq]; exact hR) | (rw [if_neg hpq]; exact hR))
    · skip
      refine G_aload_n 33 rfl rfl dX7_giveBack_32 ?_
      refine G_callV 36 rfl [] (c_X5_beginWithdraw hR hp (w := w) hw hwl) ok_X5_beginWithdraw ov_X5_beginWithdraw ml_X7_104 (hR.ob (ci := 5) (i := p) (by decide) hp) ⟨by decide, rfl⟩ rfl ⟨by decide, by decide⟩ rfl rfl (Nat.le_of_ble_eq_true rfl) rfl dX7_giveBack_33 ?_
      rintro v h ⟨rfl, hR⟩
      refine G_goto 44 (by decide) dX7_giveBack_36 ?_
      refine G_ret rfl ?_ dX7_giveBack_44
      refine ⟨rfl, ?_⟩
      unfold gvB
      first | (rw [if_pos c29]; unfold loT gv0; first | (rw [if_pos hpq]; exact hR) | (rw [if_neg hpq]; exact hR)) | (rw [if_neg c29]; unfold loT gv0; first | (rw [if_pos hpq]; exact hR) | (rw [if_neg hpq]; exact hR))

set_option maxHeartbeats 4000000 in
set_option maxRecDepth 100000 in
theorem c_X7_tellOther {E : Ev} {m : Nat} {σ : Sg} {τ : Tu} {h : Hp} (hR : RR E m σ τ h) {p : Nat} (hp : p < m) {q : Nat} (hq : q < m) {g : Nat} (hgg : g < 8 * m) : Cn E mX7_tellOther (rk 1 0 0) h [.ref (aX E), .ref (aP E p), .ref (aP E q), .ref (aG E g)] (fun v h' => v = none ∧ RR E m (tlO σ p q g) τ h') := by
  refine Cn_of (by decide) rfl (by simp [Value.category]) (Nat.le_of_ble_eq_true rfl) ?_
  refine G_aload_n 1 rfl rfl dX7_tellOther_0 ?_
  refine G_p1 4 rfl hR fl_X7_63 hq dX7_tellOther_1 ?_
  refine G_iconst 5 rfl (3) (by decide) dX7_tellOther_4 ?_
  refine G_callV 8 rfl [.int 3] (c_X6_become hR hq 3) ok_X6_become ov_X6_become ml_X7_107 (hR.ob (ci := 6) (i := q) (by decide) hq) ⟨by decide, rfl⟩ rfl ⟨by decide, by decide⟩ rfl rfl (Nat.le_of_ble_eq_true rfl) rfl dX7_tellOther_5 ?_
  rintro v h ⟨rfl, hR⟩
  refine G_aload_n 9 rfl rfl dX7_tellOther_8 ?_
  refine G_p2 12 rfl hR fl_X7_118 hq dX7_tellOther_9 ?_
  refine G_aload_n 13 rfl rfl dX7_tellOther_12 ?_
  refine G_p0 16 rfl hR fl_X7_241 hp dX7_tellOther_13 ?_
  refine G_aload_n 17 rfl rfl dX7_tellOther_16 ?_
  refine G_gi 20 rfl hR 2 1 g 129 (σ.1 129 g) fl_X7_236 hgg rfl rfl rfl rfl dX7_tellOther_17 ?_
  refine G_aload_n 21 rfl rfl dX7_tellOther_20 ?_
  refine G_gi 24 rfl hR 2 0 g 128 (σ.1 128 g) fl_X7_273 hgg rfl rfl rfl rfl dX7_tellOther_21 ?_
  refine G_if_ne 34 27 rfl (by decide) dX7_tellOther_24 (fun c24 => ?_) (fun c24 => ?_)
  · skip
    refine G_iconst 35 rfl (0) (by decide) dX7_tellOther_34 ?_
    refine G_aload_n 36 rfl rfl dX7_tellOther_35 ?_
    refine G_p1 39 rfl hR fl_X7_63 hq dX7_tellOther_36 ?_
    refine G_gi 42 rfl hR 6 1 q 385 (σ.1 385 q) fl_X7_67 hq rfl rfl rfl rfl dX7_tellOther_39 ?_
    refine G_callV 45 rfl [.int (nI p), .int (σ.1 129 g), .int 0, .int (σ.1 385 q)] (c_X3_set hR hq (nI p) (σ.1 129 g) 0 (σ.1 385 q)) ok_X3_set ov_X3_set ml_X7_293 (hR.ob (ci := 3) (i := q) (by decide) hq) ⟨by decide, rfl⟩ rfl ⟨by decide, by decide⟩ rfl rfl (Nat.le_of_ble_eq_true rfl) rfl dX7_tellOther_42 ?_
    rintro v h ⟨rfl, hR⟩
    refine G_aload_n 46 rfl rfl dX7_tellOther_45 ?_
    refine G_bipush 48 rfl (8) (by decide) dX7_tellOther_46 ?_
    refine G_pi 51 rfl hR 5 5 p 325 fl_X7_48 hp rfl ⟨rfl, rfl⟩ rfl rfl dX7_tellOther_48 (fun h hR => ?_)
    refine G_ret rfl ?_ dX7_tellOther_51
    refine ⟨rfl, ?_⟩
    unfold tlO tell
    first | (rw [if_pos c24]; exact hR) | (rw [if_neg c24]; exact hR)
  · skip
    refine G_aload_n 28 rfl rfl dX7_tellOther_27 ?_
    refine G_gi 31 rfl hR 2 2 g 130 (σ.1 130 g) fl_X7_290 hgg rfl rfl rfl rfl dX7_tellOther_28 ?_
    refine G_goto 35 (by decide) dX7_tellOther_31 ?_
    refine G_aload_n 36 rfl rfl dX7_tellOther_35 ?_
    refine G_p1 39 rfl hR fl_X7_63 hq dX7_tellOther_36 ?_
    refine G_gi 42 rfl hR 6 1 q 385 (σ.1 385 q) fl_X7_67 hq rfl rfl rfl rfl dX7_tellOther_39 ?_
    refine G_callV 45 rfl [.int (nI p), .int (σ.1 129 g), .int (σ.1 130 g), .int (σ.1 385 q)] (c_X3_set hR hq (nI p) (σ.1 129 g) (σ.1 130 g) (σ.1 385 q)) ok_X3_set ov_X3_set ml_X7_293 (hR.ob (ci := 3) (i := q) (by decide) hq) ⟨by decide, rfl⟩ rfl ⟨by decide, by decide⟩ rfl rfl (Nat.le_of_ble_eq_true rfl) rfl dX7_tellOther_42 ?_
    rintro v h ⟨rfl, hR⟩
    refine G_aload_n 46 rfl rfl dX7_tellOther_45 ?_
    refine G_bipush 48 rfl (8) (by decide) dX7_tellOther_46 ?_
    refine G_pi 51 rfl hR 5 5 p 325 fl_X7_48 hp rfl ⟨rfl, rfl⟩ rfl rfl dX7_tellOther_48 (fun h hR => ?_)
    refine G_ret rfl ?_ dX7_tellOther_51
    refine ⟨rfl, ?_⟩
    unfold tlO tell
    first | (rw [if_pos c24]; exact hR) | (rw [if_neg c24]; exact hR)

set_option maxHeartbeats 4000000 in
set_option maxRecDepth 100000 in
theorem c_X7_takeOwn {E : Ev} {m : Nat} {σ : Sg} {τ : Tu} {h : Hp} (hR : RR E m σ τ h) {p : Nat} (hp : p < m) {n : Nat} (hn : 1 ≤ n ∧ n ≤ sNp σ) {g : Nat} (hgg : g < 8 * m) {w : Nat} (hw : σ.1 336 p = nI w) (hwl : w ≤ (sPb σ p).length) : Cn E mX7_takeOwn (rk 2 0 0) h [.ref (aX E), .ref (aP E p), .ref (aE E m n), .ref (aG E g)] (fun v h' => v = none ∧ RR E m (tkO σ p n g) τ h') := by
  refine Cn_of (by decide) rfl (by simp [Value.category]) (Nat.le_of_ble_eq_true rfl) ?_
  refine G_aload_n 1 rfl rfl dX7_takeOwn_0 ?_
  refine G_p1 4 rfl hR fl_X7_63 hp dX7_takeOwn_1 ?_
  refine G_iconst 5 rfl (3) (by decide) dX7_takeOwn_4 ?_
  refine G_callV 8 rfl [.int 3] (c_X6_become hR hp 3) ok_X6_become ov_X6_become ml_X7_107 (hR.ob (ci := 6) (i := p) (by decide) hp) ⟨by decide, rfl⟩ rfl ⟨by decide, by decide⟩ rfl rfl (Nat.le_of_ble_eq_true rfl) rfl dX7_takeOwn_5 ?_
  rintro v h ⟨rfl, hR⟩
  refine G_aload_n 9 rfl rfl dX7_takeOwn_8 ?_
  refine G_p2 12 rfl hR fl_X7_118 hp dX7_takeOwn_9 ?_
  refine G_aload_n 13 rfl rfl dX7_takeOwn_12 ?_
  refine G_gi 16 rfl hR 0 0 n 0 (σ.1 0 n) fl_X7_203 hn rfl rfl rfl rfl dX7_takeOwn_13 ?_
  refine G_aload_n 17 rfl rfl dX7_takeOwn_16 ?_
  refine G_gi 20 rfl hR 2 1 g 129 (σ.1 129 g) fl_X7_236 hgg rfl rfl rfl rfl dX7_takeOwn_17 ?_
  refine G_aload_n 21 rfl rfl dX7_takeOwn_20 ?_
  refine G_gi 24 rfl hR 2 0 g 128 (σ.1 128 g) fl_X7_273 hgg rfl rfl rfl rfl dX7_takeOwn_21 ?_
  refine G_iconst 25 rfl (1) (by decide) dX7_takeOwn_24 ?_
  refine G_icmp_ne 35 28 rfl (by decide) dX7_takeOwn_25 (fun c25 => ?_) (fun c25 => ?_)
  · skip
    refine G_iconst 36 rfl (0) (by decide) dX7_takeOwn_35 ?_
    refine G_aload_n 37 rfl rfl dX7_takeOwn_36 ?_
    refine G_p1 40 rfl hR fl_X7_63 hp dX7_takeOwn_37 ?_
    refine G_gi 43 rfl hR 6 1 p 385 (σ.1 385 p) fl_X7_67 hp rfl rfl rfl rfl dX7_takeOwn_40 ?_
    refine G_callV 46 rfl [.int (σ.1 0 n), .int (σ.1 129 g), .int 0, .int (σ.1 385 p)] (c_X3_set hR hp (σ.1 0 n) (σ.1 129 g) 0 (σ.1 385 p)) ok_X3_set ov_X3_set ml_X7_293 (hR.ob (ci := 3) (i := p) (by decide) hp) ⟨by decide, rfl⟩ rfl ⟨by decide, by decide⟩ rfl rfl (Nat.le_of_ble_eq_true rfl) rfl dX7_takeOwn_43 ?_
    rintro v h ⟨rfl, hR⟩
    refine G_aload_n 47 rfl rfl dX7_takeOwn_46 ?_
    refine G_callV 50 rfl [] (c_X5_beginWithdraw hR hp (w := w) hw hwl) ok_X5_beginWithdraw ov_X5_beginWithdraw ml_X7_104 (hR.ob (ci := 5) (i := p) (by decide) hp) ⟨by decide, rfl⟩ rfl ⟨by decide, by decide⟩ rfl rfl (Nat.le_of_ble_eq_true rfl) rfl dX7_takeOwn_47 ?_
    rintro v h ⟨rfl, hR⟩
    refine G_ret rfl ?_ dX7_takeOwn_50
    refine ⟨rfl, ?_⟩
    unfold tkO tell
    first | (rw [if_pos c25]; exact hR) | (rw [if_neg c25]; exact hR)
  · skip
    refine G_aload_n 29 rfl rfl dX7_takeOwn_28 ?_
    refine G_gi 32 rfl hR 0 4 n 4 (σ.1 4 n) fl_X7_297 hn rfl rfl rfl rfl dX7_takeOwn_29 ?_
    refine G_goto 36 (by decide) dX7_takeOwn_32 ?_
    refine G_aload_n 37 rfl rfl dX7_takeOwn_36 ?_
    refine G_p1 40 rfl hR fl_X7_63 hp dX7_takeOwn_37 ?_
    refine G_gi 43 rfl hR 6 1 p 385 (σ.1 385 p) fl_X7_67 hp rfl rfl rfl rfl dX7_takeOwn_40 ?_
    refine G_callV 46 rfl [.int (σ.1 0 n), .int (σ.1 129 g), .int (σ.1 4 n), .int (σ.1 385 p)] (c_X3_set hR hp (σ.1 0 n) (σ.1 129 g) (σ.1 4 n) (σ.1 385 p)) ok_X3_set ov_X3_set ml_X7_293 (hR.ob (ci := 3) (i := p) (by decide) hp) ⟨by decide, rfl⟩ rfl ⟨by decide, by decide⟩ rfl rfl (Nat.le_of_ble_eq_true rfl) rfl dX7_takeOwn_43 ?_
    rintro v h ⟨rfl, hR⟩
    refine G_aload_n 47 rfl rfl dX7_takeOwn_46 ?_
    refine G_callV 50 rfl [] (c_X5_beginWithdraw hR hp (w := w) hw hwl) ok_X5_beginWithdraw ov_X5_beginWithdraw ml_X7_104 (hR.ob (ci := 5) (i := p) (by decide) hp) ⟨by decide, rfl⟩ rfl ⟨by decide, by decide⟩ rfl rfl (Nat.le_of_ble_eq_true rfl) rfl dX7_takeOwn_47 ?_
    rintro v h ⟨rfl, hR⟩
    refine G_ret rfl ?_ dX7_takeOwn_50
    refine ⟨rfl, ?_⟩
    unfold tkO tell
    first | (rw [if_pos c25]; exact hR) | (rw [if_neg c25]; exact hR)

/-! ===== THE CONSTRUCTORS, over the heap itself: what each cell holds ===== -/
abbrev Cl : Type := (Nat → Int32) × (Nat → Option Nat) × (Nat → Int32) × (Nat → Option Nat)
def cl (h : Hp) (b : Nat) : Cl := (fun f => h.1 f b, fun f => h.2.1 f b, h.2.2.1 b, h.2.2.2.1 b)
def c0 : Cl := (fun _ => 0, fun _ => none, fun _ => 0, fun _ => none)
def kI (c : Cl) (f : Nat) (v : Int32) : Cl := (fun g => if g = f then v else c.1 g, c.2)
def kR (c : Cl) (f : Nat) (r : Option Nat) : Cl := (c.1, fun g => if g = f then r else c.2.1 g, c.2.2)
def kQ (c : Cl) (j : Nat) (r : Option Nat) : Cl := (c.1, c.2.1, c.2.2.1, fun i => if i = j then r else c.2.2.2 i)
section INIT
variable {E : Ev} {m : Nat} {h : Hp}
theorem cl_sI (f a : Nat) (v : Int32) (b : Nat) : cl (sI h f a v) b = if b = a then kI (cl h b) f v else cl h b := by
  unfold cl sI kI
  by_cases hb : b = a <;> simp [hb]
theorem cl_sR (f a : Nat) (v : Option Nat) (b : Nat) : cl (sR h f a v) b = if b = a then kR (cl h b) f v else cl h b := by
  unfold cl sR kR
  by_cases hb : b = a <;> simp [hb]
theorem cl_sQ (a j : Nat) (v : Option Nat) (b : Nat) : cl (sQ h a j v) b = if b = a then kQ (cl h b) j v else cl h b := by
  unfold cl sQ kQ
  by_cases hb : b = a <;> simp [hb]
theorem cl_sN (b : Nat) : cl (sN h) b = if b = hn h then c0 else cl h b := by
  unfold cl sN c0
  by_cases hb : b = hn h
  · subst hb; simp
  · simp [hb]
theorem hn_sI (f a : Nat) (v : Int32) : hn (sI h f a v) = hn h := rfl
theorem hn_sR (f a : Nat) (v : Option Nat) : hn (sR h f a v) = hn h := rfl
theorem hn_sQ (a j : Nat) (v : Option Nat) : hn (sQ h a j v) = hn h := rfl
theorem hn_sN : hn (sN h) = hn h + 1 := rfl
theorem cl_i {a : Nat} {c : Cl} (hc : cl h a = c) (f : Nat) : h.1 f a = c.1 f := by rw [← hc]; rfl
theorem cl_r {a : Nat} {c : Cl} (hc : cl h a = c) (f : Nat) : h.2.1 f a = c.2.1 f := by rw [← hc]; rfl
theorem cl_a {a : Nat} {c : Cl} (hc : cl h a = c) (j : Nat) : h.2.2.1 a j = c.2.2.1 j := by rw [← hc]; rfl
theorem cl_q {a : Nat} {c : Cl} (hc : cl h a = c) (j : Nat) : h.2.2.2.1 a j = c.2.2.2 j := by rw [← hc]; rfl
set_option maxHeartbeats 4000000 in
set_option maxRecDepth 100000 in
theorem c_X6_init {a : Nat} (ho : Ob E h 6 a) : Cn E mX6_init (rk 1 0 0) h [.ref a] (fun v h' => v = none ∧ h' = sI (sI h 384 a 0) 386 a (-1)) := by
  refine Cn_of (by decide) rfl (by simp [Value.category]) (Nat.le_of_ble_eq_true rfl) ?_
  refine G_aload_n 1 rfl rfl dX6_init_0 ?_
  refine G_objInit 4 rfl ml_X6_3 w_oi1 w_oi2 (Nat.le_of_ble_eq_true rfl) ⟨by decide, by decide⟩ dX6_init_1 ?_
  refine G_aload_n 5 rfl rfl dX6_init_4 ?_
  refine G_iconst 6 rfl (0) (by decide) dX6_init_5 ?_
  refine G_putI 9 rfl (ci := 6) (k := 0) fl_X6_9 ⟨rfl, rfl, rfl⟩ ho dX6_init_6 ?_
  refine G_aload_n 10 rfl rfl dX6_init_9 ?_
  refine G_iconst 11 rfl (-1) (by decide) dX6_init_10 ?_
  refine G_putI 14 rfl (ci := 6) (k := 2) fl_X6_15 ⟨rfl, rfl, rfl⟩ ho dX6_init_11 ?_
  refine G_ret rfl ?_ dX6_init_14
  exact ⟨rfl, rfl⟩

set_option maxHeartbeats 4000000 in
set_option maxRecDepth 100000 in
theorem c_X3_init {a : Nat} : Cn E mX3_init (rk 1 0 0) h [.ref a] (fun v h' => v = none ∧ h' = h) := by
  refine Cn_of (by decide) rfl (by simp [Value.category]) (Nat.le_of_ble_eq_true rfl) ?_
  refine G_aload_n 1 rfl rfl dX3_init_0 ?_
  refine G_objInit 4 rfl ml_X3_3 w_oi1 w_oi2 (Nat.le_of_ble_eq_true rfl) ⟨by decide, by decide⟩ dX3_init_1 ?_
  refine G_ret rfl ?_ dX3_init_4
  exact ⟨rfl, rfl⟩

set_option maxHeartbeats 4000000 in
set_option maxRecDepth 100000 in
theorem c_X2_init {a : Nat} : Cn E mX2_init (rk 1 0 0) h [.ref a] (fun v h' => v = none ∧ h' = h) := by
  refine Cn_of (by decide) rfl (by simp [Value.category]) (Nat.le_of_ble_eq_true rfl) ?_
  refine G_aload_n 1 rfl rfl dX2_init_0 ?_
  refine G_objInit 4 rfl ml_X2_1 w_oi1 w_oi2 (Nat.le_of_ble_eq_true rfl) ⟨by decide, by decide⟩ dX2_init_1 ?_
  refine G_ret rfl ?_ dX2_init_4
  exact ⟨rfl, rfl⟩

set_option maxHeartbeats 4000000 in
set_option maxRecDepth 100000 in
theorem c_X1_init {a : Nat} (ho : Ob E h 1 a) (hk : eK E (hn h) = 11) (hl : eN E (hn h) = 128) : Cn E mX1_init (rk 1 1 128) h [.ref a] (fun v h' => v = none ∧ h' = sR (sN h) 64 a (some (hn h))) := by
  refine Cn_of (by decide) rfl (by simp [Value.category]) (Nat.le_of_ble_eq_true rfl) ?_
  refine G_aload_n 1 rfl rfl dX1_init_0 ?_
  refine G_objInit 4 rfl ml_X1_3 w_oi1 w_oi2 (Nat.le_of_ble_eq_true rfl) ⟨by decide, by decide⟩ dX1_init_1 ?_
  refine G_aload_n 5 rfl rfl dX1_init_4 ?_
  refine G_sipush 8 rfl (128) (by decide) dX1_init_5 ?_
  refine G_anew 11 rfl (ci := 11) (N := 128) (by decide) (by decide) rfl cl_X1_9 rfl (by omega) hk hl rfl rfl dX1_init_8 ?_
  refine G_putFR 14 rfl (ci := 1) (k := 0) fl_X1_11 ⟨rfl, rfl, rfl⟩ ⟨rfl, rfl⟩ ⟨ho.1, ho.2.1, show a < hn h + 1 from Nat.lt_succ_of_lt ho.2.2⟩ dX1_init_11 ?_
  refine G_ret rfl ?_ dX1_init_14
  exact ⟨rfl, rfl⟩

set_option maxHeartbeats 4000000 in
set_option maxRecDepth 100000 in
theorem c_X4_init {a : Nat} (ho : Ob E h 4 a) (hk : eK E (hn h) = 9) (hl : eN E (hn h) = 1600) : Cn E mX4_init (rk 1 1 1600) h [.ref a] (fun v h' => v = none ∧ h' = sR (sN h) 256 a (some (hn h))) := by
  refine Cn_of (by decide) rfl (by simp [Value.category]) (Nat.le_of_ble_eq_true rfl) ?_
  refine G_aload_n 1 rfl rfl dX4_init_0 ?_
  refine G_objInit 4 rfl ml_X4_3 w_oi1 w_oi2 (Nat.le_of_ble_eq_true rfl) ⟨by decide, by decide⟩ dX4_init_1 ?_
  refine G_aload_n 5 rfl rfl dX4_init_4 ?_
  refine G_sipush 8 rfl (1600) (by decide) dX4_init_5 ?_
  refine G_newI 10 rfl (ci := 9) (at' := .int) (N := 1600) (Or.inl ⟨rfl, rfl⟩) w_ai rfl (by omega) hk hl rfl rfl dX4_init_8 ?_
  refine G_putFR 13 rfl (ci := 4) (k := 0) fl_X4_9 ⟨rfl, rfl, rfl⟩ ⟨rfl, rfl⟩ ⟨ho.1, ho.2.1, show a < hn h + 1 from Nat.lt_succ_of_lt ho.2.2⟩ dX4_init_10 ?_
  refine G_ret rfl ?_ dX4_init_13
  exact ⟨rfl, rfl⟩

def PC (E : Ev) (p : Nat) : Cl := kI (kI (kI (kR (kR (kR (kR c0 321 (some (aW E p))) 322 (some (aT E p))) 323 (some (aGA E p))) 324 (some (aOA E p))) 325 0) 328 (-1)) 320 (nI p)
def WC : Cl := kI (kI c0 384 0) 386 (-1)
def GC (E : Ev) (p i : Nat) : Cl := (c0.1, c0.2.1, c0.2.2.1, fun j => if j < i then some (aG E (8 * p + j)) else none)
theorem GC_s (E : Ev) (p i : Nat) : kQ (GC E p i) i (some (aG E (8 * p + i))) = GC E p (i + 1) := by
  unfold kQ GC
  have : (fun j => if j = i then some (aG E (8 * p + i)) else if j < i then some (aG E (8 * p + j)) else none) = fun j => if j < i + 1 then some (aG E (8 * p + j)) else none := by
    funext j
    by_cases h1 : j = i
    · subst h1; simp
    · rw [if_neg h1]
      by_cases h2 : j < i
      · rw [if_pos h2, if_pos (by omega)]
      · rw [if_neg h2, if_neg (by omega)]
  simp only [this]
theorem GC_0 (E : Ev) (p : Nat) : GC E p 0 = c0 := by
  unfold GC c0
  simp
/-- a process with i of its guards made -/
def GI (E : Ev) (h0 : Hp) (p i : Nat) (h : Hp) : Prop := hn h = eB E + 7 + 13 * p + i ∧ cl h (aP E p) = PC E p ∧ cl h (aW E p) = WC ∧ cl h (aT E p) = c0 ∧ cl h (aGA E p) = GC E p i ∧ cl h (aOA E p) = c0 ∧ (∀ j, j < i → cl h (aG E (8 * p + j)) = c0) ∧ ∀ b, b < aP E p → cl h b = cl h0 b
theorem LY.k (hL : LY E m) {ci i : Nat} (hc : ci < 9) (hv : vd m 0 ci i) : eK E (ad E m ci i) = ci := hL.2.1 ci i 0 hc hv

set_option maxHeartbeats 4000000 in
set_option maxRecDepth 100000 in
theorem lp_X5_init (hL : LY E m) {p : Nat} (hp : p < m) {h0 : Hp} : ∀ (n i : Nat), i + n = 8 → ∀ h, GI E h0 p i h → G E mX5_init (rk 2 12 56) (fun v h' => v = none ∧ GI E h0 p 8 h') 61 [some (.ref (aP E p)), some (.int (nI p)), some (.int (nI i))] [] h n (4 * n) := by
  intro n
  induction n with
  | zero =>
    intro i hi h hI
    obtain rfl : i = 8 := by omega
    refine G_iload_n 62 rfl rfl dX5_init_61 ?_
    refine G_bipush 64 rfl (8) (by decide) dX5_init_62 ?_
    refine G_icmpT_ge 86 (by decide) (by decide) dX5_init_64 ?_
    refine G_ret rfl ?_ dX5_init_86
    exact ⟨rfl, hI⟩
  | succ n ih =>
    intro i hi h hI
    obtain ⟨i1, i2, i3, i4, i5, i6, i7, i8⟩ := hI
    have hhn : hn h = aG E (8 * p + i) := by rw [i1]; simp only [aG]; omega
    have kP : eK E (aP E p) = 5 := hL.k (ci := 5) (i := p) (by decide) hp
    have kG : eK E (hn h) = 2 := by rw [hhn]; exact hL.k (ci := 2) (i := 8 * p + i) (by decide) (show 8 * p + i < 8 * m by omega)
    have hGA := (hL.2.2.2.1 p hp).1
    have l1 : eB E ≤ aP E p ∧ aP E p < hn h := by rw [i1]; simp only [aP]; omega
    have l2 : eB E ≤ aGA E p ∧ aGA E p < hn h := by rw [i1]; simp only [aGA]; omega
    have l3 : eB E ≤ hn h := by omega
    refine G_iload_n 62 rfl rfl dX5_init_61 ?_
    refine G_bipush 64 rfl (8) (by decide) dX5_init_62 ?_
    refine G_icmpF_ge 67 rfl (nI_ge (b := 8) (by omega) (by omega)) ⟨86, by decide⟩ dX5_init_64 ?_
    refine G_aload_n 68 rfl rfl dX5_init_67 ?_
    refine G_getR 71 rfl (ci := 5) (k := 3) (b := aGA E p) fl_X5_27 rfl ⟨kP, l1.1, l1.2⟩ (cl_r i2 323) dX5_init_68 ?_
    refine G_iload_n 72 rfl rfl dX5_init_71 ?_
    refine G_new 75 rfl (ci := 2) (by decide) cl_X5_25 w_in2 w_it2 kG (ac' := n) (as' := 4 * n) rfl (by show 4 * (n + 1) = 4 * n + 4; omega) dX5_init_72 ?_
    refine G_dup 76 rfl rfl dX5_init_75 ?_
    refine G_callN 79 rfl [] (c_X2_init (a := hn h)) ok_X2_init oi_X2_init rfl rfl mn_X5_47 rfl ⟨by decide, by decide⟩ (ac' := n) (as' := 4 * n) rfl rfl (Nat.le_of_ble_eq_true rfl) rfl dX5_init_76 ?_
    rintro v h' ⟨rfl, rfl⟩
    refine G_aastore 80 rfl (ci := 13) (cv := 2) i rfl ⟨hGA.1, l2.1, show aGA E p < hn h + 1 by omega⟩ (by decide) (by decide) (by decide) rfl ⟨kG, l3, show hn h < hn h + 1 by omega⟩ (by rw [hGA.2]; omega) (by omega) dX5_init_79 ?_
    refine G_iinc 83 rfl (nI (i + 1)) rfl (inc1 i) (by decide) dX5_init_80 ?_
    refine G_goto 61 (by decide) dX5_init_83 ?_
    refine ih (i + 1) (by omega) _ ⟨?_, ?_, ?_, ?_, ?_, ?_, fun j hj => ?_, fun b hb => ?_⟩
    · show hn h + 1 = _; omega
    · rw [cl_sQ, if_neg (by simp only [aP, aGA]; omega), cl_sN, if_neg (by omega)]; exact i2
    · rw [cl_sQ, if_neg (by simp only [aW, aGA]; omega), cl_sN, if_neg (by rw [i1]; simp only [aW]; omega)]; exact i3
    · rw [cl_sQ, if_neg (by simp only [aT, aGA]; omega), cl_sN, if_neg (by rw [i1]; simp only [aT]; omega)]; exact i4
    · rw [cl_sQ, if_pos rfl, cl_sN, if_neg (by omega), i5, hhn]; exact GC_s E p i
    · rw [cl_sQ, if_neg (by simp only [aOA, aGA]; omega), cl_sN, if_neg (by rw [i1]; simp only [aOA]; omega)]; exact i6
    · rw [cl_sQ, if_neg (by simp only [aG, aGA]; omega), cl_sN]
      by_cases hj2 : j = i
      · subst hj2; rw [if_pos hhn.symm]
      · rw [if_neg (by rw [hhn]; simp only [aG]; omega)]; exact i7 j (by omega)
    · rw [cl_sQ, if_neg (by simp only [aP] at hb; simp only [aGA]; omega), cl_sN, if_neg (by omega)]; exact i8 b hb

set_option maxHeartbeats 4000000 in
set_option maxRecDepth 100000 in
theorem c_X5_init (hL : LY E m) {p : Nat} (hp : p < m) (hhn : hn h = aW E p) (hz : cl h (aP E p) = c0) : Cn E mX5_init (rk 2 12 56) h [.ref (aP E p), .int (nI p)] (fun v h' => v = none ∧ GI E h p 8 h') := by
  refine Cn_of (by decide) rfl (by simp [Value.category]) (Nat.le_of_ble_eq_true rfl) ?_
  have kP : eK E (aP E p) = 5 := hL.k (ci := 5) (i := p) (by decide) hp
  have kW : eK E (hn h) = 6 := by rw [hhn]; exact hL.k (ci := 6) (i := p) (by decide) hp
  have eT : hn h + 1 = aT E p := by rw [hhn]; simp only [aW, aT]; omega
  have eG : hn h + 2 = aGA E p := by rw [hhn]; simp only [aW, aGA]; omega
  have eO : hn h + 3 = aOA E p := by rw [hhn]; simp only [aW, aOA]; omega
  have kT : eK E (hn h + 1) = 3 := by rw [eT]; exact hL.k (ci := 3) (i := p) (by decide) hp
  have kGA : eK E (hn h + 2) = 13 ∧ eN E (hn h + 2) = 8 := by rw [eG]; exact (hL.2.2.2.1 p hp).1
  have kOA : eK E (hn h + 3) = 11 ∧ eN E (hn h + 3) = 8 := by rw [eO]; exact (hL.2.2.2.1 p hp).2
  have l1 : eB E ≤ aP E p ∧ aP E p < hn h := by rw [hhn]; simp only [aP, aW]; omega
  refine G_aload_n 1 rfl rfl dX5_init_0 ?_
  refine G_objInit 4 rfl ml_X5_3 w_oi1 w_oi2 (Nat.le_of_ble_eq_true rfl) ⟨by decide, by decide⟩ dX5_init_1 ?_
  refine G_aload_n 5 rfl rfl dX5_init_4 ?_
  refine G_new 8 rfl (ci := 6) (by decide) cl_X5_9 w_in6 w_it6 kW (ac' := 11) (as' := 53) rfl rfl dX5_init_5 ?_
  refine G_dup 9 rfl rfl dX5_init_8 ?_
  refine G_callN 12 rfl [] (c_X6_init (a := hn h) ⟨kW, by omega, show hn h < hn h + 1 by omega⟩) ok_X6_init oi_X6_init rfl rfl mn_X5_11 rfl ⟨by decide, by decide⟩ (ac' := 11) (as' := 53) rfl rfl (Nat.le_of_ble_eq_true rfl) rfl dX5_init_9 ?_
  rintro v h' ⟨rfl, rfl⟩
  refine G_putFR 15 rfl (ci := 5) (k := 1) fl_X5_12 ⟨rfl, rfl, rfl⟩ ⟨rfl, rfl⟩ ⟨kP, l1.1, show aP E p < hn h + 1 by omega⟩ dX5_init_12 ?_
  refine G_aload_n 16 rfl rfl dX5_init_15 ?_
  refine G_new 19 rfl (ci := 3) (by decide) cl_X5_18 w_in3 w_it3 kT (ac' := 10) (as' := 48) rfl rfl dX5_init_16 ?_
  refine G_dup 20 rfl rfl dX5_init_19 ?_
  refine G_callN 23 rfl [] (c_X3_init (a := hn h + 1)) ok_X3_init oi_X3_init rfl rfl mn_X5_20 rfl ⟨by decide, by decide⟩ (ac' := 10) (as' := 48) rfl rfl (Nat.le_of_ble_eq_true rfl) rfl dX5_init_20 ?_
  rintro v h' ⟨rfl, rfl⟩
  refine G_putFR 26 rfl (ci := 5) (k := 2) fl_X5_21 ⟨rfl, rfl, rfl⟩ ⟨rfl, rfl⟩ ⟨kP, l1.1, show aP E p < hn h + 2 by omega⟩ dX5_init_23 ?_
  refine G_aload_n 27 rfl rfl dX5_init_26 ?_
  refine G_bipush 29 rfl (8) (by decide) dX5_init_27 ?_
  refine G_anew 32 rfl (ci := 13) (N := 8) (by decide) (by decide) rfl cl_X5_25 rfl (by omega) kGA.1 kGA.2 (ac' := 9) (as' := 40) rfl rfl dX5_init_29 ?_
  refine G_putFR 35 rfl (ci := 5) (k := 3) fl_X5_27 ⟨rfl, rfl, rfl⟩ ⟨rfl, rfl⟩ ⟨kP, l1.1, show aP E p < hn h + 3 by omega⟩ dX5_init_32 ?_
  refine G_aload_n 36 rfl rfl dX5_init_35 ?_
  refine G_bipush 38 rfl (8) (by decide) dX5_init_36 ?_
  refine G_anew 41 rfl (ci := 11) (N := 8) (by decide) (by decide) rfl cl_X5_31 rfl (by omega) kOA.1 kOA.2 (ac' := 8) (as' := 32) rfl rfl dX5_init_38 ?_
  refine G_putFR 44 rfl (ci := 5) (k := 4) fl_X5_33 ⟨rfl, rfl, rfl⟩ ⟨rfl, rfl⟩ ⟨kP, l1.1, show aP E p < hn h + 4 by omega⟩ dX5_init_41 ?_
  refine G_aload_n 45 rfl rfl dX5_init_44 ?_
  refine G_iconst 46 rfl (0) (by decide) dX5_init_45 ?_
  refine G_putI 49 rfl (ci := 5) (k := 5) fl_X5_37 ⟨rfl, rfl, rfl⟩ ⟨kP, l1.1, show aP E p < hn h + 4 by omega⟩ dX5_init_46 ?_
  refine G_aload_n 50 rfl rfl dX5_init_49 ?_
  refine G_iconst 51 rfl (-1) (by decide) dX5_init_50 ?_
  refine G_putI 54 rfl (ci := 5) (k := 8) fl_X5_41 ⟨rfl, rfl, rfl⟩ ⟨kP, l1.1, show aP E p < hn h + 4 by omega⟩ dX5_init_51 ?_
  refine G_aload_n 55 rfl rfl dX5_init_54 ?_
  refine G_iload_n 56 rfl rfl dX5_init_55 ?_
  refine G_putFI 59 rfl (ci := 5) (k := 0) fl_X5_44 ⟨rfl, rfl, rfl⟩ ⟨rfl, rfl⟩ ⟨kP, l1.1, show aP E p < hn h + 4 by omega⟩ dX5_init_56 ?_
  refine G_iconst 60 rfl (0) (by decide) dX5_init_59 ?_
  refine G_istore_n 61 rfl (by decide) dX5_init_60 ?_
  refine lp_X5_init hL hp (h0 := h) 8 0 (by omega) (sI (sI (sI (sR (sN (sR (sN (sR (sN (sR (sI (sI (sN h) 384 (hn h) 0) 386 (hn h) (-1)) 321 (aP E p) (some (hn h)))) 322 (aP E p) (some (hn h + 1)))) 323 (aP E p) (some (hn h + 2)))) 324 (aP E p) (some (hn h + 3))) 325 (aP E p) 0) 328 (aP E p) (-1)) 320 (aP E p) (nI p)) ⟨?_, ?_, ?_, ?_, ?_, ?_, fun j hj => by omega, fun b hb => ?_⟩
  · show hn h + 4 = _; rw [hhn]; simp only [aW]; omega
  · simp only [cl_sI, cl_sR, cl_sN, hn_sI, hn_sR, hn_sN, if_true]
    repeat rw [if_neg (by omega)]
    rw [hz, eT, eG, eO, hhn]; rfl
  · have e : aW E p = hn h := hhn.symm
    have ne : ¬ hn h = aP E p := by omega
    rw [e]
    simp only [cl_sI, cl_sR, cl_sN, hn_sI, hn_sR, hn_sN, if_true, if_neg ne]
    repeat rw [if_neg (by omega)]
    rfl
  · have e : aT E p = hn h + 1 := eT.symm
    have ne : ¬ hn h + 1 = aP E p := by omega
    rw [e]
    simp only [cl_sI, cl_sR, cl_sN, hn_sI, hn_sR, hn_sN, if_true, if_neg ne]
    repeat rw [if_neg (by omega)]
  · have e : aGA E p = hn h + 2 := eG.symm
    have ne : ¬ hn h + 2 = aP E p := by omega
    rw [e, GC_0]
    simp only [cl_sI, cl_sR, cl_sN, hn_sI, hn_sR, hn_sN, if_true, if_neg ne]
    repeat rw [if_neg (by omega)]
  · have e : aOA E p = hn h + 3 := eO.symm
    have ne : ¬ hn h + 3 = aP E p := by omega
    rw [e]
    simp only [cl_sI, cl_sR, cl_sN, hn_sI, hn_sR, hn_sN, if_true, if_neg ne]
  · have ne : ¬ b = aP E p := by omega
    have n0 : ¬ b = hn h := by omega
    have n1 : ¬ b = hn h + 1 := by omega
    have n2 : ¬ b = hn h + 2 := by omega
    have n3 : ¬ b = hn h + 3 := by omega
    simp only [cl_sI, cl_sR, cl_sN, hn_sI, hn_sR, hn_sN, if_neg ne, if_neg n0, if_neg n1]
    first | rfl | (repeat rw [if_neg (by omega)])
end INIT

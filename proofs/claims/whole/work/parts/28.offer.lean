def bOf0 (σ : Sg) (p : Nat) (k : Int32) : Sg := up (up (up (up (uP (up (uM (up (up (up (up (up (up σ 385 p (σ.1 385 p + 1)) 384 p 1) 386 p (-1)) 328 p (if σ.1 327 p ≤ 0 then -1 else k + σ.1 327 p)) 332 p 0) 333 p 0) p none) 334 p 0) p []) 336 p 0) 337 p 0) 338 p 0) 339 p 0
def bOf (σ : Sg) (p : Nat) (k : Int32) : Sg := match nxt σ p 0 with
  | none => up (up (bOf0 σ p k) 329 p 0) 325 p 9
  | some j => up (up (bOf0 σ p k) 329 p (nI j)) 325 p 2
/-- a counting loop: n places from a on -/
def ctA (f : Nat → Bool) : Nat → Nat → Int32 → Int32
  | 0, _, s => s
  | n + 1, a, s => ctA f n (a + 1) (if f a then s + 1 else s)
theorem ctA_congr {f g : Nat → Bool} : ∀ {n a : Nat} {s : Int32}, (∀ i, a ≤ i → i < a + n → f i = g i) → ctA f n a s = ctA g n a s := by
  intro n
  induction n with
  | zero => intro a s _; rfl
  | succ n ih =>
    intro a s h
    unfold ctA
    rw [h a (Nat.le_refl _) (by omega)]
    exact ih (fun i h1 h2 => h i (by omega) (by omega))
def smA (f : Nat → Int32) : Nat → Nat → Int32 → Int32
  | 0, _, s => s
  | n + 1, a, s => smA f n (a + 1) (s + f a)
/-- two guards of p and q match; some of the first gp and gq do -/
def mtG (σ : Sg) (p q i j : Nat) : Prop := ¬ σ.1 131 (8 * p + i) = 0 ∧ ¬ σ.1 131 (8 * q + j) = 0 ∧ σ.1 129 (8 * p + i) = σ.1 129 (8 * q + j) ∧ ¬ σ.1 128 (8 * p + i) = σ.1 128 (8 * q + j)
def mtC (σ : Sg) (p q gp gq : Nat) : Prop := ∃ i j, i < gp ∧ j < gq ∧ mtG σ p q i j
set_option maxHeartbeats 4000000 in
set_option maxRecDepth 100000 in
theorem c_X5_beginOffer {E : Ev} {m : Nat} {σ : Sg} {τ : Tu} {h : Hp} (hR : RR E m σ τ h) {p : Nat} (hp : p < m) {g : Nat} (hg : σ.1 326 p = nI g) (hg8 : g ≤ 8) (k : Int32) : Cn E mX5_beginOffer (rk 2 0 0) h [.ref (aP E p), .int k] (fun v h' => v = none ∧ RR E m (bOf σ p k) τ h') := by
  refine Cn_of (by decide) rfl (by simp [Value.category]) (Nat.le_of_ble_eq_true rfl) ?_
  refine G_aload_n 1 rfl rfl dX5_beginOffer_0 ?_
  refine G_p1 4 rfl hR fl_X5_12 hp dX5_beginOffer_1 ?_
  refine G_dup 5 rfl rfl dX5_beginOffer_4 ?_
  refine G_gi 8 rfl hR 6 1 p 385 (σ.1 385 p) fl_X5_67 hp rfl rfl rfl rfl dX5_beginOffer_5 ?_
  refine G_iconst 9 rfl (1) (by decide) dX5_beginOffer_8 ?_
  refine G_iadd 10 rfl dX5_beginOffer_9 ?_
  refine G_pi 13 rfl hR 6 1 p 385 fl_X5_67 hp rfl ⟨rfl, rfl⟩ rfl rfl dX5_beginOffer_10 (fun h hR => ?_)
  refine G_aload_n 14 rfl rfl dX5_beginOffer_13 ?_
  refine G_p1 17 rfl hR fl_X5_12 hp dX5_beginOffer_14 ?_
  refine G_iconst 18 rfl (1) (by decide) dX5_beginOffer_17 ?_
  refine G_callV 21 rfl [.int 1] (c_X6_become hR hp 1) ok_X6_become ov_X6_become ml_X5_70 (hR.ob (ci := 6) (i := p) (by decide) hp) ⟨by decide, rfl⟩ rfl ⟨by decide, by decide⟩ rfl rfl (Nat.le_of_ble_eq_true rfl) rfl dX5_beginOffer_18 ?_
  rintro v h ⟨rfl, hR⟩
  refine G_aload_n 22 rfl rfl dX5_beginOffer_21 ?_
  refine G_aload_n 23 rfl rfl dX5_beginOffer_22 ?_
  refine G_gi 26 rfl hR 5 7 p 327 (σ.1 327 p) fl_X5_51 hp rfl rfl rfl rfl dX5_beginOffer_23 ?_
  refine G_if_le 38 29 rfl (by decide) dX5_beginOffer_26 (fun c26 => ?_) (fun c26 => ?_)
  · skip
    refine G_iconst 39 rfl (-1) (by decide) dX5_beginOffer_38 ?_
    refine G_pi 42 rfl hR 5 8 p 328 fl_X5_41 hp rfl ⟨rfl, rfl⟩ rfl rfl dX5_beginOffer_39 (fun h hR => ?_)
    refine G_aload_n 43 rfl rfl dX5_beginOffer_42 ?_
    refine G_iconst 44 rfl (0) (by decide) dX5_beginOffer_43 ?_
    refine G_pz 47 rfl hR 5 12 p 332 fl_X5_74 hp rfl ⟨rfl, rfl⟩ (by decide) rfl rfl dX5_beginOffer_44 (fun h hR => ?_)
    refine G_aload_n 48 rfl rfl dX5_beginOffer_47 ?_
    refine G_iconst 49 rfl (0) (by decide) dX5_beginOffer_48 ?_
    refine G_pz 52 rfl hR 5 13 p 333 fl_X5_77 hp rfl ⟨rfl, rfl⟩ (by decide) rfl rfl dX5_beginOffer_49 (fun h hR => ?_)
    refine G_aload_n 53 rfl rfl dX5_beginOffer_52 ?_
    refine G_null 54 rfl dX5_beginOffer_53 ?_
    refine G_putMetN 57 rfl hR fl_X5_80 hp dX5_beginOffer_54 (fun h hR => ?_)
    refine G_aload_n 58 rfl rfl dX5_beginOffer_57 ?_
    refine G_iconst 59 rfl (0) (by decide) dX5_beginOffer_58 ?_
    refine G_pi 62 rfl hR 5 14 p 334 fl_X5_84 hp rfl ⟨rfl, rfl⟩ rfl rfl dX5_beginOffer_59 (fun h hR => ?_)
    refine G_aload_n 63 rfl rfl dX5_beginOffer_62 ?_
    refine G_iconst 64 rfl (0) (by decide) dX5_beginOffer_63 ?_
    refine G_putI 67 rfl (ci := 5) (k := 15) fl_X5_87 ⟨rfl, rfl, rfl⟩ (hR.ob (ci := 5) (i := p) (by decide) hp) dX5_beginOffer_64 ?_
    have hR := hR.pub0 hp
    revert hR
    generalize sI h (64 * 5 + 15) (aP E p) 0 = h2
    intro hR
    refine G_aload_n 68 rfl rfl dX5_beginOffer_67 ?_
    refine G_iconst 69 rfl (0) (by decide) dX5_beginOffer_68 ?_
    refine G_pi 72 rfl hR 5 16 p 336 fl_X5_90 hp rfl ⟨rfl, rfl⟩ rfl rfl dX5_beginOffer_69 (fun h hR => ?_)
    refine G_aload_n 73 rfl rfl dX5_beginOffer_72 ?_
    refine G_iconst 74 rfl (0) (by decide) dX5_beginOffer_73 ?_
    refine G_pi 77 rfl hR 5 17 p 337 fl_X5_93 hp rfl ⟨rfl, rfl⟩ rfl rfl dX5_beginOffer_74 (fun h hR => ?_)
    refine G_aload_n 78 rfl rfl dX5_beginOffer_77 ?_
    refine G_iconst 79 rfl (0) (by decide) dX5_beginOffer_78 ?_
    refine G_pz 82 rfl hR 5 18 p 338 fl_X5_96 hp rfl ⟨rfl, rfl⟩ (by decide) rfl rfl dX5_beginOffer_79 (fun h hR => ?_)
    refine G_aload_n 83 rfl rfl dX5_beginOffer_82 ?_
    refine G_iconst 84 rfl (0) (by decide) dX5_beginOffer_83 ?_
    refine G_pz 87 rfl hR 5 19 p 339 fl_X5_99 hp rfl ⟨rfl, rfl⟩ (by decide) rfl rfl dX5_beginOffer_84 (fun h hR => ?_)
    have hR : RR E m (bOf0 σ p k) τ h := by
      unfold bOf0
      first | (rw [if_pos c26]; exact hR) | (rw [if_neg c26]; exact hR)
    refine G_aload_n 88 rfl rfl dX5_beginOffer_87 ?_
    refine G_iconst 89 rfl (0) (by decide) dX5_beginOffer_88 ?_
    refine G_callV 92 rfl [.int 0] (c_X5_nextOn hR hp (g := g) hg hg8 0 (by omega)) ok_X5_nextOn ov_X5_nextOn ml_X5_102 (hR.ob (ci := 5) (i := p) (by decide) hp) ⟨by decide, rfl⟩ rfl ⟨by decide, by decide⟩ rfl rfl (Nat.le_of_ble_eq_true rfl) rfl dX5_beginOffer_89 ?_
    rintro v h' ⟨rfl, rfl⟩
    rw [show fOn (fun j => (bOf0 σ p k).1 131 (8 * p + j)) (g - 0) 0 = fOn (fun j => σ.1 131 (8 * p + j)) (g - 0) 0 from rfl]
    rcases hq : fOn (fun j => σ.1 131 (8 * p + j)) (g - 0) 0 with _ | j
    · skip
      refine G_istore_n 93 rfl (by decide) dX5_beginOffer_92 ?_
      refine G_aload_n 94 rfl rfl dX5_beginOffer_93 ?_
      refine G_iload_n 95 rfl rfl dX5_beginOffer_94 ?_
      refine G_iconst 96 rfl (0) (by decide) dX5_beginOffer_95 ?_
      refine G_mmax 99 rfl w_max_lX5 ⟨by decide, by decide⟩ (Nat.le_of_ble_eq_true rfl) dX5_beginOffer_96 ?_
      rw [if_pos (by decide)]
      refine G_pi 102 rfl hR 5 9 p 329 fl_X5_112 hp rfl ⟨rfl, rfl⟩ rfl rfl dX5_beginOffer_99 (fun h hR => ?_)
      refine G_aload_n 103 rfl rfl dX5_beginOffer_102 ?_
      refine G_iload_n 104 rfl rfl dX5_beginOffer_103 ?_
      refine G_iconst 105 rfl (-1) (by decide) dX5_beginOffer_104 ?_
      refine G_icmpF_ne 108 rfl rfl ⟨113, by decide⟩ dX5_beginOffer_105 ?_
      refine G_bipush 110 rfl (9) (by decide) dX5_beginOffer_108 ?_
      refine G_goto 114 (by decide) dX5_beginOffer_110 ?_
      refine G_pi 117 rfl hR 5 5 p 325 fl_X5_37 hp rfl ⟨rfl, rfl⟩ rfl rfl dX5_beginOffer_114 (fun h hR => ?_)
      refine G_ret rfl ?_ dX5_beginOffer_117
      refine ⟨rfl, ?_⟩
      unfold bOf nxt
      rw [hg, cN_nI (by omega), hq]
      exact hR
    · skip
      have hb := fOn_some hq
      refine G_istore_n 93 rfl (by decide) dX5_beginOffer_92 ?_
      refine G_aload_n 94 rfl rfl dX5_beginOffer_93 ?_
      refine G_iload_n 95 rfl rfl dX5_beginOffer_94 ?_
      refine G_iconst 96 rfl (0) (by decide) dX5_beginOffer_95 ?_
      refine G_mmax 99 rfl w_max_lX5 ⟨by decide, by decide⟩ (Nat.le_of_ble_eq_true rfl) dX5_beginOffer_96 ?_
      rw [if_neg (show ¬ oI (some j) < 0 from nI_pos (by omega))]
      refine G_pi 102 rfl hR 5 9 p 329 fl_X5_112 hp rfl ⟨rfl, rfl⟩ rfl rfl dX5_beginOffer_99 (fun h hR => ?_)
      refine G_aload_n 103 rfl rfl dX5_beginOffer_102 ?_
      refine G_iload_n 104 rfl rfl dX5_beginOffer_103 ?_
      refine G_iconst 105 rfl (-1) (by decide) dX5_beginOffer_104 ?_
      refine G_icmpT_ne 113 (oI_m1 (by omega)) (by decide) dX5_beginOffer_105 ?_
      refine G_iconst 114 rfl (2) (by decide) dX5_beginOffer_113 ?_
      refine G_pi 117 rfl hR 5 5 p 325 fl_X5_37 hp rfl ⟨rfl, rfl⟩ rfl rfl dX5_beginOffer_114 (fun h hR => ?_)
      refine G_ret rfl ?_ dX5_beginOffer_117
      refine ⟨rfl, ?_⟩
      unfold bOf nxt
      rw [hg, cN_nI (by omega), hq]
      exact hR
  · skip
    refine G_iload_n 30 rfl rfl dX5_beginOffer_29 ?_
    refine G_aload_n 31 rfl rfl dX5_beginOffer_30 ?_
    refine G_gi 34 rfl hR 5 7 p 327 (σ.1 327 p) fl_X5_51 hp rfl rfl rfl rfl dX5_beginOffer_31 ?_
    refine G_iadd 35 rfl dX5_beginOffer_34 ?_
    refine G_goto 39 (by decide) dX5_beginOffer_35 ?_
    refine G_pi 42 rfl hR 5 8 p 328 fl_X5_41 hp rfl ⟨rfl, rfl⟩ rfl rfl dX5_beginOffer_39 (fun h hR => ?_)
    refine G_aload_n 43 rfl rfl dX5_beginOffer_42 ?_
    refine G_iconst 44 rfl (0) (by decide) dX5_beginOffer_43 ?_
    refine G_pz 47 rfl hR 5 12 p 332 fl_X5_74 hp rfl ⟨rfl, rfl⟩ (by decide) rfl rfl dX5_beginOffer_44 (fun h hR => ?_)
    refine G_aload_n 48 rfl rfl dX5_beginOffer_47 ?_
    refine G_iconst 49 rfl (0) (by decide) dX5_beginOffer_48 ?_
    refine G_pz 52 rfl hR 5 13 p 333 fl_X5_77 hp rfl ⟨rfl, rfl⟩ (by decide) rfl rfl dX5_beginOffer_49 (fun h hR => ?_)
    refine G_aload_n 53 rfl rfl dX5_beginOffer_52 ?_
    refine G_null 54 rfl dX5_beginOffer_53 ?_
    refine G_putMetN 57 rfl hR fl_X5_80 hp dX5_beginOffer_54 (fun h hR => ?_)
    refine G_aload_n 58 rfl rfl dX5_beginOffer_57 ?_
    refine G_iconst 59 rfl (0) (by decide) dX5_beginOffer_58 ?_
    refine G_pi 62 rfl hR 5 14 p 334 fl_X5_84 hp rfl ⟨rfl, rfl⟩ rfl rfl dX5_beginOffer_59 (fun h hR => ?_)
    refine G_aload_n 63 rfl rfl dX5_beginOffer_62 ?_
    refine G_iconst 64 rfl (0) (by decide) dX5_beginOffer_63 ?_
    refine G_putI 67 rfl (ci := 5) (k := 15) fl_X5_87 ⟨rfl, rfl, rfl⟩ (hR.ob (ci := 5) (i := p) (by decide) hp) dX5_beginOffer_64 ?_
    have hR := hR.pub0 hp
    revert hR
    generalize sI h (64 * 5 + 15) (aP E p) 0 = h2
    intro hR
    refine G_aload_n 68 rfl rfl dX5_beginOffer_67 ?_
    refine G_iconst 69 rfl (0) (by decide) dX5_beginOffer_68 ?_
    refine G_pi 72 rfl hR 5 16 p 336 fl_X5_90 hp rfl ⟨rfl, rfl⟩ rfl rfl dX5_beginOffer_69 (fun h hR => ?_)
    refine G_aload_n 73 rfl rfl dX5_beginOffer_72 ?_
    refine G_iconst 74 rfl (0) (by decide) dX5_beginOffer_73 ?_
    refine G_pi 77 rfl hR 5 17 p 337 fl_X5_93 hp rfl ⟨rfl, rfl⟩ rfl rfl dX5_beginOffer_74 (fun h hR => ?_)
    refine G_aload_n 78 rfl rfl dX5_beginOffer_77 ?_
    refine G_iconst 79 rfl (0) (by decide) dX5_beginOffer_78 ?_
    refine G_pz 82 rfl hR 5 18 p 338 fl_X5_96 hp rfl ⟨rfl, rfl⟩ (by decide) rfl rfl dX5_beginOffer_79 (fun h hR => ?_)
    refine G_aload_n 83 rfl rfl dX5_beginOffer_82 ?_
    refine G_iconst 84 rfl (0) (by decide) dX5_beginOffer_83 ?_
    refine G_pz 87 rfl hR 5 19 p 339 fl_X5_99 hp rfl ⟨rfl, rfl⟩ (by decide) rfl rfl dX5_beginOffer_84 (fun h hR => ?_)
    have hR : RR E m (bOf0 σ p k) τ h := by
      unfold bOf0
      first | (rw [if_pos c26]; exact hR) | (rw [if_neg c26]; exact hR)
    refine G_aload_n 88 rfl rfl dX5_beginOffer_87 ?_
    refine G_iconst 89 rfl (0) (by decide) dX5_beginOffer_88 ?_
    refine G_callV 92 rfl [.int 0] (c_X5_nextOn hR hp (g := g) hg hg8 0 (by omega)) ok_X5_nextOn ov_X5_nextOn ml_X5_102 (hR.ob (ci := 5) (i := p) (by decide) hp) ⟨by decide, rfl⟩ rfl ⟨by decide, by decide⟩ rfl rfl (Nat.le_of_ble_eq_true rfl) rfl dX5_beginOffer_89 ?_
    rintro v h' ⟨rfl, rfl⟩
    rw [show fOn (fun j => (bOf0 σ p k).1 131 (8 * p + j)) (g - 0) 0 = fOn (fun j => σ.1 131 (8 * p + j)) (g - 0) 0 from rfl]
    rcases hq : fOn (fun j => σ.1 131 (8 * p + j)) (g - 0) 0 with _ | j
    · skip
      refine G_istore_n 93 rfl (by decide) dX5_beginOffer_92 ?_
      refine G_aload_n 94 rfl rfl dX5_beginOffer_93 ?_
      refine G_iload_n 95 rfl rfl dX5_beginOffer_94 ?_
      refine G_iconst 96 rfl (0) (by decide) dX5_beginOffer_95 ?_
      refine G_mmax 99 rfl w_max_lX5 ⟨by decide, by decide⟩ (Nat.le_of_ble_eq_true rfl) dX5_beginOffer_96 ?_
      rw [if_pos (by decide)]
      refine G_pi 102 rfl hR 5 9 p 329 fl_X5_112 hp rfl ⟨rfl, rfl⟩ rfl rfl dX5_beginOffer_99 (fun h hR => ?_)
      refine G_aload_n 103 rfl rfl dX5_beginOffer_102 ?_
      refine G_iload_n 104 rfl rfl dX5_beginOffer_103 ?_
      refine G_iconst 105 rfl (-1) (by decide) dX5_beginOffer_104 ?_
      refine G_icmpF_ne 108 rfl rfl ⟨113, by decide⟩ dX5_beginOffer_105 ?_
      refine G_bipush 110 rfl (9) (by decide) dX5_beginOffer_108 ?_
      refine G_goto 114 (by decide) dX5_beginOffer_110 ?_
      refine G_pi 117 rfl hR 5 5 p 325 fl_X5_37 hp rfl ⟨rfl, rfl⟩ rfl rfl dX5_beginOffer_114 (fun h hR => ?_)
      refine G_ret rfl ?_ dX5_beginOffer_117
      refine ⟨rfl, ?_⟩
      unfold bOf nxt
      rw [hg, cN_nI (by omega), hq]
      exact hR
    · skip
      have hb := fOn_some hq
      refine G_istore_n 93 rfl (by decide) dX5_beginOffer_92 ?_
      refine G_aload_n 94 rfl rfl dX5_beginOffer_93 ?_
      refine G_iload_n 95 rfl rfl dX5_beginOffer_94 ?_
      refine G_iconst 96 rfl (0) (by decide) dX5_beginOffer_95 ?_
      refine G_mmax 99 rfl w_max_lX5 ⟨by decide, by decide⟩ (Nat.le_of_ble_eq_true rfl) dX5_beginOffer_96 ?_
      rw [if_neg (show ¬ oI (some j) < 0 from nI_pos (by omega))]
      refine G_pi 102 rfl hR 5 9 p 329 fl_X5_112 hp rfl ⟨rfl, rfl⟩ rfl rfl dX5_beginOffer_99 (fun h hR => ?_)
      refine G_aload_n 103 rfl rfl dX5_beginOffer_102 ?_
      refine G_iload_n 104 rfl rfl dX5_beginOffer_103 ?_
      refine G_iconst 105 rfl (-1) (by decide) dX5_beginOffer_104 ?_
      refine G_icmpT_ne 113 (oI_m1 (by omega)) (by decide) dX5_beginOffer_105 ?_
      refine G_iconst 114 rfl (2) (by decide) dX5_beginOffer_113 ?_
      refine G_pi 117 rfl hR 5 5 p 325 fl_X5_37 hp rfl ⟨rfl, rfl⟩ rfl rfl dX5_beginOffer_114 (fun h hR => ?_)
      refine G_ret rfl ?_ dX5_beginOffer_117
      refine ⟨rfl, ?_⟩
      unfold bOf nxt
      rw [hg, cN_nI (by omega), hq]
      exact hR

set_option maxHeartbeats 4000000 in
set_option maxRecDepth 100000 in
theorem lpi_X5_matches {E : Ev} {m : Nat} {σ : Sg} {τ : Tu} {h : Hp} (hR : RR E m σ τ h) {p : Nat} (hp : p < m) {q : Nat} (hq : q < m) {gp gq : Nat} (hgp : σ.1 326 p = nI gp) (hgp8 : gp ≤ 8) (hgq : σ.1 326 q = nI gq) (hgq8 : gq ≤ 8) {a : Nat} (ha : a < gp) (hk : (∀ j, j < gq → ¬ mtG σ p q a j) → G E mX5_matches (rk 1 0 0) (fun v h' => ((mtC σ p q gp gq) ∧ v = some (.int 1) ∨ ¬ (mtC σ p q gp gq) ∧ v = some (.int 0)) ∧ h' = h) 64 [some (.ref (aP E p)), some (.ref (aP E q)), some (.int (nI a)), none] [] h 0 0) : ∀ (r b : Nat), b + r = gq → (∀ j, j < b → ¬ mtG σ p q a j) → G E mX5_matches (rk 1 0 0) (fun v h' => ((mtC σ p q gp gq) ∧ v = some (.int 1) ∨ ¬ (mtC σ p q gp gq) ∧ v = some (.int 0)) ∧ h' = h) 21 [some (.ref (aP E p)), some (.ref (aP E q)), some (.int (nI a)), some (.int (nI b))] [] h 0 0 := by
  intro r
  induction r with
  | zero =>
    intro b hb i1
    refine G_iload_n 22 rfl rfl dX5_matches_21 ?_
    refine G_aload_n 23 rfl rfl dX5_matches_22 ?_
    refine G_gi 26 rfl hR 5 6 q 326 (σ.1 326 q) fl_X5_48 hq rfl rfl rfl rfl dX5_matches_23 ?_
    refine G_icmpT_ge 64 (by rw [hgq]; exact nI_le (by omega) (by omega)) (by decide) dX5_matches_26 ?_
    refine G_lw [some (.ref (aP E p)), some (.ref (aP E q)), some (.int (nI a)), none] (by intro x y hx; rcases x with _ | _ | _ | _ | x <;> first | exact hx | cases hx) ?_
    exact hk (fun j hj => i1 j (by omega))
  | succ r ih =>
    intro b hb i1
    refine G_iload_n 22 rfl rfl dX5_matches_21 ?_
    refine G_aload_n 23 rfl rfl dX5_matches_22 ?_
    refine G_gi 26 rfl hR 5 6 q 326 (σ.1 326 q) fl_X5_48 hq rfl rfl rfl rfl dX5_matches_23 ?_
    refine G_icmpF_ge 29 rfl (by rw [hgq]; exact nI_ge (by omega) (by omega)) ⟨64, by decide⟩ dX5_matches_26 ?_
    refine G_iload_n 30 rfl rfl dX5_matches_29 ?_
    refine G_aload_n 31 rfl rfl dX5_matches_30 ?_
    refine G_p3 34 rfl hR fl_X5_27 hq dX5_matches_31 ?_
    refine G_lenGA 35 rfl hR hq dX5_matches_34 ?_
    refine G_icmpF_ge 38 rfl (nI_ge (b := 8) (by omega) (by omega)) ⟨64, by decide⟩ dX5_matches_35 ?_
    refine G_aload_n 39 rfl rfl dX5_matches_38 ?_
    refine G_p3 42 rfl hR fl_X5_27 hp dX5_matches_39 ?_
    refine G_iload_n 43 rfl rfl dX5_matches_42 ?_
    refine G_guards 44 rfl hR (p := p) (j := a) rfl hp (by omega) dX5_matches_43 ?_
    refine G_aload_n 45 rfl rfl dX5_matches_44 ?_
    refine G_p3 48 rfl hR fl_X5_27 hq dX5_matches_45 ?_
    refine G_iload_n 49 rfl rfl dX5_matches_48 ?_
    refine G_guards 50 rfl hR (p := q) (j := b) rfl hq (by omega) dX5_matches_49 ?_
    refine G_callV 53 rfl [.ref (aG E (8 * q + b))] (c_X2_matches hR (gvd hp (show a < 8 by omega)) (gvd hq (show b < 8 by omega))) ok_X2_matches ov_X2_matches ml_X5_136 (hR.ob (ci := 2) (i := 8 * p + a) (by decide) (gvd hp (by omega))) ⟨by decide, rfl⟩ rfl ⟨by decide, by decide⟩ rfl rfl (Nat.le_of_ble_eq_true rfl) rfl dX5_matches_50 ?_
    rintro v h' ⟨⟨hs, rfl⟩ | ⟨hs, rfl⟩, rfl⟩
    · skip
      refine G_ifF_eq 56 rfl (by decide) ⟨58, by decide⟩ dX5_matches_53 ?_
      refine G_iconst 57 rfl (1) (by decide) dX5_matches_56 ?_
      refine G_iret (ty := .boolean) rfl (by decide) ?_ dX5_matches_57
      exact ⟨Or.inl ⟨⟨a, b, by omega, by omega, hs⟩, rfl⟩, rfl⟩
    · skip
      refine G_ifT_eq 58 (by decide) (by decide) dX5_matches_53 ?_
      refine G_iinc 61 rfl (nI (b + 1)) rfl (inc1 b) (by decide) dX5_matches_58 ?_
      refine G_goto 21 (by decide) dX5_matches_61 ?_
      exact ih (b + 1) (by omega) (fun j hj => by
        rcases Nat.lt_or_ge j b with z | z
        · exact i1 j z
        · rw [show j = b by omega]; exact hs)
set_option maxHeartbeats 4000000 in
set_option maxRecDepth 100000 in
theorem lpo_X5_matches {E : Ev} {m : Nat} {σ : Sg} {τ : Tu} {h : Hp} (hR : RR E m σ τ h) {p : Nat} (hp : p < m) {q : Nat} (hq : q < m) {gp gq : Nat} (hgp : σ.1 326 p = nI gp) (hgp8 : gp ≤ 8) (hgq : σ.1 326 q = nI gq) (hgq8 : gq ≤ 8) : ∀ (r a : Nat), a + r = gp → (∀ i j, i < a → j < gq → ¬ mtG σ p q i j) → G E mX5_matches (rk 1 0 0) (fun v h' => ((mtC σ p q gp gq) ∧ v = some (.int 1) ∨ ¬ (mtC σ p q gp gq) ∧ v = some (.int 0)) ∧ h' = h) 2 [some (.ref (aP E p)), some (.ref (aP E q)), some (.int (nI a)), none] [] h 0 0 := by
  intro r
  induction r with
  | zero =>
    intro a ha i1
    refine G_iload_n 3 rfl rfl dX5_matches_2 ?_
    refine G_aload_n 4 rfl rfl dX5_matches_3 ?_
    refine G_gi 7 rfl hR 5 6 p 326 (σ.1 326 p) fl_X5_48 hp rfl rfl rfl rfl dX5_matches_4 ?_
    refine G_icmpT_ge 70 (by rw [hgp]; exact nI_le (by omega) (by omega)) (by decide) dX5_matches_7 ?_
    refine G_iconst 71 rfl (0) (by decide) dX5_matches_70 ?_
    refine G_iret (ty := .boolean) rfl (by decide) ?_ dX5_matches_71
    exact ⟨Or.inr ⟨fun ⟨i, j, z1, z2, z3⟩ => i1 i j (by omega) z2 z3, rfl⟩, rfl⟩
  | succ r ih =>
    intro a ha i1
    refine G_iload_n 3 rfl rfl dX5_matches_2 ?_
    refine G_aload_n 4 rfl rfl dX5_matches_3 ?_
    refine G_gi 7 rfl hR 5 6 p 326 (σ.1 326 p) fl_X5_48 hp rfl rfl rfl rfl dX5_matches_4 ?_
    refine G_icmpF_ge 10 rfl (by rw [hgp]; exact nI_ge (by omega) (by omega)) ⟨70, by decide⟩ dX5_matches_7 ?_
    refine G_iload_n 11 rfl rfl dX5_matches_10 ?_
    refine G_aload_n 12 rfl rfl dX5_matches_11 ?_
    refine G_p3 15 rfl hR fl_X5_27 hp dX5_matches_12 ?_
    refine G_lenGA 16 rfl hR hp dX5_matches_15 ?_
    refine G_icmpF_ge 19 rfl (nI_ge (b := 8) (by omega) (by omega)) ⟨70, by decide⟩ dX5_matches_16 ?_
    refine G_iconst 20 rfl (0) (by decide) dX5_matches_19 ?_
    refine G_istore_n 21 rfl (by decide) dX5_matches_20 ?_
    refine lpi_X5_matches hR hp hq hgp hgp8 hgq hgq8 (by omega) (fun i2 => ?_) gq 0 (by omega) (fun j hj => by omega)
    refine G_iinc 67 rfl (nI (a + 1)) rfl (inc1 a) (by decide) dX5_matches_64 ?_
    refine G_goto 2 (by decide) dX5_matches_67 ?_
    exact ih (a + 1) (by omega) (fun i j z1 z2 => by
      by_cases z : i = a
      · subst z; exact i2 j z2
      · exact i1 i j (by omega) z2)

set_option maxHeartbeats 4000000 in
set_option maxRecDepth 100000 in
theorem c_X5_matches {E : Ev} {m : Nat} {σ : Sg} {τ : Tu} {h : Hp} (hR : RR E m σ τ h) {p : Nat} (hp : p < m) {q : Nat} (hq : q < m) {gp gq : Nat} (hgp : σ.1 326 p = nI gp) (hgp8 : gp ≤ 8) (hgq : σ.1 326 q = nI gq) (hgq8 : gq ≤ 8) : Cn E mX5_matches (rk 1 0 0) h [.ref (aP E p), .ref (aP E q)] (fun v h' => ((mtC σ p q gp gq) ∧ v = some (.int 1) ∨ ¬ (mtC σ p q gp gq) ∧ v = some (.int 0)) ∧ h' = h) := by
  refine Cn_of (by decide) rfl (by simp [Value.category]) (Nat.le_of_ble_eq_true rfl) ?_
  refine G_iconst 1 rfl (0) (by decide) dX5_matches_0 ?_
  refine G_istore_n 2 rfl (by decide) dX5_matches_1 ?_
  exact lpo_X5_matches hR hp hq hgp hgp8 hgq hgq8 gp 0 (by omega) (fun i j z => by omega)

set_option maxHeartbeats 4000000 in
set_option maxRecDepth 100000 in
theorem c_X7_sleepUnmet {E : Ev} {m : Nat} {σ : Sg} {τ : Tu} {h : Hp} (hR : RR E m σ τ h) {p : Nat} (hp : p < m) {q : Nat} (hq : q < m) {gp gq : Nat} (hgp : σ.1 326 p = nI gp) (hgp8 : gp ≤ 8) (hgq : σ.1 326 q = nI gq) (hgq8 : gq ≤ 8) : Cn E mX7_sleepUnmet (rk 2 0 0) h [.ref (aP E p), .ref (aP E q)] (fun v h' => ((σ.1 325 p = 10 ∧ σ.1 325 q = 10 ∧ σ.1 384 p = 1 ∧ σ.1 384 q = 1 ∧ mtC σ p q gp gq) ∧ v = some (.int 1) ∨ ¬ (σ.1 325 p = 10 ∧ σ.1 325 q = 10 ∧ σ.1 384 p = 1 ∧ σ.1 384 q = 1 ∧ mtC σ p q gp gq) ∧ v = some (.int 0)) ∧ h' = h) := by
  refine Cn_of (by decide) rfl (by simp [Value.category]) (Nat.le_of_ble_eq_true rfl) ?_
  refine G_aload_n 1 rfl rfl dX7_sleepUnmet_0 ?_
  refine G_gi 4 rfl hR 5 5 p 325 (σ.1 325 p) fl_X7_48 hp rfl rfl rfl rfl dX7_sleepUnmet_1 ?_
  refine G_bipush 6 rfl (10) (by decide) dX7_sleepUnmet_4 ?_
  refine G_icmp_ne 52 9 rfl (by decide) dX7_sleepUnmet_6 (fun c6 => ?_) (fun c6 => ?_)
  · skip
    refine G_iconst 53 rfl (0) (by decide) dX7_sleepUnmet_52 ?_
    refine G_iret (ty := .boolean) rfl (by decide) ?_ dX7_sleepUnmet_53
    exact ⟨Or.inr ⟨by first | exact fun z => c6 z.1 | exact fun z => c15 z.2.1 | exact fun z => c26 z.2.2.1 | exact fun z => c37 z.2.2.2.1 | exact fun z => hs z.2.2.2.2, rfl⟩, rfl⟩
  · skip
    refine G_aload_n 10 rfl rfl dX7_sleepUnmet_9 ?_
    refine G_gi 13 rfl hR 5 5 q 325 (σ.1 325 q) fl_X7_48 hq rfl rfl rfl rfl dX7_sleepUnmet_10 ?_
    refine G_bipush 15 rfl (10) (by decide) dX7_sleepUnmet_13 ?_
    refine G_icmp_ne 52 18 rfl (by decide) dX7_sleepUnmet_15 (fun c15 => ?_) (fun c15 => ?_)
    · skip
      refine G_iconst 53 rfl (0) (by decide) dX7_sleepUnmet_52 ?_
      refine G_iret (ty := .boolean) rfl (by decide) ?_ dX7_sleepUnmet_53
      exact ⟨Or.inr ⟨by first | exact fun z => c6 z.1 | exact fun z => c15 z.2.1 | exact fun z => c26 z.2.2.1 | exact fun z => c37 z.2.2.2.1 | exact fun z => hs z.2.2.2.2, rfl⟩, rfl⟩
    · skip
      refine G_aload_n 19 rfl rfl dX7_sleepUnmet_18 ?_
      refine G_p1 22 rfl hR fl_X7_63 hp dX7_sleepUnmet_19 ?_
      refine G_gi 25 rfl hR 6 0 p 384 (σ.1 384 p) fl_X7_94 hp rfl rfl rfl rfl dX7_sleepUnmet_22 ?_
      refine G_iconst 26 rfl (1) (by decide) dX7_sleepUnmet_25 ?_
      refine G_icmp_ne 52 29 rfl (by decide) dX7_sleepUnmet_26 (fun c26 => ?_) (fun c26 => ?_)
      · skip
        refine G_iconst 53 rfl (0) (by decide) dX7_sleepUnmet_52 ?_
        refine G_iret (ty := .boolean) rfl (by decide) ?_ dX7_sleepUnmet_53
        exact ⟨Or.inr ⟨by first | exact fun z => c6 z.1 | exact fun z => c15 z.2.1 | exact fun z => c26 z.2.2.1 | exact fun z => c37 z.2.2.2.1 | exact fun z => hs z.2.2.2.2, rfl⟩, rfl⟩
      · skip
        refine G_aload_n 30 rfl rfl dX7_sleepUnmet_29 ?_
        refine G_p1 33 rfl hR fl_X7_63 hq dX7_sleepUnmet_30 ?_
        refine G_gi 36 rfl hR 6 0 q 384 (σ.1 384 q) fl_X7_94 hq rfl rfl rfl rfl dX7_sleepUnmet_33 ?_
        refine G_iconst 37 rfl (1) (by decide) dX7_sleepUnmet_36 ?_
        refine G_icmp_ne 52 40 rfl (by decide) dX7_sleepUnmet_37 (fun c37 => ?_) (fun c37 => ?_)
        · skip
          refine G_iconst 53 rfl (0) (by decide) dX7_sleepUnmet_52 ?_
          refine G_iret (ty := .boolean) rfl (by decide) ?_ dX7_sleepUnmet_53
          exact ⟨Or.inr ⟨by first | exact fun z => c6 z.1 | exact fun z => c15 z.2.1 | exact fun z => c26 z.2.2.1 | exact fun z => c37 z.2.2.2.1 | exact fun z => hs z.2.2.2.2, rfl⟩, rfl⟩
        · skip
          refine G_aload_n 41 rfl rfl dX7_sleepUnmet_40 ?_
          refine G_aload_n 42 rfl rfl dX7_sleepUnmet_41 ?_
          refine G_callV 45 rfl [.ref (aP E q)] (c_X5_matches hR hp hq hgp hgp8 hgq hgq8) ok_X5_matches ov_X5_matches ml_X7_163 (hR.ob (ci := 5) (i := p) (by decide) hp) ⟨by decide, rfl⟩ rfl ⟨by decide, by decide⟩ rfl rfl (Nat.le_of_ble_eq_true rfl) rfl dX7_sleepUnmet_42 ?_
          rintro v h' ⟨⟨hs, rfl⟩ | ⟨hs, rfl⟩, rfl⟩
          · skip
            refine G_ifF_eq 48 rfl (by decide) ⟨52, by decide⟩ dX7_sleepUnmet_45 ?_
            refine G_iconst 49 rfl (1) (by decide) dX7_sleepUnmet_48 ?_
            refine G_goto 53 (by decide) dX7_sleepUnmet_49 ?_
            refine G_iret (ty := .boolean) rfl (by decide) ?_ dX7_sleepUnmet_53
            exact ⟨Or.inl ⟨⟨c6, c15, c26, c37, hs⟩, rfl⟩, rfl⟩
          · skip
            refine G_ifT_eq 52 (by decide) (by decide) dX7_sleepUnmet_45 ?_
            refine G_iconst 53 rfl (0) (by decide) dX7_sleepUnmet_52 ?_
            refine G_iret (ty := .boolean) rfl (by decide) ?_ dX7_sleepUnmet_53
            exact ⟨Or.inr ⟨by first | exact fun z => c6 z.1 | exact fun z => c15 z.2.1 | exact fun z => c26 z.2.2.1 | exact fun z => c37 z.2.2.2.1 | exact fun z => hs z.2.2.2.2, rfl⟩, rfl⟩

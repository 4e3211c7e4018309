/-- the l-th place from a on, of n, with P -/
def mEf (P : Nat → Bool) : Nat → Nat → Nat → Option Nat
  | 0, _, _ => none
  | n + 1, a, 0 => if P a then some a else mEf P n (a + 1) 0
  | n + 1, a, l + 1 => if P a then mEf P n (a + 1) l else mEf P n (a + 1) (l + 1)
theorem mEf_s0 (P : Nat → Bool) (n a : Nat) : mEf P (n + 1) a 0 = if P a then some a else mEf P n (a + 1) 0 := rfl
theorem mEf_ss (P : Nat → Bool) (n a l : Nat) : mEf P (n + 1) a (l + 1) = if P a then mEf P n (a + 1) l else mEf P n (a + 1) (l + 1) := rfl
theorem mEf_no {P : Nat → Bool} {n a : Nat} (h : ¬ P a = true) (l : Nat) : mEf P (n + 1) a l = mEf P n (a + 1) l := by
  rcases l with _ | l
  · rw [mEf_s0, if_neg h]
  · rw [mEf_ss, if_neg h]
def mEr (τ : Tu) (k : Int32) (e : Nat) : Int32 := if k = 0 then τ 32 e else if k = 1 then τ 34 e else if k = 2 then τ 35 e else if k = 3 then τ 36 e else if k = 4 then τ 33 e else -1
def mEo (τ : Tu) (k : Int32) : Option Nat → Int32
  | none => -1
  | some e => mEr τ k e
def anyB (f : Nat → Bool) : Nat → Nat → Bool
  | 0, _ => false
  | n + 1, a => f a || anyB f n (a + 1)
theorem anyB_succ (f : Nat → Bool) (n a : Nat) : anyB f (n + 1) a = (f a || anyB f n (a + 1)) := rfl
def bI : Bool → Int32
  | true => 1
  | false => 0
theorem bI_nar (b : Bool) : narrow .boolean (.int (bI b)) = .int (bI b) := by cases b <;> rfl
def mmB (τ : Tu) (p q i j : Nat) : Bool := ((!decide (τ 12 (8 * p + i) = 0) && !decide (τ 12 (8 * q + j) = 0)) && decide (τ 10 (8 * p + i) = τ 10 (8 * q + j))) && !decide (τ 9 (8 * p + i) = τ 9 (8 * q + j))
def mmC (τ : Tu) (p q gp gq : Nat) : Bool := anyB (fun i => anyB (mmB τ p q i) gq 0) gp 0
def muB (τ : Tu) (p q : Nat) : Bool := (decide (τ 7 p = 10 ∧ τ 15 p = 1) && decide (τ 7 q = 10 ∧ τ 15 q = 1)) && mmC τ p q (cN (τ 8 p)) (cN (τ 8 q))
def muO (τ : Tu) (m : Nat) : Nat → Nat → Int32 → Int32
  | 0, _, s => s
  | r + 1, a, s => muO τ m r (a + 1) (ctA (muB τ a) (m - (a + 1)) (a + 1) s)
theorem muO_succ (τ : Tu) (m r a : Nat) (s : Int32) : muO τ m (r + 1) a s = muO τ m r (a + 1) (ctA (muB τ a) (m - (a + 1)) (a + 1) s) := rfl
def mrn1 (τ : Tu) (p : Nat) : Tu := if ¬ τ 7 p < 2 ∧ ¬ 11 < τ 7 p then mTrn τ p else τ
def rnH (f : Tu → Nat → Tu) (nx : Int32 → Int32) (pk : Int32 → Nat) : Nat → Tu → Int32 → Tu
  | 0, τ, _ => τ
  | n + 1, τ, s => rnH f nx pk n (f τ (pk (nx s))) (nx s)
theorem rnH_succ (f : Tu → Nat → Tu) (nx : Int32 → Int32) (pk : Int32 → Nat) (n : Nat) (τ : Tu) (s : Int32) : rnH f nx pk (n + 1) τ s = rnH f nx pk n (f τ (pk (nx s))) (nx s) := rfl
def rnT (m : Nat) : Nat → Tu → Int32 → Tu := rnH mrn1 lcg (pik m)
theorem rnT_0 (m : Nat) (τ : Tu) (s : Int32) : rnT m 0 τ s = τ := rfl
theorem rnT_succ (m n : Nat) (τ : Tu) (s : Int32) : rnT m (n + 1) τ s = rnT m n (mrn1 τ (pik m (lcg s))) (lcg s) := rnH_succ mrn1 lcg (pik m) n τ s
set_option maxHeartbeats 4000000 in
set_option maxRecDepth 100000 in
theorem lp_X8_entry {E : Ev} {m : Nat} {σ : Sg} {τ : Tu} {h : Hp} (hR : RR E m σ τ h) {en : Nat} (he : τ 31 0 = nI en) (heb : en ≤ 129) {ch i k : Int32} {r : Option Nat} : ∀ (n a l : Nat), a + n = en → l < 2 ^ 31 → mEf (fun e => decide (τ 37 e = ch)) n a l = r → G E mX8_entry (rk 0 0 0) (fun v h' => v = some (.int (mEo τ k r)) ∧ h' = h) 12 [some (.ref (aM E m)), some (.int ch), some (.int i), some (.int k), some (.int (nI l)), some (.int (nI a))] [] h 0 0 := by
  intro n
  induction n with
  | zero =>
    intro a l ha hl hr
    subst hr
    refine G_iload 14 rfl rfl dX8_entry_12 ?_
    refine G_aload_n 15 rfl rfl dX8_entry_14 ?_
    refine G_mi 18 rfl hR (v := nI en) he fl_X8_136 (by decide) rfl dX8_entry_15 ?_
    refine G_icmpT_ge 57 (nI_le (by omega) (by omega)) (by decide) dX8_entry_18 ?_
    refine G_iload 59 rfl rfl dX8_entry_57 ?_
    refine G_aload_n 60 rfl rfl dX8_entry_59 ?_
    refine G_mi 63 rfl hR (v := nI en) he fl_X8_136 (by decide) rfl dX8_entry_60 ?_
    refine G_icmpF_ne 66 rfl (by rw [show a = en by omega]) ⟨68, by decide⟩ dX8_entry_63 ?_
    refine G_iconst 67 rfl (-1) (by decide) dX8_entry_66 ?_
    refine G_iret (ty := .int) rfl rfl ?_ dX8_entry_67
    exact ⟨rfl, rfl⟩
  | succ n ih =>
    intro a l ha hl hr
    refine G_iload 14 rfl rfl dX8_entry_12 ?_
    refine G_aload_n 15 rfl rfl dX8_entry_14 ?_
    refine G_mi 18 rfl hR (v := nI en) he fl_X8_136 (by decide) rfl dX8_entry_15 ?_
    refine G_icmpF_ge 21 rfl (nI_ge (by omega) (by omega)) ⟨57, by decide⟩ dX8_entry_18 ?_
    refine G_aload_n 22 rfl rfl dX8_entry_21 ?_
    refine G_mR 25 rfl hR fl_X8_98 ia_37 rfl dX8_entry_22 ?_
    refine G_iload 27 rfl rfl dX8_entry_25 ?_
    refine G_mldV 28 rfl hR (k := 37) a (v := τ 37 a) rfl rfl ia_37 rfl (show a < 130 by omega) dX8_entry_27 ?_
    refine G_iload_n 29 rfl rfl dX8_entry_28 ?_
    refine G_icmp_ne 37 32 rfl (by decide) dX8_entry_29 (fun c29 => ?_) (fun c29 => ?_)
    · skip
      refine G_aload_n 38 rfl rfl dX8_entry_37 ?_
      refine G_mR 41 rfl hR fl_X8_98 ia_37 rfl dX8_entry_38 ?_
      refine G_iload 43 rfl rfl dX8_entry_41 ?_
      refine G_mldV 44 rfl hR (k := 37) a (v := τ 37 a) rfl rfl ia_37 rfl (show a < 130 by omega) dX8_entry_43 ?_
      refine G_iload_n 45 rfl rfl dX8_entry_44 ?_
      refine G_icmpT_ne 51 c29 (by decide) dX8_entry_45 ?_
      refine G_iinc 54 rfl (nI (a + 1)) rfl (inc1 a) (by decide) dX8_entry_51 ?_
      refine G_goto 12 (by decide) dX8_entry_54 ?_
      exact ih (a + 1) l (by omega) (by omega) (by rw [← hr]; first | (rw [mEf_ss, if_pos (by simp [*])]) | (rw [mEf_no (by simp [*])]))
    · skip
      rcases l with _ | l
      · skip
        refine G_iload 34 rfl rfl dX8_entry_32 ?_
        refine G_ifT_le 57 (by decide) (by decide) dX8_entry_34 ?_
        refine G_iload 59 rfl rfl dX8_entry_57 ?_
        refine G_aload_n 60 rfl rfl dX8_entry_59 ?_
        refine G_mi 63 rfl hR (v := nI en) he fl_X8_136 (by decide) rfl dX8_entry_60 ?_
        refine G_icmpT_ne 68 (fun z => absurd ((nI_eq (by omega) (by omega)).mp z) (by omega)) (by decide) dX8_entry_63 ?_
        refine G_iload_n 69 rfl rfl dX8_entry_68 ?_
        by_cases k69_0 : k = 0
        · refine G_tableIn 104 dX8_entry_69 (by rw [k69_0]; decide) (by rw [k69_0]; decide) (off := 35) (by rw [k69_0]; rfl) (by decide) ?_
          refine G_aload_n 105 rfl rfl dX8_entry_104 ?_
          refine G_mR 108 rfl hR fl_X8_83 ia_32 rfl dX8_entry_105 ?_
          refine G_iload 110 rfl rfl dX8_entry_108 ?_
          refine G_mldV 111 rfl hR (k := 32) a (v := τ 32 a) rfl rfl ia_32 rfl (show a < 130 by omega) dX8_entry_110 ?_
          refine G_iret (ty := .int) rfl rfl ?_ dX8_entry_111
          exact ⟨by rw [← hr, mEf_s0, if_pos (by simp [*])]; show _ = some (Value.int (mEr τ k a)); unfold mEr; simp [*], rfl⟩
        · skip
          by_cases k69_1 : k = 1
          · refine G_tableIn 112 dX8_entry_69 (by rw [k69_1]; decide) (by rw [k69_1]; decide) (off := 43) (by rw [k69_1]; rfl) (by decide) ?_
            refine G_aload_n 113 rfl rfl dX8_entry_112 ?_
            refine G_mR 116 rfl hR fl_X8_89 ia_34 rfl dX8_entry_113 ?_
            refine G_iload 118 rfl rfl dX8_entry_116 ?_
            refine G_mldV 119 rfl hR (k := 34) a (v := τ 34 a) rfl rfl ia_34 rfl (show a < 130 by omega) dX8_entry_118 ?_
            refine G_iret (ty := .int) rfl rfl ?_ dX8_entry_119
            exact ⟨by rw [← hr, mEf_s0, if_pos (by simp [*])]; show _ = some (Value.int (mEr τ k a)); unfold mEr; simp [*], rfl⟩
          · skip
            by_cases k69_2 : k = 2
            · refine G_tableIn 120 dX8_entry_69 (by rw [k69_2]; decide) (by rw [k69_2]; decide) (off := 51) (by rw [k69_2]; rfl) (by decide) ?_
              refine G_aload_n 121 rfl rfl dX8_entry_120 ?_
              refine G_mR 124 rfl hR fl_X8_92 ia_35 rfl dX8_entry_121 ?_
              refine G_iload 126 rfl rfl dX8_entry_124 ?_
              refine G_mldV 127 rfl hR (k := 35) a (v := τ 35 a) rfl rfl ia_35 rfl (show a < 130 by omega) dX8_entry_126 ?_
              refine G_iret (ty := .int) rfl rfl ?_ dX8_entry_127
              exact ⟨by rw [← hr, mEf_s0, if_pos (by simp [*])]; show _ = some (Value.int (mEr τ k a)); unfold mEr; simp [*], rfl⟩
            · skip
              by_cases k69_3 : k = 3
              · refine G_tableIn 128 dX8_entry_69 (by rw [k69_3]; decide) (by rw [k69_3]; decide) (off := 59) (by rw [k69_3]; rfl) (by decide) ?_
                refine G_aload_n 129 rfl rfl dX8_entry_128 ?_
                refine G_mR 132 rfl hR fl_X8_95 ia_36 rfl dX8_entry_129 ?_
                refine G_iload 134 rfl rfl dX8_entry_132 ?_
                refine G_mldV 135 rfl hR (k := 36) a (v := τ 36 a) rfl rfl ia_36 rfl (show a < 130 by omega) dX8_entry_134 ?_
                refine G_iret (ty := .int) rfl rfl ?_ dX8_entry_135
                exact ⟨by rw [← hr, mEf_s0, if_pos (by simp [*])]; show _ = some (Value.int (mEr τ k a)); unfold mEr; simp [*], rfl⟩
              · skip
                by_cases k69_4 : k = 4
                · refine G_tableIn 136 dX8_entry_69 (by rw [k69_4]; decide) (by rw [k69_4]; decide) (off := 67) (by rw [k69_4]; rfl) (by decide) ?_
                  refine G_aload_n 137 rfl rfl dX8_entry_136 ?_
                  refine G_mR 140 rfl hR fl_X8_86 ia_33 rfl dX8_entry_137 ?_
                  refine G_iload 142 rfl rfl dX8_entry_140 ?_
                  refine G_mldV 143 rfl hR (k := 33) a (v := τ 33 a) rfl rfl ia_33 rfl (show a < 130 by omega) dX8_entry_142 ?_
                  refine G_iret (ty := .int) rfl rfl ?_ dX8_entry_143
                  exact ⟨by rw [← hr, mEf_s0, if_pos (by simp [*])]; show _ = some (Value.int (mEr τ k a)); unfold mEr; simp [*], rfl⟩
                · skip
                  refine G_tableOut 144 dX8_entry_69 (tb_out (n := 4) (by decide) (fun j hj => by rcases j with _ | _ | _ | _ | _ | j; exact k69_0; exact k69_1; exact k69_2; exact k69_3; exact k69_4; omega)) (by decide) ?_
                  refine G_iconst 145 rfl (-1) (by decide) dX8_entry_144 ?_
                  refine G_iret (ty := .int) rfl rfl ?_ dX8_entry_145
                  exact ⟨by rw [← hr, mEf_s0, if_pos (by simp [*])]; show _ = some (Value.int (mEr τ k a)); unfold mEr; simp [*], rfl⟩
      · skip
        refine G_iload 34 rfl rfl dX8_entry_32 ?_
        refine G_ifF_le 37 rfl (nI_ge (a := 0) (by omega) hl) ⟨57, by decide⟩ dX8_entry_34 ?_
        refine G_aload_n 38 rfl rfl dX8_entry_37 ?_
        refine G_mR 41 rfl hR fl_X8_98 ia_37 rfl dX8_entry_38 ?_
        refine G_iload 43 rfl rfl dX8_entry_41 ?_
        refine G_mldV 44 rfl hR (k := 37) a (v := τ 37 a) rfl rfl ia_37 rfl (show a < 130 by omega) dX8_entry_43 ?_
        refine G_iload_n 45 rfl rfl dX8_entry_44 ?_
        refine G_icmpF_ne 48 rfl c29 ⟨51, by decide⟩ dX8_entry_45 ?_
        refine G_iinc 51 rfl (nI l) rfl (dec1 l) (by decide) dX8_entry_48 ?_
        refine G_iinc 54 rfl (nI (a + 1)) rfl (inc1 a) (by decide) dX8_entry_51 ?_
        refine G_goto 12 (by decide) dX8_entry_54 ?_
        exact ih (a + 1) l (by omega) (by omega) (by rw [← hr]; first | (rw [mEf_ss, if_pos (by simp [*])]) | (rw [mEf_no (by simp [*])]))

set_option maxHeartbeats 4000000 in
set_option maxRecDepth 100000 in
theorem m_entry {E : Ev} {m : Nat} {σ : Sg} {τ : Tu} {h : Hp} (hR : RR E m σ τ h) (ch i k : Int32) {en : Nat} (he : τ 31 0 = nI en) (heb : en ≤ 129) : Cn E mX8_entry (rk 0 0 0) h [.ref (aM E m), .int ch, .int i, .int k] (fun v h' => ((i < 0 ∧ v = some (.int (-1))) ∨ ∃ l, l < 2 ^ 31 ∧ i = nI l ∧ v = some (.int (mEo τ k (mEf (fun e => decide (τ 37 e = ch)) en 0 l)))) ∧ h' = h) := by
  refine Cn_of (by decide) rfl (by simp [Value.category]) (Nat.le_of_ble_eq_true rfl) ?_
  have hm := hR.1.1
  refine G_iload_n 1 rfl rfl dX8_entry_0 ?_
  refine G_if_ge 6 4 rfl (by decide) dX8_entry_1 (fun c1 => ?_) (fun c1 => ?_)
  · skip
    refine G_iload_n 7 rfl rfl dX8_entry_6 ?_
    refine G_istore 9 rfl (by decide) dX8_entry_7 ?_
    refine G_iconst 10 rfl (0) (by decide) dX8_entry_9 ?_
    refine G_istore 12 rfl (by decide) dX8_entry_10 ?_
    obtain ⟨l, hl, rfl⟩ := nI_of (Int32.not_lt.mpr c1)
    exact G_post (fun v h' q => ⟨Or.inr ⟨l, hl, rfl, q.1⟩, q.2⟩) (lp_X8_entry hR he heb en 0 l (by omega) hl rfl)
  · skip
    refine G_iconst 5 rfl (-1) (by decide) dX8_entry_4 ?_
    refine G_iret (ty := .int) rfl rfl ?_ dX8_entry_5
    exact ⟨Or.inl ⟨Int32.not_le.mp c1, rfl⟩, rfl⟩

set_option maxHeartbeats 4000000 in
set_option maxRecDepth 100000 in
theorem lpi_X8_match {E : Ev} {m : Nat} {σ : Sg} {τ : Tu} {h : Hp} (hR : RR E m σ τ h) {p q : Nat} (hp : p < m) (hq : q < m) {gp gq : Nat} (hgp : τ 8 p = nI gp) (hgp8 : gp ≤ 8) (hgq : τ 8 q = nI gq) (hgq8 : gq ≤ 8) {i : Nat} (hi : i < gp) : ∀ (n j : Nat) (b : Bool), j + n = gq → G E mX8_match (rk 0 0 0) (fun v h' => v = some (.int (bI (mmC τ p q gp gq))) ∧ h' = h) 116 [some (.ref (aM E m)), some (.int (nI p)), some (.int (nI q)), some (.int (bI (b || anyB (mmB τ p q i) n j))), some (.int (nI (8 * p + i))), none] [] h 0 0 → G E mX8_match (rk 0 0 0) (fun v h' => v = some (.int (bI (mmC τ p q gp gq))) ∧ h' = h) 30 [some (.ref (aM E m)), some (.int (nI p)), some (.int (nI q)), some (.int (bI b)), some (.int (nI (8 * p + i))), some (.int (nI (8 * q + j)))] [] h 0 0 := by
  intro n
  induction n with
  | zero =>
    intro j b hj hk
    have hm := hR.1.1
    rw [show (b || anyB (mmB τ p q i) 0 j) = b by cases b <;> rfl] at hk
    refine G_iload 32 rfl rfl dX8_match_30 ?_
    refine G_bipush 34 rfl (8) (by decide) dX8_match_32 ?_
    refine G_iload_n 35 rfl rfl dX8_match_34 ?_
    refine G_imul 36 rfl dX8_match_35 ?_
    refine G_aload_n 37 rfl rfl dX8_match_36 ?_
    refine G_mR 40 rfl hR fl_X8_13 ia_8 rfl dX8_match_37 ?_
    refine G_iload_n 41 rfl rfl dX8_match_40 ?_
    refine G_mldV 42 rfl hR (k := 8) q (v := nI gq) hgq rfl ia_8 rfl (show q < 16 by omega) dX8_match_41 ?_
    refine G_iadd 43 rfl dX8_match_42 ?_
    rw [e88]
    refine G_icmpT_ge 116 (nI_le (by omega) (by omega)) (by decide) dX8_match_43 ?_
    refine G_lw [some (.ref (aM E m)), some (.int (nI p)), some (.int (nI q)), some (.int (bI b)), some (.int (nI (8 * p + i))), none] (by intro x y hx; rcases x with _ | _ | _ | _ | _ | _ | x <;> first | exact hx | cases hx) ?_
    exact hk
  | succ n ih =>
    intro j b hj hk
    have hm := hR.1.1
    refine G_iload 32 rfl rfl dX8_match_30 ?_
    refine G_bipush 34 rfl (8) (by decide) dX8_match_32 ?_
    refine G_iload_n 35 rfl rfl dX8_match_34 ?_
    refine G_imul 36 rfl dX8_match_35 ?_
    refine G_aload_n 37 rfl rfl dX8_match_36 ?_
    refine G_mR 40 rfl hR fl_X8_13 ia_8 rfl dX8_match_37 ?_
    refine G_iload_n 41 rfl rfl dX8_match_40 ?_
    refine G_mldV 42 rfl hR (k := 8) q (v := nI gq) hgq rfl ia_8 rfl (show q < 16 by omega) dX8_match_41 ?_
    refine G_iadd 43 rfl dX8_match_42 ?_
    rw [e88]
    refine G_icmpF_ge 46 rfl (nI_ge (by omega) (by omega)) ⟨116, by decide⟩ dX8_match_43 ?_
    rcases b with _ | _
    · skip
      refine G_iload_n 47 rfl rfl dX8_match_46 ?_
      refine G_ifF_ne 50 rfl (by decide) ⟨104, by decide⟩ dX8_match_47 ?_
      refine G_aload_n 51 rfl rfl dX8_match_50 ?_
      refine G_mR 54 rfl hR fl_X8_25 ia_12 rfl dX8_match_51 ?_
      refine G_iload 56 rfl rfl dX8_match_54 ?_
      refine G_mldZV 57 rfl hR (k := 12) (8 * p + i) (v := τ 12 (8 * p + i)) rfl rfl ia_12 rfl (show 8 * p + i < 128 by omega) dX8_match_56 ?_
      refine G_if_eq 108 60 rfl (by decide) dX8_match_57 (fun c57 => ?_) (fun c57 => ?_)
      · skip
        refine G_iconst 109 rfl (0) (by decide) dX8_match_108 ?_
        refine G_istore_n 110 rfl (by decide) dX8_match_109 ?_
        refine G_iinc 113 rfl (nI (8 * q + (j + 1))) rfl (inc1 (8 * q + j)) (by decide) dX8_match_110 ?_
        refine G_goto 30 (by decide) dX8_match_113 ?_
        exact ih (j + 1) false (by omega) (by rw [anyB_succ, show mmB τ p q i j = false by simp [mmB, *]] at hk; exact hk)
      · skip
        refine G_aload_n 61 rfl rfl dX8_match_60 ?_
        refine G_mR 64 rfl hR fl_X8_25 ia_12 rfl dX8_match_61 ?_
        refine G_iload 66 rfl rfl dX8_match_64 ?_
        refine G_mldZV 67 rfl hR (k := 12) (8 * q + j) (v := τ 12 (8 * q + j)) rfl rfl ia_12 rfl (show 8 * q + j < 128 by omega) dX8_match_66 ?_
        refine G_if_eq 108 70 rfl (by decide) dX8_match_67 (fun c67 => ?_) (fun c67 => ?_)
        · skip
          refine G_iconst 109 rfl (0) (by decide) dX8_match_108 ?_
          refine G_istore_n 110 rfl (by decide) dX8_match_109 ?_
          refine G_iinc 113 rfl (nI (8 * q + (j + 1))) rfl (inc1 (8 * q + j)) (by decide) dX8_match_110 ?_
          refine G_goto 30 (by decide) dX8_match_113 ?_
          exact ih (j + 1) false (by omega) (by rw [anyB_succ, show mmB τ p q i j = false by simp [mmB, *]] at hk; exact hk)
        · skip
          refine G_aload_n 71 rfl rfl dX8_match_70 ?_
          refine G_mR 74 rfl hR fl_X8_19 ia_10 rfl dX8_match_71 ?_
          refine G_iload 76 rfl rfl dX8_match_74 ?_
          refine G_mldV 77 rfl hR (k := 10) (8 * p + i) (v := τ 10 (8 * p + i)) rfl rfl ia_10 rfl (show 8 * p + i < 128 by omega) dX8_match_76 ?_
          refine G_aload_n 78 rfl rfl dX8_match_77 ?_
          refine G_mR 81 rfl hR fl_X8_19 ia_10 rfl dX8_match_78 ?_
          refine G_iload 83 rfl rfl dX8_match_81 ?_
          refine G_mldV 84 rfl hR (k := 10) (8 * q + j) (v := τ 10 (8 * q + j)) rfl rfl ia_10 rfl (show 8 * q + j < 128 by omega) dX8_match_83 ?_
          refine G_icmp_ne 108 87 rfl (by decide) dX8_match_84 (fun c84 => ?_) (fun c84 => ?_)
          · skip
            refine G_iconst 109 rfl (0) (by decide) dX8_match_108 ?_
            refine G_istore_n 110 rfl (by decide) dX8_match_109 ?_
            refine G_iinc 113 rfl (nI (8 * q + (j + 1))) rfl (inc1 (8 * q + j)) (by decide) dX8_match_110 ?_
            refine G_goto 30 (by decide) dX8_match_113 ?_
            exact ih (j + 1) false (by omega) (by rw [anyB_succ, show mmB τ p q i j = false by simp [mmB, *]] at hk; exact hk)
          · skip
            refine G_aload_n 88 rfl rfl dX8_match_87 ?_
            refine G_mR 91 rfl hR fl_X8_16 ia_9 rfl dX8_match_88 ?_
            refine G_iload 93 rfl rfl dX8_match_91 ?_
            refine G_mldV 94 rfl hR (k := 9) (8 * p + i) (v := τ 9 (8 * p + i)) rfl rfl ia_9 rfl (show 8 * p + i < 128 by omega) dX8_match_93 ?_
            refine G_aload_n 95 rfl rfl dX8_match_94 ?_
            refine G_mR 98 rfl hR fl_X8_16 ia_9 rfl dX8_match_95 ?_
            refine G_iload 100 rfl rfl dX8_match_98 ?_
            refine G_mldV 101 rfl hR (k := 9) (8 * q + j) (v := τ 9 (8 * q + j)) rfl rfl ia_9 rfl (show 8 * q + j < 128 by omega) dX8_match_100 ?_
            refine G_icmp_eq 108 104 rfl (by decide) dX8_match_101 (fun c101 => ?_) (fun c101 => ?_)
            · skip
              refine G_iconst 109 rfl (0) (by decide) dX8_match_108 ?_
              refine G_istore_n 110 rfl (by decide) dX8_match_109 ?_
              refine G_iinc 113 rfl (nI (8 * q + (j + 1))) rfl (inc1 (8 * q + j)) (by decide) dX8_match_110 ?_
              refine G_goto 30 (by decide) dX8_match_113 ?_
              exact ih (j + 1) false (by omega) (by rw [anyB_succ, show mmB τ p q i j = false by simp [mmB, *]] at hk; exact hk)
            · skip
              refine G_iconst 105 rfl (1) (by decide) dX8_match_104 ?_
              refine G_goto 109 (by decide) dX8_match_105 ?_
              refine G_istore_n 110 rfl (by decide) dX8_match_109 ?_
              refine G_iinc 113 rfl (nI (8 * q + (j + 1))) rfl (inc1 (8 * q + j)) (by decide) dX8_match_110 ?_
              refine G_goto 30 (by decide) dX8_match_113 ?_
              first
              | exact ih (j + 1) true (by omega) hk
              | exact ih (j + 1) true (by omega) (by rw [anyB_succ, show mmB τ p q i j = true by simp [mmB, *]] at hk; exact hk)
    · skip
      refine G_iload_n 47 rfl rfl dX8_match_46 ?_
      refine G_ifT_ne 104 (by decide) (by decide) dX8_match_47 ?_
      refine G_iconst 105 rfl (1) (by decide) dX8_match_104 ?_
      refine G_goto 109 (by decide) dX8_match_105 ?_
      refine G_istore_n 110 rfl (by decide) dX8_match_109 ?_
      refine G_iinc 113 rfl (nI (8 * q + (j + 1))) rfl (inc1 (8 * q + j)) (by decide) dX8_match_110 ?_
      refine G_goto 30 (by decide) dX8_match_113 ?_
      first
      | exact ih (j + 1) true (by omega) hk
      | exact ih (j + 1) true (by omega) (by rw [anyB_succ, show mmB τ p q i j = true by simp [mmB, *]] at hk; exact hk)
set_option maxHeartbeats 4000000 in
set_option maxRecDepth 100000 in
theorem lpo_X8_match {E : Ev} {m : Nat} {σ : Sg} {τ : Tu} {h : Hp} (hR : RR E m σ τ h) {p q : Nat} (hp : p < m) (hq : q < m) {gp gq : Nat} (hgp : τ 8 p = nI gp) (hgp8 : gp ≤ 8) (hgq : τ 8 q = nI gq) (hgq8 : gq ≤ 8) : ∀ (n i : Nat) (b : Bool), i + n = gp → (b || anyB (fun i => anyB (mmB τ p q i) gq 0) n i) = mmC τ p q gp gq → G E mX8_match (rk 0 0 0) (fun v h' => v = some (.int (bI (mmC τ p q gp gq))) ∧ h' = h) 8 [some (.ref (aM E m)), some (.int (nI p)), some (.int (nI q)), some (.int (bI b)), some (.int (nI (8 * p + i))), none] [] h 0 0 := by
  intro n
  induction n with
  | zero =>
    intro i b hi hv
    have hm := hR.1.1
    rw [show (b || anyB (fun i => anyB (mmB τ p q i) gq 0) 0 i) = b by cases b <;> rfl] at hv
    have hb01 := bI_nar b
    refine G_iload 10 rfl rfl dX8_match_8 ?_
    refine G_bipush 12 rfl (8) (by decide) dX8_match_10 ?_
    refine G_iload_n 13 rfl rfl dX8_match_12 ?_
    refine G_imul 14 rfl dX8_match_13 ?_
    refine G_aload_n 15 rfl rfl dX8_match_14 ?_
    refine G_mR 18 rfl hR fl_X8_13 ia_8 rfl dX8_match_15 ?_
    refine G_iload_n 19 rfl rfl dX8_match_18 ?_
    refine G_mldV 20 rfl hR (k := 8) p (v := nI gp) hgp rfl ia_8 rfl (show p < 16 by omega) dX8_match_19 ?_
    refine G_iadd 21 rfl dX8_match_20 ?_
    rw [e88]
    refine G_icmpT_ge 122 (nI_le (by omega) (by omega)) (by decide) dX8_match_21 ?_
    refine G_iload_n 123 rfl rfl dX8_match_122 ?_
    refine G_iret (ty := .boolean) rfl (by assumption) ?_ dX8_match_123
    exact ⟨by rw [hv], rfl⟩
  | succ n ih =>
    intro i b hi hv
    have hm := hR.1.1
    refine G_iload 10 rfl rfl dX8_match_8 ?_
    refine G_bipush 12 rfl (8) (by decide) dX8_match_10 ?_
    refine G_iload_n 13 rfl rfl dX8_match_12 ?_
    refine G_imul 14 rfl dX8_match_13 ?_
    refine G_aload_n 15 rfl rfl dX8_match_14 ?_
    refine G_mR 18 rfl hR fl_X8_13 ia_8 rfl dX8_match_15 ?_
    refine G_iload_n 19 rfl rfl dX8_match_18 ?_
    refine G_mldV 20 rfl hR (k := 8) p (v := nI gp) hgp rfl ia_8 rfl (show p < 16 by omega) dX8_match_19 ?_
    refine G_iadd 21 rfl dX8_match_20 ?_
    rw [e88]
    refine G_icmpF_ge 24 rfl (nI_ge (by omega) (by omega)) ⟨122, by decide⟩ dX8_match_21 ?_
    refine G_bipush 26 rfl (8) (by decide) dX8_match_24 ?_
    refine G_iload_n 27 rfl rfl dX8_match_26 ?_
    refine G_imul 28 rfl dX8_match_27 ?_
    rw [e8m]
    refine G_istore 30 rfl (by decide) dX8_match_28 ?_
    refine lpi_X8_match hR hp hq hgp hgp8 hgq hgq8 (i := i) (by omega) gq 0 b (by omega) ?_
    refine G_iinc 119 rfl (nI (8 * p + (i + 1))) rfl (inc1 (8 * p + i)) (by decide) dX8_match_116 ?_
    refine G_goto 8 (by decide) dX8_match_119 ?_
    exact ih (i + 1) _ (by omega) (by rw [← hv, anyB_succ, Bool.or_assoc])

set_option maxHeartbeats 4000000 in
set_option maxRecDepth 100000 in
theorem m_match {E : Ev} {m : Nat} {σ : Sg} {τ : Tu} {h : Hp} (hR : RR E m σ τ h) {p q : Nat} (hp : p < m) (hq : q < m) {gp gq : Nat} (hgp : τ 8 p = nI gp) (hgp8 : gp ≤ 8) (hgq : τ 8 q = nI gq) (hgq8 : gq ≤ 8) : Cn E mX8_match (rk 0 0 0) h [.ref (aM E m), .int (nI p), .int (nI q)] (fun v h' => v = some (.int (bI (mmC τ p q gp gq))) ∧ h' = h) := by
  refine Cn_of (by decide) rfl (by simp [Value.category]) (Nat.le_of_ble_eq_true rfl) ?_
  have hm := hR.1.1
  refine G_iconst 1 rfl (0) (by decide) dX8_match_0 ?_
  refine G_istore_n 2 rfl (by decide) dX8_match_1 ?_
  refine G_bipush 4 rfl (8) (by decide) dX8_match_2 ?_
  refine G_iload_n 5 rfl rfl dX8_match_4 ?_
  refine G_imul 6 rfl dX8_match_5 ?_
  rw [e8m]
  refine G_istore 8 rfl (by decide) dX8_match_6 ?_
  exact lpo_X8_match hR hp hq hgp hgp8 hgq hgq8 gp 0 false (by omega) rfl

set_option maxHeartbeats 4000000 in
set_option maxRecDepth 100000 in
theorem lpi_X8_unmet {E : Ev} {m : Nat} {σ : Sg} {τ : Tu} {h : Hp} (hR : RR E m σ τ h)  (hmy : τ 0 0 = nI m) (hgc : ∀ p, p < m → ∃ g, τ 8 p = nI g ∧ g ≤ 8) {a : Nat} (ha : a < m) : ∀ (r b : Nat) (s : Int32), b + r = m → G E mX8_unmet (rk 1 0 0) (fun v h' => v = some (.int (muO τ m m 0 0)) ∧ h' = h) 63 [some (.ref (aM E m)), some (.int (ctA (muB τ a) r b s)), some (.int (nI a)), none] [] h 0 0 → G E mX8_unmet (rk 1 0 0) (fun v h' => v = some (.int (muO τ m m 0 0)) ∧ h' = h) 16 [some (.ref (aM E m)), some (.int (s)), some (.int (nI a)), some (.int (nI b))] [] h 0 0 := by
  intro r
  induction r with
  | zero =>
    intro b s hb hk
    have hm := hR.1.1
    refine G_iload_n 17 rfl rfl dX8_unmet_16 ?_
    refine G_aload_n 18 rfl rfl dX8_unmet_17 ?_
    refine G_mi 21 rfl hR (v := nI m) hmy fl_X8_110 (by decide) rfl dX8_unmet_18 ?_
    refine G_icmpT_ge 63 (nI_le (by omega) (by omega)) (by decide) dX8_unmet_21 ?_
    refine G_lw [some (.ref (aM E m)), some (.int (s)), some (.int (nI a)), none] (by intro x y hx; rcases x with _ | _ | _ | _ | x <;> first | exact hx | cases hx) ?_
    exact hk
  | succ r ih =>
    intro b s hb hk
    have hm := hR.1.1
    obtain ⟨ga, hga, hga8⟩ := hgc a (by omega)
    obtain ⟨gb, hgb, hgb8⟩ := hgc b (by omega)
    have ega : cN (τ 8 a) = ga := by rw [hga]; exact cN_nI (by omega)
    have egb : cN (τ 8 b) = gb := by rw [hgb]; exact cN_nI (by omega)
    refine G_iload_n 17 rfl rfl dX8_unmet_16 ?_
    refine G_aload_n 18 rfl rfl dX8_unmet_17 ?_
    refine G_mi 21 rfl hR (v := nI m) hmy fl_X8_110 (by decide) rfl dX8_unmet_18 ?_
    refine G_icmpF_ge 24 rfl (nI_ge (by omega) (by omega)) ⟨63, by decide⟩ dX8_unmet_21 ?_
    refine G_iload_n 25 rfl rfl dX8_unmet_24 ?_
    refine G_aload_n 26 rfl rfl dX8_unmet_25 ?_
    refine G_iload_n 27 rfl rfl dX8_unmet_26 ?_
    refine G_callV 30 rfl [.int (nI a)] (m_isUnmet hR (show a < m by omega)) ok_X8_isUnmet ov_X8_isUnmet ml_X8_219 (hR.ob (ci := 8) (i := 0) (by decide) rfl) ⟨by decide, rfl⟩ rfl ⟨by decide, by decide⟩ rfl rfl (Nat.le_of_ble_eq_true rfl) rfl dX8_unmet_27 ?_
    rintro v h' ⟨⟨ua, rfl⟩ | ⟨ua, rfl⟩, rfl⟩
    · skip
      refine G_ifF_eq 33 rfl (by decide) ⟨54, by decide⟩ dX8_unmet_30 ?_
      refine G_aload_n 34 rfl rfl dX8_unmet_33 ?_
      refine G_iload_n 35 rfl rfl dX8_unmet_34 ?_
      refine G_callV 38 rfl [.int (nI b)] (m_isUnmet hR (show b < m by omega)) ok_X8_isUnmet ov_X8_isUnmet ml_X8_219 (hR.ob (ci := 8) (i := 0) (by decide) rfl) ⟨by decide, rfl⟩ rfl ⟨by decide, by decide⟩ rfl rfl (Nat.le_of_ble_eq_true rfl) rfl dX8_unmet_35 ?_
      rintro v h' ⟨⟨ub, rfl⟩ | ⟨ub, rfl⟩, rfl⟩
      · skip
        refine G_ifF_eq 41 rfl (by decide) ⟨54, by decide⟩ dX8_unmet_38 ?_
        refine G_aload_n 42 rfl rfl dX8_unmet_41 ?_
        refine G_iload_n 43 rfl rfl dX8_unmet_42 ?_
        refine G_iload_n 44 rfl rfl dX8_unmet_43 ?_
        refine G_callV 47 rfl [.int (nI a), .int (nI b)] (m_match hR (show a < m by omega) (show b < m by omega) hga hga8 hgb hgb8) ok_X8_match ov_X8_match ml_X8_222 (hR.ob (ci := 8) (i := 0) (by decide) rfl) ⟨by decide, rfl⟩ rfl ⟨by decide, by decide⟩ rfl rfl (Nat.le_of_ble_eq_true rfl) rfl dX8_unmet_44 ?_
        rintro v h' ⟨rfl, rfl⟩
        rcases hmb : mmC τ a b ga gb with _ | _
        · skip
          refine G_ifT_eq 54 (by decide) (by decide) dX8_unmet_47 ?_
          refine G_iconst 55 rfl (0) (by decide) dX8_unmet_54 ?_
          refine G_iadd 56 rfl dX8_unmet_55 ?_
          refine G_istore_n 57 rfl (by decide) dX8_unmet_56 ?_
          refine G_iinc 60 rfl (nI (b + 1)) rfl (inc1 b) (by decide) dX8_unmet_57 ?_
          refine G_goto 16 (by decide) dX8_unmet_60 ?_
          rw [add0]
          exact ih (b + 1) _ (by omega) (by rw [ctA_succ, if_neg (by unfold muB; rw [ega, egb]; simp [*])] at hk; exact hk)
        · skip
          refine G_ifF_eq 50 rfl (by decide) ⟨54, by decide⟩ dX8_unmet_47 ?_
          refine G_iconst 51 rfl (1) (by decide) dX8_unmet_50 ?_
          refine G_goto 55 (by decide) dX8_unmet_51 ?_
          refine G_iadd 56 rfl dX8_unmet_55 ?_
          refine G_istore_n 57 rfl (by decide) dX8_unmet_56 ?_
          refine G_iinc 60 rfl (nI (b + 1)) rfl (inc1 b) (by decide) dX8_unmet_57 ?_
          refine G_goto 16 (by decide) dX8_unmet_60 ?_
          exact ih (b + 1) _ (by omega) (by rw [ctA_succ, if_pos (by unfold muB; rw [ega, egb]; simp [*])] at hk; exact hk)
      · skip
        refine G_ifT_eq 54 (by decide) (by decide) dX8_unmet_38 ?_
        refine G_iconst 55 rfl (0) (by decide) dX8_unmet_54 ?_
        refine G_iadd 56 rfl dX8_unmet_55 ?_
        refine G_istore_n 57 rfl (by decide) dX8_unmet_56 ?_
        refine G_iinc 60 rfl (nI (b + 1)) rfl (inc1 b) (by decide) dX8_unmet_57 ?_
        refine G_goto 16 (by decide) dX8_unmet_60 ?_
        rw [add0]
        exact ih (b + 1) _ (by omega) (by rw [ctA_succ, if_neg (by unfold muB; rw [ega, egb]; simp [*])] at hk; exact hk)
    · skip
      refine G_ifT_eq 54 (by decide) (by decide) dX8_unmet_30 ?_
      refine G_iconst 55 rfl (0) (by decide) dX8_unmet_54 ?_
      refine G_iadd 56 rfl dX8_unmet_55 ?_
      refine G_istore_n 57 rfl (by decide) dX8_unmet_56 ?_
      refine G_iinc 60 rfl (nI (b + 1)) rfl (inc1 b) (by decide) dX8_unmet_57 ?_
      refine G_goto 16 (by decide) dX8_unmet_60 ?_
      rw [add0]
      exact ih (b + 1) _ (by omega) (by rw [ctA_succ, if_neg (by unfold muB; rw [ega, egb]; simp [*])] at hk; exact hk)
set_option maxHeartbeats 4000000 in
set_option maxRecDepth 100000 in
theorem lpo_X8_unmet {E : Ev} {m : Nat} {σ : Sg} {τ : Tu} {h : Hp} (hR : RR E m σ τ h)  (hmy : τ 0 0 = nI m) (hgc : ∀ p, p < m → ∃ g, τ 8 p = nI g ∧ g ≤ 8) : ∀ (r a : Nat) (s : Int32), a + r = m → muO τ m r a s = muO τ m m 0 0 → G E mX8_unmet (rk 1 0 0) (fun v h' => v = some (.int (muO τ m m 0 0)) ∧ h' = h) 4 [some (.ref (aM E m)), some (.int (s)), some (.int (nI a)), none] [] h 0 0 := by
  intro r
  induction r with
  | zero =>
    intro a s ha hv
    have hm := hR.1.1
    refine G_iload_n 5 rfl rfl dX8_unmet_4 ?_
    refine G_aload_n 6 rfl rfl dX8_unmet_5 ?_
    refine G_mi 9 rfl hR (v := nI m) hmy fl_X8_110 (by decide) rfl dX8_unmet_6 ?_
    refine G_icmpT_ge 69 (nI_le (by omega) (by omega)) (by decide) dX8_unmet_9 ?_
    refine G_iload_n 70 rfl rfl dX8_unmet_69 ?_
    refine G_iret (ty := .int) rfl rfl ?_ dX8_unmet_70
    exact ⟨by rw [← hv]; rfl, rfl⟩
  | succ r ih =>
    intro a s ha hv
    have hm := hR.1.1
    refine G_iload_n 5 rfl rfl dX8_unmet_4 ?_
    refine G_aload_n 6 rfl rfl dX8_unmet_5 ?_
    refine G_mi 9 rfl hR (v := nI m) hmy fl_X8_110 (by decide) rfl dX8_unmet_6 ?_
    refine G_icmpF_ge 12 rfl (nI_ge (by omega) (by omega)) ⟨69, by decide⟩ dX8_unmet_9 ?_
    refine G_iload_n 13 rfl rfl dX8_unmet_12 ?_
    refine G_iconst 14 rfl (1) (by decide) dX8_unmet_13 ?_
    refine G_iadd 15 rfl dX8_unmet_14 ?_
    rw [show nI a + 1 = nI (a + 1) from inc1 a]
    refine G_istore_n 16 rfl (by decide) dX8_unmet_15 ?_
    refine lpi_X8_unmet hR hmy hgc (a := a) (by omega) (m - (a + 1)) (a + 1) s (by omega) ?_
    refine G_iinc 66 rfl (nI (a + 1)) rfl (inc1 a) (by decide) dX8_unmet_63 ?_
    refine G_goto 4 (by decide) dX8_unmet_66 ?_
    exact ih (a + 1) _ (by omega) (by rw [← hv, muO_succ])

set_option maxHeartbeats 4000000 in
set_option maxRecDepth 100000 in
theorem m_unmet {E : Ev} {m : Nat} {σ : Sg} {τ : Tu} {h : Hp} (hR : RR E m σ τ h)  (hmy : τ 0 0 = nI m) (hgc : ∀ p, p < m → ∃ g, τ 8 p = nI g ∧ g ≤ 8) : Cn E mX8_unmet (rk 1 0 0) h [.ref (aM E m)] (fun v h' => v = some (.int (muO τ m m 0 0)) ∧ h' = h) := by
  refine Cn_of (by decide) rfl (by simp [Value.category]) (Nat.le_of_ble_eq_true rfl) ?_
  have hm := hR.1.1
  refine G_iconst 1 rfl (0) (by decide) dX8_unmet_0 ?_
  refine G_istore_n 2 rfl (by decide) dX8_unmet_1 ?_
  refine G_iconst 3 rfl (0) (by decide) dX8_unmet_2 ?_
  refine G_istore_n 4 rfl (by decide) dX8_unmet_3 ?_
  exact lpo_X8_unmet hR hmy hgc m 0 0 (by omega) rfl

set_option maxHeartbeats 4000000 in
set_option maxRecDepth 100000 in
theorem lp_X8_run {E : Ev} {m : Nat} {σ : Sg} {InvM : Tu → Prop} (hMO : ∀ τ p, InvM τ → p < m → ¬ τ 7 p < 2 → ¬ 11 < τ 7 p → MO m τ p) (hst : ∀ τ p, InvM τ → p < m → ¬ τ 7 p < 2 → ¬ 11 < τ 7 p → InvM (mTrn τ p)) (hIm : ∀ τ, InvM τ → τ 0 0 = nI m) {N : Nat} (hN : N ≤ 5000) (s0 b : Int32) (τ0 : Tu) : ∀ (r a : Nat), a + r = N → ∀ (τ : Tu) (s : Int32) {h : Hp}, InvM τ → RR E m σ τ h → rnT m r τ s = rnT m N τ0 s0 → G E mX8_run (rk 4 0 0) (fun v h' => v = some (.int (rnT m N τ0 s0 3 0 - b)) ∧ RR E m σ (rnT m N τ0 s0) h') 24 [some (.ref (aM E m)), some (.int (nI N)), some (.int s0), some (.int (s)), some (.int b), some (.int (nI a)), none] [] h 0 0 := by
  intro r
  induction r with
  | zero =>
    intro a ha τ s h hI hR hv
    have hm := hR.1.1
    rw [rnT_0] at hv
    refine G_iload 26 rfl rfl dX8_run_24 ?_
    refine G_iload_n 27 rfl rfl dX8_run_26 ?_
    refine G_icmpT_ge 71 (nI_le (by omega) (by omega)) (by decide) dX8_run_27 ?_
    refine G_aload_n 72 rfl rfl dX8_run_71 ?_
    refine G_mi 75 rfl hR (v := τ 3 0) rfl fl_X8_173 (by decide) rfl dX8_run_72 ?_
    refine G_iload 77 rfl rfl dX8_run_75 ?_
    refine G_isub 78 rfl dX8_run_77 ?_
    refine G_iret (ty := .int) rfl rfl ?_ dX8_run_78
    exact ⟨by rw [← hv], by rw [← hv]; exact hR⟩
  | succ r ih =>
    intro a ha τ s h hI hR hv
    have hm := hR.1.1
    have hmy := hIm τ hI
    have hpk : pik m (s * 1103515245 + 12345) < m := pik_lt hm.1 _
    refine G_iload 26 rfl rfl dX8_run_24 ?_
    refine G_iload_n 27 rfl rfl dX8_run_26 ?_
    refine G_icmpF_ge 30 rfl (nI_ge (by omega) (by omega)) ⟨71, by decide⟩ dX8_run_27 ?_
    refine G_iload_n 31 rfl rfl dX8_run_30 ?_
    refine G_ldc 33 rfl ct_X8_218 dX8_run_31 ?_
    refine G_imul 34 rfl dX8_run_33 ?_
    refine G_sipush 37 rfl (12345) (by decide) dX8_run_34 ?_
    refine G_iadd 38 rfl dX8_run_37 ?_
    refine G_istore_n 39 rfl (by decide) dX8_run_38 ?_
    refine G_iload_n 40 rfl rfl dX8_run_39 ?_
    refine G_bipush 42 rfl (16) (by decide) dX8_run_40 ?_
    refine G_iushr 43 rfl dX8_run_42 ?_
    refine G_aload_n 44 rfl rfl dX8_run_43 ?_
    refine G_mi 47 rfl hR (v := nI m) hmy fl_X8_110 (by decide) rfl dX8_run_44 ?_
    refine G_irem 48 rfl (show ¬ nI m = 0 from nI_ne0 (by omega) (by omega)) dX8_run_47 ?_
    rw [pik_eq hm]
    refine G_istore 50 rfl (by decide) dX8_run_48 ?_
    refine G_aload_n 51 rfl rfl dX8_run_50 ?_
    refine G_iload 53 rfl rfl dX8_run_51 ?_
    refine G_callV 56 rfl [.int (nI (pik m (s * 1103515245 + 12345)))] (m_isOffering hR (nI (pik m (s * 1103515245 + 12345))) hmy) ok_X8_isOffering ov_X8_isOffering ml_X8_215 (hR.ob (ci := 8) (i := 0) (by decide) rfl) ⟨by decide, rfl⟩ rfl ⟨by decide, by decide⟩ rfl rfl (Nat.le_of_ble_eq_true rfl) rfl dX8_run_53 ?_
    rintro v h' ⟨⟨p, hp, e, ho1, ho2, rfl⟩ | ⟨e, rfl⟩, rfl⟩
    all_goals skip
    · skip
      refine G_ifF_eq 59 rfl (by decide) ⟨65, by decide⟩ dX8_run_56 ?_
      refine G_aload_n 60 rfl rfl dX8_run_59 ?_
      refine G_iload 62 rfl rfl dX8_run_60 ?_
      obtain rfl : pik m (s * 1103515245 + 12345) = p := (nI_eq (by omega) (by omega)).mp e
      refine G_callV 65 rfl [.int (nI (pik m (s * 1103515245 + 12345)))] (m_turns hR hpk ho1 ho2 (hMO τ _ hI hpk ho1 ho2)) ok_X8_turns ov_X8_turns ml_X8_209 (hR.ob (ci := 8) (i := 0) (by decide) rfl) ⟨by decide, rfl⟩ rfl ⟨by decide, by decide⟩ rfl rfl (Nat.le_of_ble_eq_true rfl) rfl dX8_run_62 ?_
      rintro v h ⟨rfl, hR⟩
      refine G_iinc 68 rfl (nI (a + 1)) rfl (inc1 a) (by decide) dX8_run_65 ?_
      refine G_goto 24 (by decide) dX8_run_68 ?_
      refine G_lw [some (.ref (aM E m)), some (.int (nI N)), some (.int s0), some (.int (lcg s)), some (.int b), some (.int (nI (a + 1))), none] (by intro x y hx; rcases x with _ | _ | _ | _ | _ | _ | _ | x <;> first | exact hx | cases hx) ?_
      exact ih (a + 1) (by omega) _ (lcg s) (hst τ _ hI hpk ho1 ho2) hR (by rw [← hv, rnT_succ]; unfold mrn1; rw [if_pos (show ¬ τ 7 (pik m (lcg s)) < 2 ∧ ¬ 11 < τ 7 (pik m (lcg s)) from ⟨ho1, ho2⟩)]; rfl)
    · skip
      refine G_ifT_eq 65 (by decide) (by decide) dX8_run_56 ?_
      refine G_iinc 68 rfl (nI (a + 1)) rfl (inc1 a) (by decide) dX8_run_65 ?_
      refine G_goto 24 (by decide) dX8_run_68 ?_
      refine G_lw [some (.ref (aM E m)), some (.int (nI N)), some (.int s0), some (.int (lcg s)), some (.int b), some (.int (nI (a + 1))), none] (by intro x y hx; rcases x with _ | _ | _ | _ | _ | _ | _ | x <;> first | exact hx | cases hx) ?_
      have hpk2 : pik m (lcg s) < m := hpk
      have hno : ¬ (¬ τ 7 (pik m (lcg s)) < 2 ∧ ¬ 11 < τ 7 (pik m (lcg s))) := by
        rcases e with e | ⟨p, hp, e, q⟩
        · exact absurd e (fun z => z.elim (nI_pos (by omega)) (nI_ge hpk (by omega)))
        · rw [show pik m (lcg s) = p from (nI_eq (by omega) (by omega)).mp e]; exact q
      exact ih (a + 1) (by omega) _ (lcg s) hI hR (by rw [← hv, rnT_succ]; unfold mrn1; rw [if_neg hno])

set_option maxHeartbeats 4000000 in
set_option maxRecDepth 100000 in
theorem m_run {E : Ev} {m : Nat} {σ : Sg} {τ : Tu} {h : Hp} (hR : RR E m σ τ h) (k s : Int32) {InvM : Tu → Prop} (hMO : ∀ τ p, InvM τ → p < m → ¬ τ 7 p < 2 → ¬ 11 < τ 7 p → MO m τ p) (hst : ∀ τ p, InvM τ → p < m → ¬ τ 7 p < 2 → ¬ 11 < τ 7 p → InvM (mTrn τ p)) (hIm : ∀ τ, InvM τ → τ 0 0 = nI m) (hI : InvM τ) : Cn E mX8_run (rk 4 0 0) h [.ref (aM E m), .int k, .int s] (fun v h' => (∃ N : Nat, N ≤ 5000 ∧ k = nI N ∧ v = some (.int (rnT m N τ s 3 0 - τ 3 0)) ∧ RR E m σ (rnT m N τ s) h') ∨ ((k < 0 ∨ 5000 < k) ∧ v = some (.int (-1)) ∧ RR E m σ τ h')) := by
  refine Cn_of (by decide) rfl (by simp [Value.category]) (Nat.le_of_ble_eq_true rfl) ?_
  have hm := hR.1.1
  refine G_iload_n 1 rfl rfl dX8_run_0 ?_
  refine G_if_lt 11 4 rfl (by decide) dX8_run_1 (fun c1 => ?_) (fun c1 => ?_)
  · skip
    refine G_iconst 12 rfl (-1) (by decide) dX8_run_11 ?_
    refine G_iret (ty := .int) rfl rfl ?_ dX8_run_12
    exact Or.inr ⟨by first | exact Or.inl c1 | exact Or.inr (Int32.not_le.mp c8), rfl, hR⟩
  · skip
    refine G_iload_n 5 rfl rfl dX8_run_4 ?_
    refine G_sipush 8 rfl (5000) (by decide) dX8_run_5 ?_
    refine G_icmp_le 13 11 rfl (by decide) dX8_run_8 (fun c8 => ?_) (fun c8 => ?_)
    · skip
      refine G_iload_n 14 rfl rfl dX8_run_13 ?_
      refine G_istore_n 15 rfl (by decide) dX8_run_14 ?_
      refine G_aload_n 16 rfl rfl dX8_run_15 ?_
      refine G_mi 19 rfl hR (v := τ 3 0) rfl fl_X8_173 (by decide) rfl dX8_run_16 ?_
      refine G_istore 21 rfl (by decide) dX8_run_19 ?_
      refine G_iconst 22 rfl (0) (by decide) dX8_run_21 ?_
      refine G_istore 24 rfl (by decide) dX8_run_22 ?_
      obtain ⟨N, hN, rfl⟩ : ∃ N, N ≤ 5000 ∧ k = nI N := by
        obtain ⟨j, hj, e⟩ := nI_of c1
        refine ⟨j, ?_, e⟩
        by_cases q : j ≤ 5000
        · exact q
        · exact absurd c8 (by rw [e]; exact Int32.not_le.mpr (nI_lt (a := 5000) (by omega) hj))
      have hlp := lp_X8_run (E := E) (m := m) (σ := σ) hMO hst hIm hN s (τ 3 0) τ N 0 (by omega) τ s hI hR rfl
      refine G_lw [some (.ref (aM E m)), some (.int (nI N)), some (.int s), some (.int s), some (.int (τ 3 0)), some (.int (nI 0)), none] (by intro x y hx; rcases x with _ | _ | _ | _ | _ | _ | _ | x <;> first | exact hx | cases hx) ?_
      exact G_post (fun v h' q => Or.inl ⟨N, hN, rfl, q⟩) hlp
    · skip
      refine G_iconst 12 rfl (-1) (by decide) dX8_run_11 ?_
      refine G_iret (ty := .int) rfl rfl ?_ dX8_run_12
      exact Or.inr ⟨by first | exact Or.inl c1 | exact Or.inr (Int32.not_le.mp c8), rfl, hR⟩

set_option maxHeartbeats 4000000 in
set_option maxRecDepth 100000 in
theorem c_L_cell {E : Ev} {h : Hp}  (k : Nat) (hk : k < 2 ^ 30) (hZ : eZ E < 2 ^ 30) : Cn E mL_cell (rk 0 0 0) h [.ref (eS E), .int (nI k)] (fun v h' => v = some (.int (if k < eZ E then eX E k else 0)) ∧ h' = h) := by
  refine Cn_of (by decide) rfl (by simp [Value.category]) (Nat.le_of_ble_eq_true rfl) ?_
  refine G_iload_n 1 rfl rfl dL_cell_0 ?_
  refine G_aload_n 2 rfl rfl dL_cell_1 ?_
  refine G_slen 3 rfl dL_cell_2 ?_
  refine G_icmp_ge 12 6 rfl (by decide) dL_cell_3 (fun c3 => ?_) (fun c3 => ?_)
  · skip
    refine G_iconst 13 rfl (0) (by decide) dL_cell_12 ?_
    refine G_iret (ty := .int) rfl rfl ?_ dL_cell_13
    first | exact ⟨by rw [if_pos hlt], rfl⟩ | exact ⟨by rw [if_neg (fun q => nI_ge q (by omega) c3)], rfl⟩
  · skip
    refine G_aload_n 7 rfl rfl dL_cell_6 ?_
    refine G_iload_n 8 rfl rfl dL_cell_7 ?_
    have hlt : k < eZ E := by
      rcases Nat.lt_or_ge k (eZ E) with q | q
      · exact q
      · exact absurd (nI_le q (by omega)) c3
    refine G_sload 9 rfl k rfl hlt (by omega) dL_cell_8 ?_
    refine G_goto 13 (by decide) dL_cell_9 ?_
    refine G_iret (ty := .int) rfl rfl ?_ dL_cell_13
    first | exact ⟨by rw [if_pos hlt], rfl⟩ | exact ⟨by rw [if_neg (fun q => nI_ge q (by omega) c3)], rfl⟩

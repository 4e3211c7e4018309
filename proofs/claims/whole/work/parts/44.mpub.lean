def mOff (τ : Tu) (p : Nat) : Tu := ut (ut (ut (ut (ut (ut (ut (ut τ 16 p (τ 16 p + 1)) 15 p 1) 20 p 0) 25 p 0) 24 p 0) 18 p (oI (mNx τ p 0))) 7 p (if mNx τ p 0 = none then 9 else 2)) 14 p (if τ 13 p ≤ 0 then -1 else τ 1 0 + τ 13 p)
def mHow (τ : Tu) (p : Nat) : Int32 := if τ 7 p = 12 then (if τ 15 p = 3 then 2 else if τ 25 p = 0 then 5 else 3) else if τ 7 p = 10 then 1 else 0
def mCnc (τ : Tu) (p : Nat) : Tu := if τ 7 p = 2 ∨ τ 7 p = 3 ∨ τ 7 p = 4 ∨ τ 7 p = 9 ∨ τ 7 p = 10 then mWd (mGo τ p) p else mGo τ p
def dB (τ : Tu) (k : Nat) : Bool := decide (1 < τ 39 k) || (decide (τ 39 k = 1) && !decide (τ 40 k = 0))
theorem add0 (s : Int32) : s + 0 = s := by simp
def mhB (τ : Tu) (i : Nat) : Bool := decide (τ 15 i = 2) && !(decide (τ 7 (cN (τ 17 i)) = 5) || decide (τ 7 (cN (τ 17 i)) = 6) || decide (τ 7 (cN (τ 17 i)) = 7) || decide (τ 7 (cN (τ 17 i)) = 8))
def mCt (τ : Tu) (m : Nat) (k : Int32) : Int32 := if k = 0 then nI m else if k = 1 then ctA (fun i => !decide (τ 7 i = 0)) m 0 0 else if k = 2 then τ 3 0 else if k = 3 then τ 1 0 else if k = 4 then τ 2 0 else if k = 5 then τ 31 0 else if k = 6 then τ 4 0 else if k = 7 then τ 5 0 else if k = 8 then τ 6 0 else -1
set_option maxHeartbeats 4000000 in
set_option maxRecDepth 100000 in
theorem m_offer {E : Ev} {m : Nat} {σ : Sg} {τ : Tu} {h : Hp} (hR : RR E m σ τ h) (i : Int32) (hmy : τ 0 0 = nI m) (hgc : ∀ p, p < m → ∃ g, τ 8 p = nI g ∧ g ≤ 8) : Cn E mX8_offer (rk 2 0 0) h [.ref (aM E m), .int i] (fun v h' => (∃ p, p < m ∧ i = nI p ∧ τ 7 p = 1 ∧ ¬ τ 16 p = 1000 ∧ v = some (.int 1) ∧ RR E m σ (mOff τ p) h') ∨ (((∀ p, p < m → i = nI p → ¬ τ 7 p = 1) ∨ (∃ p, p < m ∧ i = nI p ∧ τ 16 p = 1000)) ∧ v = some (.int 0) ∧ RR E m σ τ h')) := by
  refine Cn_of (by decide) rfl (by simp [Value.category]) (Nat.le_of_ble_eq_true rfl) ?_
  have hm := hR.1.1
  refine G_aload_n 1 rfl rfl dX8_offer_0 ?_
  refine G_iload_n 2 rfl rfl dX8_offer_1 ?_
  refine G_iconst 3 rfl (1) (by decide) dX8_offer_2 ?_
  refine G_callV 6 rfl [.int i, .int 1] (m_isIn hR i 1 hmy) ok_X8_isIn ov_X8_isIn ml_X8_118 (hR.ob (ci := 8) (i := 0) (by decide) rfl) ⟨by decide, rfl⟩ rfl ⟨by decide, by decide⟩ rfl rfl (Nat.le_of_ble_eq_true rfl) rfl dX8_offer_3 ?_
  rintro v h' ⟨⟨p, hp, rfl, hph, rfl⟩ | ⟨hno, rfl⟩, rfl⟩
  · skip
    refine G_ifF_eq 9 rfl (by decide) ⟨21, by decide⟩ dX8_offer_6 ?_
    obtain ⟨g, hg, hg8⟩ := hgc p hp
    · skip
      refine G_aload_n 10 rfl rfl dX8_offer_9 ?_
      refine G_mR 13 rfl hR fl_X8_38 ia_16 rfl dX8_offer_10 ?_
      refine G_iload_n 14 rfl rfl dX8_offer_13 ?_
      refine G_mldV 15 rfl hR (k := 16) p (v := τ 16 p) rfl rfl ia_16 rfl (show p < 16 by omega) dX8_offer_14 ?_
      refine G_sipush 18 rfl (1000) (by decide) dX8_offer_15 ?_
      refine G_icmp_ne 23 21 rfl (by decide) dX8_offer_18 (fun c18 => ?_) (fun c18 => ?_)
      · skip
        refine G_aload_n 24 rfl rfl dX8_offer_23 ?_
        refine G_mR 27 rfl hR fl_X8_38 ia_16 rfl dX8_offer_24 ?_
        refine G_iload_n 28 rfl rfl dX8_offer_27 ?_
        refine G_dup2 29 rfl rfl rfl dX8_offer_28 ?_
        refine G_mldV 30 rfl hR (k := 16) p (v := τ 16 p) rfl rfl ia_16 rfl (show p < 16 by omega) dX8_offer_29 ?_
        refine G_iconst 31 rfl (1) (by decide) dX8_offer_30 ?_
        refine G_iadd 32 rfl dX8_offer_31 ?_
        refine G_mst 33 rfl hR (k := 16) p rfl ia_16 rfl (show p < 16 by omega) dX8_offer_32 (fun h hR => ?_)
        refine G_aload_n 34 rfl rfl dX8_offer_33 ?_
        refine G_mR 37 rfl hR fl_X8_35 ia_15 rfl dX8_offer_34 ?_
        refine G_iload_n 38 rfl rfl dX8_offer_37 ?_
        refine G_iconst 39 rfl (1) (by decide) dX8_offer_38 ?_
        refine G_mst 40 rfl hR (k := 15) p rfl ia_15 rfl (show p < 16 by omega) dX8_offer_39 (fun h hR => ?_)
        refine G_aload_n 41 rfl rfl dX8_offer_40 ?_
        refine G_mR 44 rfl hR fl_X8_50 ia_20 rfl dX8_offer_41 ?_
        refine G_iload_n 45 rfl rfl dX8_offer_44 ?_
        refine G_iconst 46 rfl (0) (by decide) dX8_offer_45 ?_
        refine G_mstZ 47 rfl hR (k := 20) p rfl ia_20 rfl (show p < 16 by omega) (by decide) dX8_offer_46 (fun h hR => ?_)
        refine G_aload_n 48 rfl rfl dX8_offer_47 ?_
        refine G_mR 51 rfl hR fl_X8_65 ia_25 rfl dX8_offer_48 ?_
        refine G_iload_n 52 rfl rfl dX8_offer_51 ?_
        refine G_iconst 53 rfl (0) (by decide) dX8_offer_52 ?_
        refine G_mstZ 54 rfl hR (k := 25) p rfl ia_25 rfl (show p < 16 by omega) (by decide) dX8_offer_53 (fun h hR => ?_)
        refine G_aload_n 55 rfl rfl dX8_offer_54 ?_
        refine G_mR 58 rfl hR fl_X8_62 ia_24 rfl dX8_offer_55 ?_
        refine G_iload_n 59 rfl rfl dX8_offer_58 ?_
        refine G_iconst 60 rfl (0) (by decide) dX8_offer_59 ?_
        refine G_mstZ 61 rfl hR (k := 24) p rfl ia_24 rfl (show p < 16 by omega) (by decide) dX8_offer_60 (fun h hR => ?_)
        refine G_aload_n 62 rfl rfl dX8_offer_61 ?_
        refine G_mR 65 rfl hR fl_X8_44 ia_18 rfl dX8_offer_62 ?_
        refine G_iload_n 66 rfl rfl dX8_offer_65 ?_
        refine G_aload_n 67 rfl rfl dX8_offer_66 ?_
        refine G_iload_n 68 rfl rfl dX8_offer_67 ?_
        refine G_iconst 69 rfl (-1) (by decide) dX8_offer_68 ?_
        refine G_callV 72 rfl [.int (nI p), .int ((-1))] (m_onBehind hR hp (g := g) hg hg8 0 (by omega) (-1) (by decide)) ok_X8_onBehind ov_X8_onBehind ml_X8_126 (hR.ob (ci := 8) (i := 0) (by decide) rfl) ⟨by decide, rfl⟩ rfl ⟨by decide, by decide⟩ rfl rfl (Nat.le_of_ble_eq_true rfl) rfl dX8_offer_69 ?_
        rintro v h' ⟨rfl, rfl⟩
        rw [show mNx (ut (ut (ut (ut (ut τ 16 p (τ 16 p + 1)) 15 p 1) 20 p 0) 25 p 0) 24 p 0) p 0 = mNx τ p 0 from rfl]
        rcases hn0 : mNx τ p 0 with _ | j
        · skip
          refine G_mst 73 rfl hR (k := 18) p rfl ia_18 rfl (show p < 16 by omega) dX8_offer_72 (fun h hR => ?_)
          refine G_aload_n 74 rfl rfl dX8_offer_73 ?_
          refine G_mR 77 rfl hR fl_X8_9 ia_7 rfl dX8_offer_74 ?_
          refine G_iload_n 78 rfl rfl dX8_offer_77 ?_
          refine G_aload_n 79 rfl rfl dX8_offer_78 ?_
          refine G_mR 82 rfl hR fl_X8_44 ia_18 rfl dX8_offer_79 ?_
          refine G_iload_n 83 rfl rfl dX8_offer_82 ?_
          refine G_mldV 84 rfl hR (k := 18) p (v := oI none) (by simp [ut]) rfl ia_18 rfl (show p < 16 by omega) dX8_offer_83 ?_
          refine G_iconst 85 rfl (-1) (by decide) dX8_offer_84 ?_
          refine G_icmpF_ne 88 rfl rfl ⟨93, by decide⟩ dX8_offer_85 ?_
          refine G_bipush 90 rfl (9) (by decide) dX8_offer_88 ?_
          refine G_goto 94 (by decide) dX8_offer_90 ?_
          refine G_mst 95 rfl hR (k := 7) p rfl ia_7 rfl (show p < 16 by omega) dX8_offer_94 (fun h hR => ?_)
          refine G_aload_n 96 rfl rfl dX8_offer_95 ?_
          refine G_mR 99 rfl hR fl_X8_32 ia_14 rfl dX8_offer_96 ?_
          refine G_iload_n 100 rfl rfl dX8_offer_99 ?_
          refine G_aload_n 101 rfl rfl dX8_offer_100 ?_
          refine G_mR 104 rfl hR fl_X8_29 ia_13 rfl dX8_offer_101 ?_
          refine G_iload_n 105 rfl rfl dX8_offer_104 ?_
          refine G_mldV 106 rfl hR (k := 13) p (v := τ 13 p) rfl rfl ia_13 rfl (show p < 16 by omega) dX8_offer_105 ?_
          refine G_if_le 123 109 rfl (by decide) dX8_offer_106 (fun c106 => ?_) (fun c106 => ?_)
          · skip
            refine G_iconst 124 rfl (-1) (by decide) dX8_offer_123 ?_
            refine G_mst 125 rfl hR (k := 14) p rfl ia_14 rfl (show p < 16 by omega) dX8_offer_124 (fun h hR => ?_)
            refine G_iconst 126 rfl (1) (by decide) dX8_offer_125 ?_
            refine G_iret (ty := .boolean) rfl (by decide) ?_ dX8_offer_126
            refine Or.inl ⟨p, hp, rfl, hph, c18, rfl, ?_⟩
            unfold mOff
            rw [hn0]
            first | (rw [if_pos c106]; exact hR) | (rw [if_neg c106]; exact hR)
          · skip
            refine G_aload_n 110 rfl rfl dX8_offer_109 ?_
            refine G_mi 113 rfl hR (v := τ 1 0) rfl fl_X8_130 (by decide) rfl dX8_offer_110 ?_
            refine G_aload_n 114 rfl rfl dX8_offer_113 ?_
            refine G_mR 117 rfl hR fl_X8_29 ia_13 rfl dX8_offer_114 ?_
            refine G_iload_n 118 rfl rfl dX8_offer_117 ?_
            refine G_mldV 119 rfl hR (k := 13) p (v := τ 13 p) rfl rfl ia_13 rfl (show p < 16 by omega) dX8_offer_118 ?_
            refine G_iadd 120 rfl dX8_offer_119 ?_
            refine G_goto 124 (by decide) dX8_offer_120 ?_
            refine G_mst 125 rfl hR (k := 14) p rfl ia_14 rfl (show p < 16 by omega) dX8_offer_124 (fun h hR => ?_)
            refine G_iconst 126 rfl (1) (by decide) dX8_offer_125 ?_
            refine G_iret (ty := .boolean) rfl (by decide) ?_ dX8_offer_126
            refine Or.inl ⟨p, hp, rfl, hph, c18, rfl, ?_⟩
            unfold mOff
            rw [hn0]
            first | (rw [if_pos c106]; exact hR) | (rw [if_neg c106]; exact hR)
        · skip
          have hb0 := fOn_some hn0
          rw [hg, cN_nI (by omega)] at hb0
          refine G_mst 73 rfl hR (k := 18) p rfl ia_18 rfl (show p < 16 by omega) dX8_offer_72 (fun h hR => ?_)
          refine G_aload_n 74 rfl rfl dX8_offer_73 ?_
          refine G_mR 77 rfl hR fl_X8_9 ia_7 rfl dX8_offer_74 ?_
          refine G_iload_n 78 rfl rfl dX8_offer_77 ?_
          refine G_aload_n 79 rfl rfl dX8_offer_78 ?_
          refine G_mR 82 rfl hR fl_X8_44 ia_18 rfl dX8_offer_79 ?_
          refine G_iload_n 83 rfl rfl dX8_offer_82 ?_
          refine G_mldV 84 rfl hR (k := 18) p (v := oI (some j)) (by simp [ut]) rfl ia_18 rfl (show p < 16 by omega) dX8_offer_83 ?_
          refine G_iconst 85 rfl (-1) (by decide) dX8_offer_84 ?_
          refine G_icmpT_ne 93 (oI_m1 (by omega)) (by decide) dX8_offer_85 ?_
          refine G_iconst 94 rfl (2) (by decide) dX8_offer_93 ?_
          refine G_mst 95 rfl hR (k := 7) p rfl ia_7 rfl (show p < 16 by omega) dX8_offer_94 (fun h hR => ?_)
          refine G_aload_n 96 rfl rfl dX8_offer_95 ?_
          refine G_mR 99 rfl hR fl_X8_32 ia_14 rfl dX8_offer_96 ?_
          refine G_iload_n 100 rfl rfl dX8_offer_99 ?_
          refine G_aload_n 101 rfl rfl dX8_offer_100 ?_
          refine G_mR 104 rfl hR fl_X8_29 ia_13 rfl dX8_offer_101 ?_
          refine G_iload_n 105 rfl rfl dX8_offer_104 ?_
          refine G_mldV 106 rfl hR (k := 13) p (v := τ 13 p) rfl rfl ia_13 rfl (show p < 16 by omega) dX8_offer_105 ?_
          refine G_if_le 123 109 rfl (by decide) dX8_offer_106 (fun c106 => ?_) (fun c106 => ?_)
          · skip
            refine G_iconst 124 rfl (-1) (by decide) dX8_offer_123 ?_
            refine G_mst 125 rfl hR (k := 14) p rfl ia_14 rfl (show p < 16 by omega) dX8_offer_124 (fun h hR => ?_)
            refine G_iconst 126 rfl (1) (by decide) dX8_offer_125 ?_
            refine G_iret (ty := .boolean) rfl (by decide) ?_ dX8_offer_126
            refine Or.inl ⟨p, hp, rfl, hph, c18, rfl, ?_⟩
            unfold mOff
            rw [hn0]
            first | (rw [if_pos c106]; exact hR) | (rw [if_neg c106]; exact hR)
          · skip
            refine G_aload_n 110 rfl rfl dX8_offer_109 ?_
            refine G_mi 113 rfl hR (v := τ 1 0) rfl fl_X8_130 (by decide) rfl dX8_offer_110 ?_
            refine G_aload_n 114 rfl rfl dX8_offer_113 ?_
            refine G_mR 117 rfl hR fl_X8_29 ia_13 rfl dX8_offer_114 ?_
            refine G_iload_n 118 rfl rfl dX8_offer_117 ?_
            refine G_mldV 119 rfl hR (k := 13) p (v := τ 13 p) rfl rfl ia_13 rfl (show p < 16 by omega) dX8_offer_118 ?_
            refine G_iadd 120 rfl dX8_offer_119 ?_
            refine G_goto 124 (by decide) dX8_offer_120 ?_
            refine G_mst 125 rfl hR (k := 14) p rfl ia_14 rfl (show p < 16 by omega) dX8_offer_124 (fun h hR => ?_)
            refine G_iconst 126 rfl (1) (by decide) dX8_offer_125 ?_
            refine G_iret (ty := .boolean) rfl (by decide) ?_ dX8_offer_126
            refine Or.inl ⟨p, hp, rfl, hph, c18, rfl, ?_⟩
            unfold mOff
            rw [hn0]
            first | (rw [if_pos c106]; exact hR) | (rw [if_neg c106]; exact hR)
      · skip
        refine G_iconst 22 rfl (0) (by decide) dX8_offer_21 ?_
        refine G_iret (ty := .boolean) rfl (by decide) ?_ dX8_offer_22
        exact Or.inr ⟨by first | exact Or.inr ⟨p, hp, rfl, c18⟩ | exact Or.inl hno, rfl, hR⟩
  · skip
    refine G_ifT_eq 21 (by decide) (by decide) dX8_offer_6 ?_
    refine G_iconst 22 rfl (0) (by decide) dX8_offer_21 ?_
    refine G_iret (ty := .boolean) rfl (by decide) ?_ dX8_offer_22
    exact Or.inr ⟨by first | exact Or.inr ⟨p, hp, rfl, c18⟩ | exact Or.inl hno, rfl, hR⟩

set_option maxHeartbeats 4000000 in
set_option maxRecDepth 100000 in
theorem m_how {E : Ev} {m : Nat} {σ : Sg} {τ : Tu} {h : Hp} (hR : RR E m σ τ h) {p : Nat} (hp : p < m) : Cn E mX8_how (rk 0 0 0) h [.ref (aM E m), .int (nI p)] (fun v h' => v = some (.int (mHow τ p)) ∧ h' = h) := by
  refine Cn_of (by decide) rfl (by simp [Value.category]) (Nat.le_of_ble_eq_true rfl) ?_
  have hm := hR.1.1
  refine G_aload_n 1 rfl rfl dX8_how_0 ?_
  refine G_mR 4 rfl hR fl_X8_9 ia_7 rfl dX8_how_1 ?_
  refine G_iload_n 5 rfl rfl dX8_how_4 ?_
  refine G_mldV 6 rfl hR (k := 7) p (v := τ 7 p) rfl rfl ia_7 rfl (show p < 16 by omega) dX8_how_5 ?_
  refine G_bipush 8 rfl (12) (by decide) dX8_how_6 ?_
  refine G_icmp_eq 28 11 rfl (by decide) dX8_how_8 (fun c8 => ?_) (fun c8 => ?_)
  · skip
    refine G_aload_n 29 rfl rfl dX8_how_28 ?_
    refine G_mR 32 rfl hR fl_X8_35 ia_15 rfl dX8_how_29 ?_
    refine G_iload_n 33 rfl rfl dX8_how_32 ?_
    refine G_mldV 34 rfl hR (k := 15) p (v := τ 15 p) rfl rfl ia_15 rfl (show p < 16 by omega) dX8_how_33 ?_
    refine G_iconst 35 rfl (3) (by decide) dX8_how_34 ?_
    refine G_icmp_ne 42 38 rfl (by decide) dX8_how_35 (fun c35 => ?_) (fun c35 => ?_)
    · skip
      refine G_aload_n 43 rfl rfl dX8_how_42 ?_
      refine G_mR 46 rfl hR fl_X8_65 ia_25 rfl dX8_how_43 ?_
      refine G_iload_n 47 rfl rfl dX8_how_46 ?_
      refine G_mldZV 48 rfl hR (k := 25) p (v := τ 25 p) rfl rfl ia_25 rfl (show p < 16 by omega) dX8_how_47 ?_
      refine G_if_eq 55 51 rfl (by decide) dX8_how_48 (fun c48 => ?_) (fun c48 => ?_)
      · skip
        refine G_iconst 56 rfl (5) (by decide) dX8_how_55 ?_
        refine G_iret (ty := .int) rfl rfl ?_ dX8_how_56
        exact ⟨by unfold mHow; simp [*], rfl⟩
      · skip
        refine G_iconst 52 rfl (3) (by decide) dX8_how_51 ?_
        refine G_goto 56 (by decide) dX8_how_52 ?_
        refine G_iret (ty := .int) rfl rfl ?_ dX8_how_56
        exact ⟨by unfold mHow; simp [*], rfl⟩
    · skip
      refine G_iconst 39 rfl (2) (by decide) dX8_how_38 ?_
      refine G_goto 56 (by decide) dX8_how_39 ?_
      refine G_iret (ty := .int) rfl rfl ?_ dX8_how_56
      exact ⟨by unfold mHow; simp [*], rfl⟩
  · skip
    refine G_aload_n 12 rfl rfl dX8_how_11 ?_
    refine G_mR 15 rfl hR fl_X8_9 ia_7 rfl dX8_how_12 ?_
    refine G_iload_n 16 rfl rfl dX8_how_15 ?_
    refine G_mldV 17 rfl hR (k := 7) p (v := τ 7 p) rfl rfl ia_7 rfl (show p < 16 by omega) dX8_how_16 ?_
    refine G_bipush 19 rfl (10) (by decide) dX8_how_17 ?_
    refine G_icmp_ne 26 22 rfl (by decide) dX8_how_19 (fun c19 => ?_) (fun c19 => ?_)
    · skip
      refine G_iconst 27 rfl (0) (by decide) dX8_how_26 ?_
      refine G_iret (ty := .int) rfl rfl ?_ dX8_how_27
      exact ⟨by unfold mHow; simp [*], rfl⟩
    · skip
      refine G_iconst 23 rfl (1) (by decide) dX8_how_22 ?_
      refine G_goto 27 (by decide) dX8_how_23 ?_
      refine G_iret (ty := .int) rfl rfl ?_ dX8_how_27
      exact ⟨by unfold mHow; simp [*], rfl⟩

set_option maxHeartbeats 4000000 in
set_option maxRecDepth 100000 in
theorem m_step {E : Ev} {m : Nat} {σ : Sg} {τ : Tu} {h : Hp} (hR : RR E m σ τ h) (i : Int32) (hmy : τ 0 0 = nI m) (hrg : ∀ p, p < m → ¬ τ 7 p = 0 → ¬ τ 7 p = 1 → ¬ τ 7 p = 12 → (¬ τ 7 p < 2 ∧ ¬ 11 < τ 7 p) ∧ MO m τ p) : Cn E mX8_step (rk 4 0 0) h [.ref (aM E m), .int i] (fun v h' => (∃ p, p < m ∧ i = nI p ∧ ((τ 7 p = 0 ∧ v = some (.int (-1)) ∧ RR E m σ τ h') ∨ (τ 7 p = 1 ∧ v = some (.int 4) ∧ RR E m σ τ h') ∨ (τ 7 p = 12 ∧ v = some (.int (mHow τ p)) ∧ RR E m σ τ h') ∨ ((¬ τ 7 p = 0 ∧ ¬ τ 7 p = 1 ∧ ¬ τ 7 p = 12) ∧ v = some (.int (mHow (mTrn τ p) p)) ∧ RR E m σ (mTrn τ p) h'))) ∨ ((i < 0 ∨ nI m ≤ i) ∧ v = some (.int (-1)) ∧ RR E m σ τ h')) := by
  refine Cn_of (by decide) rfl (by simp [Value.category]) (Nat.le_of_ble_eq_true rfl) ?_
  have hm := hR.1.1
  refine G_aload_n 1 rfl rfl dX8_step_0 ?_
  refine G_iload_n 2 rfl rfl dX8_step_1 ?_
  refine G_callV 5 rfl [.int i] (m_isOne hR (i) hmy) ok_X8_isOne ov_X8_isOne ml_X8_114 (hR.ob (ci := 8) (i := 0) (by decide) rfl) ⟨by decide, rfl⟩ rfl ⟨by decide, by decide⟩ rfl rfl (Nat.le_of_ble_eq_true rfl) rfl dX8_step_2 ?_
  rintro v h' ⟨⟨p, hp, rfl, rfl⟩ | ⟨e, rfl⟩, rfl⟩
  · skip
    refine G_ifF_eq 8 rfl (by decide) ⟨17, by decide⟩ dX8_step_5 ?_
    skip
    · skip
      refine G_aload_n 9 rfl rfl dX8_step_8 ?_
      refine G_mR 12 rfl hR fl_X8_9 ia_7 rfl dX8_step_9 ?_
      refine G_iload_n 13 rfl rfl dX8_step_12 ?_
      refine G_mldV 14 rfl hR (k := 7) p (v := τ 7 p) rfl rfl ia_7 rfl (show p < 16 by omega) dX8_step_13 ?_
      refine G_if_ne 19 17 rfl (by decide) dX8_step_14 (fun c14 => ?_) (fun c14 => ?_)
      · skip
        refine G_aload_n 20 rfl rfl dX8_step_19 ?_
        refine G_mR 23 rfl hR fl_X8_9 ia_7 rfl dX8_step_20 ?_
        refine G_iload_n 24 rfl rfl dX8_step_23 ?_
        refine G_mldV 25 rfl hR (k := 7) p (v := τ 7 p) rfl rfl ia_7 rfl (show p < 16 by omega) dX8_step_24 ?_
        refine G_iconst 26 rfl (1) (by decide) dX8_step_25 ?_
        refine G_icmp_ne 31 29 rfl (by decide) dX8_step_26 (fun c26 => ?_) (fun c26 => ?_)
        · skip
          refine G_aload_n 32 rfl rfl dX8_step_31 ?_
          refine G_mR 35 rfl hR fl_X8_9 ia_7 rfl dX8_step_32 ?_
          refine G_iload_n 36 rfl rfl dX8_step_35 ?_
          refine G_mldV 37 rfl hR (k := 7) p (v := τ 7 p) rfl rfl ia_7 rfl (show p < 16 by omega) dX8_step_36 ?_
          refine G_bipush 39 rfl (12) (by decide) dX8_step_37 ?_
          refine G_icmp_eq 47 42 rfl (by decide) dX8_step_39 (fun c39 => ?_) (fun c39 => ?_)
          · skip
            refine G_aload_n 48 rfl rfl dX8_step_47 ?_
            refine G_iload_n 49 rfl rfl dX8_step_48 ?_
            refine G_callV 52 rfl [.int (nI p)] (m_how hR hp) ok_X8_how ov_X8_how ml_X8_212 (hR.ob (ci := 8) (i := 0) (by decide) rfl) ⟨by decide, rfl⟩ rfl ⟨by decide, by decide⟩ rfl rfl (Nat.le_of_ble_eq_true rfl) rfl dX8_step_49 ?_
            rintro v h' ⟨rfl, rfl⟩
            refine G_iret (ty := .int) rfl rfl ?_ dX8_step_52
            exact Or.inl ⟨p, hp, rfl, Or.inr (Or.inr (Or.inl ⟨c39, rfl, hR⟩))⟩
          · skip
            refine G_aload_n 43 rfl rfl dX8_step_42 ?_
            refine G_iload_n 44 rfl rfl dX8_step_43 ?_
            obtain ⟨⟨h2, h11⟩, hMO⟩ := hrg p hp c14 c26 c39
            refine G_callV 47 rfl [.int (nI p)] (m_turns hR hp h2 h11 hMO) ok_X8_turns ov_X8_turns ml_X8_209 (hR.ob (ci := 8) (i := 0) (by decide) rfl) ⟨by decide, rfl⟩ rfl ⟨by decide, by decide⟩ rfl rfl (Nat.le_of_ble_eq_true rfl) rfl dX8_step_44 ?_
            rintro v h ⟨rfl, hR⟩
            refine G_aload_n 48 rfl rfl dX8_step_47 ?_
            refine G_iload_n 49 rfl rfl dX8_step_48 ?_
            refine G_callV 52 rfl [.int (nI p)] (m_how hR hp) ok_X8_how ov_X8_how ml_X8_212 (hR.ob (ci := 8) (i := 0) (by decide) rfl) ⟨by decide, rfl⟩ rfl ⟨by decide, by decide⟩ rfl rfl (Nat.le_of_ble_eq_true rfl) rfl dX8_step_49 ?_
            rintro v h' ⟨rfl, rfl⟩
            refine G_iret (ty := .int) rfl rfl ?_ dX8_step_52
            exact Or.inl ⟨p, hp, rfl, Or.inr (Or.inr (Or.inr ⟨⟨c14, c26, c39⟩, rfl, hR⟩))⟩
        · skip
          refine G_iconst 30 rfl (4) (by decide) dX8_step_29 ?_
          refine G_iret (ty := .int) rfl rfl ?_ dX8_step_30
          exact Or.inl ⟨p, hp, rfl, Or.inr (Or.inl ⟨c26, rfl, hR⟩)⟩
      · skip
        refine G_iconst 18 rfl (-1) (by decide) dX8_step_17 ?_
        refine G_iret (ty := .int) rfl rfl ?_ dX8_step_18
        first | exact Or.inl ⟨p, hp, rfl, Or.inl ⟨c14, rfl, hR⟩⟩ | exact Or.inr ⟨e, rfl, hR⟩
  · skip
    refine G_ifT_eq 17 (by decide) (by decide) dX8_step_5 ?_
    refine G_iconst 18 rfl (-1) (by decide) dX8_step_17 ?_
    refine G_iret (ty := .int) rfl rfl ?_ dX8_step_18
    first | exact Or.inl ⟨p, hp, rfl, Or.inl ⟨c14, rfl, hR⟩⟩ | exact Or.inr ⟨e, rfl, hR⟩

set_option maxHeartbeats 4000000 in
set_option maxRecDepth 100000 in
theorem m_cancel {E : Ev} {m : Nat} {σ : Sg} {τ : Tu} {h : Hp} (hR : RR E m σ τ h) (i : Int32) (hmy : τ 0 0 = nI m) (hvv : ∀ p, p < m → ∃ v1, τ 16 p = nI v1 ∧ v1 ≤ 1000) {en : Nat} (he : τ 31 0 = nI en) (heb : en ≤ 129) : Cn E mX8_cancel (rk 2 0 0) h [.ref (aM E m), .int i] (fun v h' => (∃ p, p < m ∧ i = nI p ∧ (¬ τ 7 p < 2 ∧ ¬ 11 < τ 7 p) ∧ τ 15 p = 1 ∧ v = some (.int 1) ∧ RR E m σ (mCnc τ p) h') ∨ ((((i < 0 ∨ nI m ≤ i) ∨ ∃ p, p < m ∧ i = nI p ∧ ¬ (¬ τ 7 p < 2 ∧ ¬ 11 < τ 7 p)) ∨ ∃ p, p < m ∧ i = nI p ∧ ¬ τ 15 p = 1) ∧ v = some (.int 0) ∧ RR E m σ τ h')) := by
  refine Cn_of (by decide) rfl (by simp [Value.category]) (Nat.le_of_ble_eq_true rfl) ?_
  have hm := hR.1.1
  refine G_aload_n 1 rfl rfl dX8_cancel_0 ?_
  refine G_iload_n 2 rfl rfl dX8_cancel_1 ?_
  refine G_callV 5 rfl [.int i] (m_isOffering hR i hmy) ok_X8_isOffering ov_X8_isOffering ml_X8_215 (hR.ob (ci := 8) (i := 0) (by decide) rfl) ⟨by decide, rfl⟩ rfl ⟨by decide, by decide⟩ rfl rfl (Nat.le_of_ble_eq_true rfl) rfl dX8_cancel_2 ?_
  rintro v h' ⟨⟨p, hp, rfl, ho1, ho2, rfl⟩ | ⟨e, rfl⟩, rfl⟩
  · skip
    refine G_ifF_eq 8 rfl (by decide) ⟨18, by decide⟩ dX8_cancel_5 ?_
    obtain ⟨v1, hv1, hv1b⟩ := hvv p hp
    · skip
      refine G_aload_n 9 rfl rfl dX8_cancel_8 ?_
      refine G_mR 12 rfl hR fl_X8_35 ia_15 rfl dX8_cancel_9 ?_
      refine G_iload_n 13 rfl rfl dX8_cancel_12 ?_
      refine G_mldV 14 rfl hR (k := 15) p (v := τ 15 p) rfl rfl ia_15 rfl (show p < 16 by omega) dX8_cancel_13 ?_
      refine G_iconst 15 rfl (1) (by decide) dX8_cancel_14 ?_
      refine G_icmp_eq 20 18 rfl (by decide) dX8_cancel_15 (fun c15 => ?_) (fun c15 => ?_)
      · skip
        refine G_aload_n 21 rfl rfl dX8_cancel_20 ?_
        refine G_iload_n 22 rfl rfl dX8_cancel_21 ?_
        refine G_callV 25 rfl [.int (nI p)] (m_goesOut hR hp hv1 hv1b) ok_X8_goesOut ov_X8_goesOut ml_X8_179 (hR.ob (ci := 8) (i := 0) (by decide) rfl) ⟨by decide, rfl⟩ rfl ⟨by decide, by decide⟩ rfl rfl (Nat.le_of_ble_eq_true rfl) rfl dX8_cancel_22 ?_
        rintro v h ⟨rfl, hR⟩
        refine G_aload_n 26 rfl rfl dX8_cancel_25 ?_
        refine G_mR 29 rfl hR fl_X8_9 ia_7 rfl dX8_cancel_26 ?_
        refine G_iload_n 30 rfl rfl dX8_cancel_29 ?_
        refine G_mldV 31 rfl hR (k := 7) p (v := τ 7 p) rfl rfl ia_7 rfl (show p < 16 by omega) dX8_cancel_30 ?_
        refine G_istore_n 32 rfl (by decide) dX8_cancel_31 ?_
        refine G_iload_n 33 rfl rfl dX8_cancel_32 ?_
        refine G_iconst 34 rfl (2) (by decide) dX8_cancel_33 ?_
        refine G_icmp_eq 59 37 rfl (by decide) dX8_cancel_34 (fun c34 => ?_) (fun c34 => ?_)
        · skip
          refine G_aload_n 60 rfl rfl dX8_cancel_59 ?_
          refine G_iload_n 61 rfl rfl dX8_cancel_60 ?_
          refine G_callV 64 rfl [.int (nI p)] (m_withdraws hR hp (e := en) he heb) ok_X8_withdraws ov_X8_withdraws ml_X8_163 (hR.ob (ci := 8) (i := 0) (by decide) rfl) ⟨by decide, rfl⟩ rfl ⟨by decide, by decide⟩ rfl rfl (Nat.le_of_ble_eq_true rfl) rfl dX8_cancel_61 ?_
          rintro v h ⟨rfl, hR⟩
          refine G_iconst 65 rfl (1) (by decide) dX8_cancel_64 ?_
          refine G_iret (ty := .boolean) rfl (by decide) ?_ dX8_cancel_65
          refine Or.inl ⟨p, hp, rfl, ⟨ho1, ho2⟩, c15, rfl, ?_⟩
          unfold mCnc
          rw [if_pos (by first | exact Or.inr (Or.inr (Or.inr (Or.inr c56))) | exact Or.inr (Or.inr (Or.inr (Or.inl c50))) | exact Or.inr (Or.inr (Or.inl c44)) | exact Or.inr (Or.inl c39) | exact Or.inl c34)]
          exact hR
        · skip
          refine G_iload_n 38 rfl rfl dX8_cancel_37 ?_
          refine G_iconst 39 rfl (3) (by decide) dX8_cancel_38 ?_
          refine G_icmp_eq 59 42 rfl (by decide) dX8_cancel_39 (fun c39 => ?_) (fun c39 => ?_)
          · skip
            refine G_aload_n 60 rfl rfl dX8_cancel_59 ?_
            refine G_iload_n 61 rfl rfl dX8_cancel_60 ?_
            refine G_callV 64 rfl [.int (nI p)] (m_withdraws hR hp (e := en) he heb) ok_X8_withdraws ov_X8_withdraws ml_X8_163 (hR.ob (ci := 8) (i := 0) (by decide) rfl) ⟨by decide, rfl⟩ rfl ⟨by decide, by decide⟩ rfl rfl (Nat.le_of_ble_eq_true rfl) rfl dX8_cancel_61 ?_
            rintro v h ⟨rfl, hR⟩
            refine G_iconst 65 rfl (1) (by decide) dX8_cancel_64 ?_
            refine G_iret (ty := .boolean) rfl (by decide) ?_ dX8_cancel_65
            refine Or.inl ⟨p, hp, rfl, ⟨ho1, ho2⟩, c15, rfl, ?_⟩
            unfold mCnc
            rw [if_pos (by first | exact Or.inr (Or.inr (Or.inr (Or.inr c56))) | exact Or.inr (Or.inr (Or.inr (Or.inl c50))) | exact Or.inr (Or.inr (Or.inl c44)) | exact Or.inr (Or.inl c39) | exact Or.inl c34)]
            exact hR
          · skip
            refine G_iload_n 43 rfl rfl dX8_cancel_42 ?_
            refine G_iconst 44 rfl (4) (by decide) dX8_cancel_43 ?_
            refine G_icmp_eq 59 47 rfl (by decide) dX8_cancel_44 (fun c44 => ?_) (fun c44 => ?_)
            · skip
              refine G_aload_n 60 rfl rfl dX8_cancel_59 ?_
              refine G_iload_n 61 rfl rfl dX8_cancel_60 ?_
              refine G_callV 64 rfl [.int (nI p)] (m_withdraws hR hp (e := en) he heb) ok_X8_withdraws ov_X8_withdraws ml_X8_163 (hR.ob (ci := 8) (i := 0) (by decide) rfl) ⟨by decide, rfl⟩ rfl ⟨by decide, by decide⟩ rfl rfl (Nat.le_of_ble_eq_true rfl) rfl dX8_cancel_61 ?_
              rintro v h ⟨rfl, hR⟩
              refine G_iconst 65 rfl (1) (by decide) dX8_cancel_64 ?_
              refine G_iret (ty := .boolean) rfl (by decide) ?_ dX8_cancel_65
              refine Or.inl ⟨p, hp, rfl, ⟨ho1, ho2⟩, c15, rfl, ?_⟩
              unfold mCnc
              rw [if_pos (by first | exact Or.inr (Or.inr (Or.inr (Or.inr c56))) | exact Or.inr (Or.inr (Or.inr (Or.inl c50))) | exact Or.inr (Or.inr (Or.inl c44)) | exact Or.inr (Or.inl c39) | exact Or.inl c34)]
              exact hR
            · skip
              refine G_iload_n 48 rfl rfl dX8_cancel_47 ?_
              refine G_bipush 50 rfl (9) (by decide) dX8_cancel_48 ?_
              refine G_icmp_eq 59 53 rfl (by decide) dX8_cancel_50 (fun c50 => ?_) (fun c50 => ?_)
              · skip
                refine G_aload_n 60 rfl rfl dX8_cancel_59 ?_
                refine G_iload_n 61 rfl rfl dX8_cancel_60 ?_
                refine G_callV 64 rfl [.int (nI p)] (m_withdraws hR hp (e := en) he heb) ok_X8_withdraws ov_X8_withdraws ml_X8_163 (hR.ob (ci := 8) (i := 0) (by decide) rfl) ⟨by decide, rfl⟩ rfl ⟨by decide, by decide⟩ rfl rfl (Nat.le_of_ble_eq_true rfl) rfl dX8_cancel_61 ?_
                rintro v h ⟨rfl, hR⟩
                refine G_iconst 65 rfl (1) (by decide) dX8_cancel_64 ?_
                refine G_iret (ty := .boolean) rfl (by decide) ?_ dX8_cancel_65
                refine Or.inl ⟨p, hp, rfl, ⟨ho1, ho2⟩, c15, rfl, ?_⟩
                unfold mCnc
                rw [if_pos (by first | exact Or.inr (Or.inr (Or.inr (Or.inr c56))) | exact Or.inr (Or.inr (Or.inr (Or.inl c50))) | exact Or.inr (Or.inr (Or.inl c44)) | exact Or.inr (Or.inl c39) | exact Or.inl c34)]
                exact hR
              · skip
                refine G_iload_n 54 rfl rfl dX8_cancel_53 ?_
                refine G_bipush 56 rfl (10) (by decide) dX8_cancel_54 ?_
                refine G_icmp_ne 64 59 rfl (by decide) dX8_cancel_56 (fun c56 => ?_) (fun c56 => ?_)
                · skip
                  refine G_iconst 65 rfl (1) (by decide) dX8_cancel_64 ?_
                  refine G_iret (ty := .boolean) rfl (by decide) ?_ dX8_cancel_65
                  refine Or.inl ⟨p, hp, rfl, ⟨ho1, ho2⟩, c15, rfl, ?_⟩
                  unfold mCnc
                  rw [if_neg (fun z => z.elim c34 (fun z => z.elim c39 (fun z => z.elim c44 (fun z => z.elim c50 c56))))]
                  exact hR
                · skip
                  refine G_aload_n 60 rfl rfl dX8_cancel_59 ?_
                  refine G_iload_n 61 rfl rfl dX8_cancel_60 ?_
                  refine G_callV 64 rfl [.int (nI p)] (m_withdraws hR hp (e := en) he heb) ok_X8_withdraws ov_X8_withdraws ml_X8_163 (hR.ob (ci := 8) (i := 0) (by decide) rfl) ⟨by decide, rfl⟩ rfl ⟨by decide, by decide⟩ rfl rfl (Nat.le_of_ble_eq_true rfl) rfl dX8_cancel_61 ?_
                  rintro v h ⟨rfl, hR⟩
                  refine G_iconst 65 rfl (1) (by decide) dX8_cancel_64 ?_
                  refine G_iret (ty := .boolean) rfl (by decide) ?_ dX8_cancel_65
                  refine Or.inl ⟨p, hp, rfl, ⟨ho1, ho2⟩, c15, rfl, ?_⟩
                  unfold mCnc
                  rw [if_pos (by first | exact Or.inr (Or.inr (Or.inr (Or.inr c56))) | exact Or.inr (Or.inr (Or.inr (Or.inl c50))) | exact Or.inr (Or.inr (Or.inl c44)) | exact Or.inr (Or.inl c39) | exact Or.inl c34)]
                  exact hR
      · skip
        refine G_iconst 19 rfl (0) (by decide) dX8_cancel_18 ?_
        refine G_iret (ty := .boolean) rfl (by decide) ?_ dX8_cancel_19
        exact Or.inr ⟨by first | exact Or.inr ⟨p, hp, rfl, c15⟩ | exact Or.inl e, rfl, hR⟩
  · skip
    refine G_ifT_eq 18 (by decide) (by decide) dX8_cancel_5 ?_
    refine G_iconst 19 rfl (0) (by decide) dX8_cancel_18 ?_
    refine G_iret (ty := .boolean) rfl (by decide) ?_ dX8_cancel_19
    exact Or.inr ⟨by first | exact Or.inr ⟨p, hp, rfl, c15⟩ | exact Or.inl e, rfl, hR⟩

set_option maxHeartbeats 4000000 in
set_option maxRecDepth 100000 in
theorem m_tick {E : Ev} {m : Nat} {σ : Sg} {τ : Tu} {h : Hp} (hR : RR E m σ τ h)  : Cn E mX8_tick (rk 0 0 0) h [.ref (aM E m)] (fun v h' => v = some (.int (τ 1 0 + 1)) ∧ RR E m σ (ut τ 1 0 (τ 1 0 + 1)) h') := by
  refine Cn_of (by decide) rfl (by simp [Value.category]) (Nat.le_of_ble_eq_true rfl) ?_
  have hm := hR.1.1
  refine G_aload_n 1 rfl rfl dX8_tick_0 ?_
  refine G_dup 2 rfl rfl dX8_tick_1 ?_
  refine G_mi 5 rfl hR (v := τ 1 0) rfl fl_X8_130 (by decide) rfl dX8_tick_2 ?_
  refine G_iconst 6 rfl (1) (by decide) dX8_tick_5 ?_
  refine G_iadd 7 rfl dX8_tick_6 ?_
  refine G_pM 10 rfl hR fl_X8_130 (by decide) ⟨rfl, rfl, rfl⟩ dX8_tick_7 (fun h hR => ?_)
  refine G_aload_n 11 rfl rfl dX8_tick_10 ?_
  refine G_mi 14 rfl hR (v := (τ 1 0) + 1) (by simp [ut]) fl_X8_130 (by decide) rfl dX8_tick_11 ?_
  refine G_iret (ty := .int) rfl rfl ?_ dX8_tick_14
  exact ⟨rfl, hR⟩

set_option maxHeartbeats 4000000 in
set_option maxRecDepth 100000 in
theorem m_phase {E : Ev} {m : Nat} {σ : Sg} {τ : Tu} {h : Hp} (hR : RR E m σ τ h) (i : Int32) (hmy : τ 0 0 = nI m) : Cn E mX8_phase (rk 1 0 0) h [.ref (aM E m), .int i] (fun v h' => ((∃ p, p < m ∧ i = nI p ∧ v = some (.int (τ 7 p))) ∨ ((i < 0 ∨ nI m ≤ i) ∧ v = some (.int (-1)))) ∧ h' = h) := by
  refine Cn_of (by decide) rfl (by simp [Value.category]) (Nat.le_of_ble_eq_true rfl) ?_
  have hm := hR.1.1
  refine G_aload_n 1 rfl rfl dX8_phase_0 ?_
  refine G_iload_n 2 rfl rfl dX8_phase_1 ?_
  refine G_callV 5 rfl [.int i] (m_isOne hR (i) hmy) ok_X8_isOne ov_X8_isOne ml_X8_114 (hR.ob (ci := 8) (i := 0) (by decide) rfl) ⟨by decide, rfl⟩ rfl ⟨by decide, by decide⟩ rfl rfl (Nat.le_of_ble_eq_true rfl) rfl dX8_phase_2 ?_
  rintro v h' ⟨⟨p, hp, rfl, rfl⟩ | ⟨e, rfl⟩, rfl⟩
  · skip
    refine G_ifF_eq 8 rfl (by decide) ⟨17, by decide⟩ dX8_phase_5 ?_
    skip
    · skip
      refine G_aload_n 9 rfl rfl dX8_phase_8 ?_
      refine G_mR 12 rfl hR fl_X8_9 ia_7 rfl dX8_phase_9 ?_
      refine G_iload_n 13 rfl rfl dX8_phase_12 ?_
      refine G_mldV 14 rfl hR (k := 7) p (v := τ 7 p) rfl rfl ia_7 rfl (show p < 16 by omega) dX8_phase_13 ?_
      refine G_goto 18 (by decide) dX8_phase_14 ?_
      refine G_iret (ty := .int) rfl rfl ?_ dX8_phase_18
      exact ⟨Or.inl ⟨p, hp, rfl, by simp [*]⟩, rfl⟩
  · skip
    refine G_ifT_eq 17 (by decide) (by decide) dX8_phase_5 ?_
    refine G_iconst 18 rfl (-1) (by decide) dX8_phase_17 ?_
    refine G_iret (ty := .int) rfl rfl ?_ dX8_phase_18
    first | exact ⟨Or.inr ⟨e, rfl⟩, rfl⟩ | exact ⟨Or.inl ⟨p, hp, rfl, by simp [*]⟩, rfl⟩

set_option maxHeartbeats 4000000 in
set_option maxRecDepth 100000 in
theorem m_word {E : Ev} {m : Nat} {σ : Sg} {τ : Tu} {h : Hp} (hR : RR E m σ τ h) (i : Int32) (hmy : τ 0 0 = nI m) (k : Int32) : Cn E mX8_word (rk 1 0 0) h [.ref (aM E m), .int i, .int k] (fun v h' => ((∃ p, p < m ∧ i = nI p ∧ v = some (.int (if k = 0 then τ 15 p else if k = 1 then τ 16 p else if k = 2 then (if τ 15 p = 2 then τ 17 p else -1) else -1))) ∨ ((i < 0 ∨ nI m ≤ i) ∧ v = some (.int (-1)))) ∧ h' = h) := by
  refine Cn_of (by decide) rfl (by simp [Value.category]) (Nat.le_of_ble_eq_true rfl) ?_
  have hm := hR.1.1
  refine G_aload_n 1 rfl rfl dX8_word_0 ?_
  refine G_iload_n 2 rfl rfl dX8_word_1 ?_
  refine G_callV 5 rfl [.int i] (m_isOne hR (i) hmy) ok_X8_isOne ov_X8_isOne ml_X8_114 (hR.ob (ci := 8) (i := 0) (by decide) rfl) ⟨by decide, rfl⟩ rfl ⟨by decide, by decide⟩ rfl rfl (Nat.le_of_ble_eq_true rfl) rfl dX8_word_2 ?_
  rintro v h' ⟨⟨p, hp, rfl, rfl⟩ | ⟨e, rfl⟩, rfl⟩
  · skip
    refine G_ifT_ne 10 (by decide) (by decide) dX8_word_5 ?_
    skip
    · skip
      refine G_iload_n 11 rfl rfl dX8_word_10 ?_
      by_cases k11_0 : k = 0
      · refine G_tableIn 36 dX8_word_11 (by rw [k11_0]; decide) (by rw [k11_0]; decide) (off := 25) (by rw [k11_0]; rfl) (by decide) ?_
        refine G_aload_n 37 rfl rfl dX8_word_36 ?_
        refine G_mR 40 rfl hR fl_X8_35 ia_15 rfl dX8_word_37 ?_
        refine G_iload_n 41 rfl rfl dX8_word_40 ?_
        refine G_mldV 42 rfl hR (k := 15) p (v := τ 15 p) rfl rfl ia_15 rfl (show p < 16 by omega) dX8_word_41 ?_
        refine G_iret (ty := .int) rfl rfl ?_ dX8_word_42
        exact ⟨Or.inl ⟨p, hp, rfl, by simp [*]⟩, rfl⟩
      · skip
        by_cases k11_1 : k = 1
        · refine G_tableIn 43 dX8_word_11 (by rw [k11_1]; decide) (by rw [k11_1]; decide) (off := 32) (by rw [k11_1]; rfl) (by decide) ?_
          refine G_aload_n 44 rfl rfl dX8_word_43 ?_
          refine G_mR 47 rfl hR fl_X8_38 ia_16 rfl dX8_word_44 ?_
          refine G_iload_n 48 rfl rfl dX8_word_47 ?_
          refine G_mldV 49 rfl hR (k := 16) p (v := τ 16 p) rfl rfl ia_16 rfl (show p < 16 by omega) dX8_word_48 ?_
          refine G_iret (ty := .int) rfl rfl ?_ dX8_word_49
          exact ⟨Or.inl ⟨p, hp, rfl, by simp [*]⟩, rfl⟩
        · skip
          by_cases k11_2 : k = 2
          · refine G_tableIn 50 dX8_word_11 (by rw [k11_2]; decide) (by rw [k11_2]; decide) (off := 39) (by rw [k11_2]; rfl) (by decide) ?_
            refine G_aload_n 51 rfl rfl dX8_word_50 ?_
            refine G_mR 54 rfl hR fl_X8_35 ia_15 rfl dX8_word_51 ?_
            refine G_iload_n 55 rfl rfl dX8_word_54 ?_
            refine G_mldV 56 rfl hR (k := 15) p (v := τ 15 p) rfl rfl ia_15 rfl (show p < 16 by omega) dX8_word_55 ?_
            refine G_iconst 57 rfl (2) (by decide) dX8_word_56 ?_
            refine G_icmp_ne 69 60 rfl (by decide) dX8_word_57 (fun c57 => ?_) (fun c57 => ?_)
            · skip
              refine G_iconst 70 rfl (-1) (by decide) dX8_word_69 ?_
              refine G_iret (ty := .int) rfl rfl ?_ dX8_word_70
              first | exact ⟨Or.inr ⟨e, rfl⟩, rfl⟩ | exact ⟨Or.inl ⟨p, hp, rfl, by simp [*]⟩, rfl⟩
            · skip
              refine G_aload_n 61 rfl rfl dX8_word_60 ?_
              refine G_mR 64 rfl hR fl_X8_41 ia_17 rfl dX8_word_61 ?_
              refine G_iload_n 65 rfl rfl dX8_word_64 ?_
              refine G_mldV 66 rfl hR (k := 17) p (v := τ 17 p) rfl rfl ia_17 rfl (show p < 16 by omega) dX8_word_65 ?_
              refine G_goto 70 (by decide) dX8_word_66 ?_
              refine G_iret (ty := .int) rfl rfl ?_ dX8_word_70
              exact ⟨Or.inl ⟨p, hp, rfl, by simp [*]⟩, rfl⟩
          · skip
            refine G_tableOut 71 dX8_word_11 (tb_out (n := 2) (by decide) (fun j hj => by rcases j with _ | _ | _ | j; exact k11_0; exact k11_1; exact k11_2; omega)) (by decide) ?_
            refine G_iconst 72 rfl (-1) (by decide) dX8_word_71 ?_
            refine G_iret (ty := .int) rfl rfl ?_ dX8_word_72
            first | exact ⟨Or.inr ⟨e, rfl⟩, rfl⟩ | exact ⟨Or.inl ⟨p, hp, rfl, by simp [*]⟩, rfl⟩
  · skip
    refine G_ifF_ne 8 rfl (by decide) ⟨10, by decide⟩ dX8_word_5 ?_
    refine G_iconst 9 rfl (-1) (by decide) dX8_word_8 ?_
    refine G_iret (ty := .int) rfl rfl ?_ dX8_word_9
    first | exact ⟨Or.inr ⟨e, rfl⟩, rfl⟩ | exact ⟨Or.inl ⟨p, hp, rfl, by simp [*]⟩, rfl⟩

set_option maxHeartbeats 4000000 in
set_option maxRecDepth 100000 in
theorem m_outcome {E : Ev} {m : Nat} {σ : Sg} {τ : Tu} {h : Hp} (hR : RR E m σ τ h) (i : Int32) (hmy : τ 0 0 = nI m) (k : Int32) : Cn E mX8_outcome (rk 1 0 0) h [.ref (aM E m), .int i, .int k] (fun v h' => ((∃ p, p < m ∧ i = nI p ∧ v = some (.int (if τ 26 p = 0 then -1 else if k = 0 then τ 27 p else if k = 1 then τ 28 p else if k = 2 then τ 29 p else if k = 3 then τ 30 p else -1))) ∨ ((i < 0 ∨ nI m ≤ i) ∧ v = some (.int (-1)))) ∧ h' = h) := by
  refine Cn_of (by decide) rfl (by simp [Value.category]) (Nat.le_of_ble_eq_true rfl) ?_
  have hm := hR.1.1
  refine G_aload_n 1 rfl rfl dX8_outcome_0 ?_
  refine G_iload_n 2 rfl rfl dX8_outcome_1 ?_
  refine G_callV 5 rfl [.int i] (m_isOne hR (i) hmy) ok_X8_isOne ov_X8_isOne ml_X8_114 (hR.ob (ci := 8) (i := 0) (by decide) rfl) ⟨by decide, rfl⟩ rfl ⟨by decide, by decide⟩ rfl rfl (Nat.le_of_ble_eq_true rfl) rfl dX8_outcome_2 ?_
  rintro v h' ⟨⟨p, hp, rfl, rfl⟩ | ⟨e, rfl⟩, rfl⟩
  · skip
    refine G_ifF_eq 8 rfl (by decide) ⟨17, by decide⟩ dX8_outcome_5 ?_
    skip
    · skip
      refine G_aload_n 9 rfl rfl dX8_outcome_8 ?_
      refine G_mR 12 rfl hR fl_X8_68 ia_26 rfl dX8_outcome_9 ?_
      refine G_iload_n 13 rfl rfl dX8_outcome_12 ?_
      refine G_mldZV 14 rfl hR (k := 26) p (v := τ 26 p) rfl rfl ia_26 rfl (show p < 16 by omega) dX8_outcome_13 ?_
      refine G_if_ne 19 17 rfl (by decide) dX8_outcome_14 (fun c14 => ?_) (fun c14 => ?_)
      · skip
        refine G_iload_n 20 rfl rfl dX8_outcome_19 ?_
        by_cases k20_0 : k = 0
        · refine G_tableIn 52 dX8_outcome_20 (by rw [k20_0]; decide) (by rw [k20_0]; decide) (off := 32) (by rw [k20_0]; rfl) (by decide) ?_
          refine G_aload_n 53 rfl rfl dX8_outcome_52 ?_
          refine G_mR 56 rfl hR fl_X8_71 ia_27 rfl dX8_outcome_53 ?_
          refine G_iload_n 57 rfl rfl dX8_outcome_56 ?_
          refine G_mldV 58 rfl hR (k := 27) p (v := τ 27 p) rfl rfl ia_27 rfl (show p < 16 by omega) dX8_outcome_57 ?_
          refine G_iret (ty := .int) rfl rfl ?_ dX8_outcome_58
          exact ⟨Or.inl ⟨p, hp, rfl, by simp [*]⟩, rfl⟩
        · skip
          by_cases k20_1 : k = 1
          · refine G_tableIn 59 dX8_outcome_20 (by rw [k20_1]; decide) (by rw [k20_1]; decide) (off := 39) (by rw [k20_1]; rfl) (by decide) ?_
            refine G_aload_n 60 rfl rfl dX8_outcome_59 ?_
            refine G_mR 63 rfl hR fl_X8_74 ia_28 rfl dX8_outcome_60 ?_
            refine G_iload_n 64 rfl rfl dX8_outcome_63 ?_
            refine G_mldV 65 rfl hR (k := 28) p (v := τ 28 p) rfl rfl ia_28 rfl (show p < 16 by omega) dX8_outcome_64 ?_
            refine G_iret (ty := .int) rfl rfl ?_ dX8_outcome_65
            exact ⟨Or.inl ⟨p, hp, rfl, by simp [*]⟩, rfl⟩
          · skip
            by_cases k20_2 : k = 2
            · refine G_tableIn 66 dX8_outcome_20 (by rw [k20_2]; decide) (by rw [k20_2]; decide) (off := 46) (by rw [k20_2]; rfl) (by decide) ?_
              refine G_aload_n 67 rfl rfl dX8_outcome_66 ?_
              refine G_mR 70 rfl hR fl_X8_77 ia_29 rfl dX8_outcome_67 ?_
              refine G_iload_n 71 rfl rfl dX8_outcome_70 ?_
              refine G_mldV 72 rfl hR (k := 29) p (v := τ 29 p) rfl rfl ia_29 rfl (show p < 16 by omega) dX8_outcome_71 ?_
              refine G_iret (ty := .int) rfl rfl ?_ dX8_outcome_72
              exact ⟨Or.inl ⟨p, hp, rfl, by simp [*]⟩, rfl⟩
            · skip
              by_cases k20_3 : k = 3
              · refine G_tableIn 73 dX8_outcome_20 (by rw [k20_3]; decide) (by rw [k20_3]; decide) (off := 53) (by rw [k20_3]; rfl) (by decide) ?_
                refine G_aload_n 74 rfl rfl dX8_outcome_73 ?_
                refine G_mR 77 rfl hR fl_X8_80 ia_30 rfl dX8_outcome_74 ?_
                refine G_iload_n 78 rfl rfl dX8_outcome_77 ?_
                refine G_mldV 79 rfl hR (k := 30) p (v := τ 30 p) rfl rfl ia_30 rfl (show p < 16 by omega) dX8_outcome_78 ?_
                refine G_iret (ty := .int) rfl rfl ?_ dX8_outcome_79
                exact ⟨Or.inl ⟨p, hp, rfl, by simp [*]⟩, rfl⟩
              · skip
                refine G_tableOut 80 dX8_outcome_20 (tb_out (n := 3) (by decide) (fun j hj => by rcases j with _ | _ | _ | _ | j; exact k20_0; exact k20_1; exact k20_2; exact k20_3; omega)) (by decide) ?_
                refine G_iconst 81 rfl (-1) (by decide) dX8_outcome_80 ?_
                refine G_iret (ty := .int) rfl rfl ?_ dX8_outcome_81
                first | exact ⟨Or.inr ⟨e, rfl⟩, rfl⟩ | exact ⟨Or.inl ⟨p, hp, rfl, by simp [*]⟩, rfl⟩
      · skip
        refine G_iconst 18 rfl (-1) (by decide) dX8_outcome_17 ?_
        refine G_iret (ty := .int) rfl rfl ?_ dX8_outcome_18
        first | exact ⟨Or.inr ⟨e, rfl⟩, rfl⟩ | exact ⟨Or.inl ⟨p, hp, rfl, by simp [*]⟩, rfl⟩
  · skip
    refine G_ifT_eq 17 (by decide) (by decide) dX8_outcome_5 ?_
    refine G_iconst 18 rfl (-1) (by decide) dX8_outcome_17 ?_
    refine G_iret (ty := .int) rfl rfl ?_ dX8_outcome_18
    first | exact ⟨Or.inr ⟨e, rfl⟩, rfl⟩ | exact ⟨Or.inl ⟨p, hp, rfl, by simp [*]⟩, rfl⟩

set_option maxHeartbeats 4000000 in
set_option maxRecDepth 100000 in
theorem m_pair {E : Ev} {m : Nat} {σ : Sg} {τ : Tu} {h : Hp} (hR : RR E m σ τ h) (i k : Int32) {z : Nat} (hz : τ 3 0 = nI z) (hzb : z < 2 ^ 30) : Cn E mX8_pair (rk 0 0 0) h [.ref (aM E m), .int i, .int k] (fun v h' => ((∃ a b, a < 200 ∧ a < z ∧ b < 8 ∧ i = nI a ∧ k = nI b ∧ v = some (.int (τ 38 (8 * a + b)))) ∨ (¬ (∃ a b, a < 200 ∧ a < z ∧ b < 8 ∧ i = nI a ∧ k = nI b) ∧ v = some (.int (-1)))) ∧ h' = h) := by
  refine Cn_of (by decide) rfl (by simp [Value.category]) (Nat.le_of_ble_eq_true rfl) ?_
  have hm := hR.1.1
  refine G_iload_n 1 rfl rfl dX8_pair_0 ?_
  refine G_if_lt 43 4 rfl (by decide) dX8_pair_1 (fun c1 => ?_) (fun c1 => ?_)
  · skip
    refine G_iconst 44 rfl (-1) (by decide) dX8_pair_43 ?_
    refine G_iret (ty := .int) rfl rfl ?_ dX8_pair_44
    exact ⟨Or.inr ⟨fun ⟨a, b, z1, z2, z3, z4, z5⟩ => by
      first
      | exact absurd c1 (by rw [z4]; exact nI_pos (by omega))
      | exact absurd c9 (by rw [z4]; exact nI_ge z2 (by omega))
      | exact absurd c16 (by rw [z4]; exact nI_ge (b := 200) z1 (by omega))
      | exact absurd c20 (by rw [z5]; exact nI_pos (by omega))
      | exact absurd c26 (by rw [z5]; exact nI_ge (b := 8) z3 (by omega)), rfl⟩, rfl⟩
  · skip
    refine G_iload_n 5 rfl rfl dX8_pair_4 ?_
    refine G_aload_n 6 rfl rfl dX8_pair_5 ?_
    refine G_mi 9 rfl hR (v := τ 3 0) rfl fl_X8_173 (by decide) rfl dX8_pair_6 ?_
    rw [hz]
    refine G_icmp_ge 43 12 rfl (by decide) dX8_pair_9 (fun c9 => ?_) (fun c9 => ?_)
    · skip
      refine G_iconst 44 rfl (-1) (by decide) dX8_pair_43 ?_
      refine G_iret (ty := .int) rfl rfl ?_ dX8_pair_44
      exact ⟨Or.inr ⟨fun ⟨a, b, z1, z2, z3, z4, z5⟩ => by
        first
        | exact absurd c1 (by rw [z4]; exact nI_pos (by omega))
        | exact absurd c9 (by rw [z4]; exact nI_ge z2 (by omega))
        | exact absurd c16 (by rw [z4]; exact nI_ge (b := 200) z1 (by omega))
        | exact absurd c20 (by rw [z5]; exact nI_pos (by omega))
        | exact absurd c26 (by rw [z5]; exact nI_ge (b := 8) z3 (by omega)), rfl⟩, rfl⟩
    · skip
      refine G_iload_n 13 rfl rfl dX8_pair_12 ?_
      refine G_sipush 16 rfl (200) (by decide) dX8_pair_13 ?_
      refine G_icmp_ge 43 19 rfl (by decide) dX8_pair_16 (fun c16 => ?_) (fun c16 => ?_)
      · skip
        refine G_iconst 44 rfl (-1) (by decide) dX8_pair_43 ?_
        refine G_iret (ty := .int) rfl rfl ?_ dX8_pair_44
        exact ⟨Or.inr ⟨fun ⟨a, b, z1, z2, z3, z4, z5⟩ => by
          first
          | exact absurd c1 (by rw [z4]; exact nI_pos (by omega))
          | exact absurd c9 (by rw [z4]; exact nI_ge z2 (by omega))
          | exact absurd c16 (by rw [z4]; exact nI_ge (b := 200) z1 (by omega))
          | exact absurd c20 (by rw [z5]; exact nI_pos (by omega))
          | exact absurd c26 (by rw [z5]; exact nI_ge (b := 8) z3 (by omega)), rfl⟩, rfl⟩
      · skip
        refine G_iload_n 20 rfl rfl dX8_pair_19 ?_
        refine G_if_lt 43 23 rfl (by decide) dX8_pair_20 (fun c20 => ?_) (fun c20 => ?_)
        · skip
          refine G_iconst 44 rfl (-1) (by decide) dX8_pair_43 ?_
          refine G_iret (ty := .int) rfl rfl ?_ dX8_pair_44
          exact ⟨Or.inr ⟨fun ⟨a, b, z1, z2, z3, z4, z5⟩ => by
            first
            | exact absurd c1 (by rw [z4]; exact nI_pos (by omega))
            | exact absurd c9 (by rw [z4]; exact nI_ge z2 (by omega))
            | exact absurd c16 (by rw [z4]; exact nI_ge (b := 200) z1 (by omega))
            | exact absurd c20 (by rw [z5]; exact nI_pos (by omega))
            | exact absurd c26 (by rw [z5]; exact nI_ge (b := 8) z3 (by omega)), rfl⟩, rfl⟩
        · skip
          refine G_iload_n 24 rfl rfl dX8_pair_23 ?_
          refine G_bipush 26 rfl (8) (by decide) dX8_pair_24 ?_
          refine G_icmp_ge 43 29 rfl (by decide) dX8_pair_26 (fun c26 => ?_) (fun c26 => ?_)
          · skip
            refine G_iconst 44 rfl (-1) (by decide) dX8_pair_43 ?_
            refine G_iret (ty := .int) rfl rfl ?_ dX8_pair_44
            exact ⟨Or.inr ⟨fun ⟨a, b, z1, z2, z3, z4, z5⟩ => by
              first
              | exact absurd c1 (by rw [z4]; exact nI_pos (by omega))
              | exact absurd c9 (by rw [z4]; exact nI_ge z2 (by omega))
              | exact absurd c16 (by rw [z4]; exact nI_ge (b := 200) z1 (by omega))
              | exact absurd c20 (by rw [z5]; exact nI_pos (by omega))
              | exact absurd c26 (by rw [z5]; exact nI_ge (b := 8) z3 (by omega)), rfl⟩, rfl⟩
          · skip
            refine G_aload_n 30 rfl rfl dX8_pair_29 ?_
            refine G_mR 33 rfl hR fl_X8_101 ia_38 rfl dX8_pair_30 ?_
            refine G_bipush 35 rfl (8) (by decide) dX8_pair_33 ?_
            refine G_iload_n 36 rfl rfl dX8_pair_35 ?_
            refine G_imul 37 rfl dX8_pair_36 ?_
            refine G_iload_n 38 rfl rfl dX8_pair_37 ?_
            refine G_iadd 39 rfl dX8_pair_38 ?_
            obtain ⟨a, ha, ea⟩ := ix_of (n := 200) (by omega) c1 c16
            obtain ⟨b, hb, eb⟩ := ix_of (n := 8) (by omega) c20 c26
            refine G_mldV 40 rfl hR (k := 38) (8 * a + b) (v := τ 38 (8 * a + b)) rfl (by rw [ea, eb]; exact e88 a b) ia_38 rfl (show 8 * a + b < 1600 by omega) dX8_pair_39 ?_
            refine G_goto 44 (by decide) dX8_pair_40 ?_
            refine G_iret (ty := .int) rfl rfl ?_ dX8_pair_44
            exact ⟨Or.inl ⟨a, b, ha, by
              by_cases q : a < z
              · exact q
              · exact absurd (by rw [ea]; exact nI_le (by omega) (by omega)) c9, hb, ea, eb, rfl⟩, rfl⟩

set_option maxHeartbeats 4000000 in
set_option maxRecDepth 100000 in
theorem lp_X8_doubles {E : Ev} {m : Nat} {σ : Sg} {τ : Tu} {h : Hp} (hR : RR E m σ τ h)  : ∀ (r a : Nat) (s : Int32), a + r = 16016 → ctA (dB τ) r a s = ctA (dB τ) 16016 0 0 → G E mX8_doubles (rk 0 0 0) (fun v h' => v = some (.int (ctA (dB τ) 16016 0 0)) ∧ h' = h) 4 [some (.ref (aM E m)), some (.int s), some (.int (nI a))] [] h 0 0 := by
  intro r
  induction r with
  | zero =>
    intro a s ha hv
    have hm := hR.1.1
    refine G_iload_n 5 rfl rfl dX8_doubles_4 ?_
    refine G_sipush 8 rfl (16016) (by decide) dX8_doubles_5 ?_
    refine G_icmpT_ge 54 (nI_le (a := 16016) (by omega) (by omega)) (by decide) dX8_doubles_8 ?_
    refine G_iload_n 55 rfl rfl dX8_doubles_54 ?_
    refine G_iret (ty := .int) rfl rfl ?_ dX8_doubles_55
    exact ⟨by rw [← hv]; rfl, rfl⟩
  | succ r ih =>
    intro a s ha hv
    have hm := hR.1.1
    refine G_iload_n 5 rfl rfl dX8_doubles_4 ?_
    refine G_sipush 8 rfl (16016) (by decide) dX8_doubles_5 ?_
    refine G_icmpF_ge 11 rfl (nI_ge (b := 16016) (by omega) (by omega)) ⟨54, by decide⟩ dX8_doubles_8 ?_
    refine G_iload_n 12 rfl rfl dX8_doubles_11 ?_
    refine G_aload_n 13 rfl rfl dX8_doubles_12 ?_
    refine G_mR 16 rfl hR fl_X8_104 ia_39 rfl dX8_doubles_13 ?_
    refine G_iload_n 17 rfl rfl dX8_doubles_16 ?_
    refine G_mldV 18 rfl hR (k := 39) a (v := τ 39 a) rfl rfl ia_39 rfl (show a < 16016 by omega) dX8_doubles_17 ?_
    refine G_iconst 19 rfl (1) (by decide) dX8_doubles_18 ?_
    refine G_icmp_gt 41 22 rfl (by decide) dX8_doubles_19 (fun c19 => ?_) (fun c19 => ?_)
    · skip
      refine G_iconst 42 rfl (1) (by decide) dX8_doubles_41 ?_
      refine G_goto 46 (by decide) dX8_doubles_42 ?_
      refine G_iadd 47 rfl dX8_doubles_46 ?_
      refine G_istore_n 48 rfl (by decide) dX8_doubles_47 ?_
      refine G_iinc 51 rfl (nI (a + 1)) rfl (inc1 a) (by decide) dX8_doubles_48 ?_
      refine G_goto 4 (by decide) dX8_doubles_51 ?_
      exact ih (a + 1) _ (by omega) (by rw [← hv, ctA_succ]; congr 1; unfold dB; simp [*])
    · skip
      refine G_aload_n 23 rfl rfl dX8_doubles_22 ?_
      refine G_mR 26 rfl hR fl_X8_104 ia_39 rfl dX8_doubles_23 ?_
      refine G_iload_n 27 rfl rfl dX8_doubles_26 ?_
      refine G_mldV 28 rfl hR (k := 39) a (v := τ 39 a) rfl rfl ia_39 rfl (show a < 16016 by omega) dX8_doubles_27 ?_
      refine G_iconst 29 rfl (1) (by decide) dX8_doubles_28 ?_
      refine G_icmp_ne 45 32 rfl (by decide) dX8_doubles_29 (fun c29 => ?_) (fun c29 => ?_)
      · skip
        refine G_iconst 46 rfl (0) (by decide) dX8_doubles_45 ?_
        refine G_iadd 47 rfl dX8_doubles_46 ?_
        refine G_istore_n 48 rfl (by decide) dX8_doubles_47 ?_
        refine G_iinc 51 rfl (nI (a + 1)) rfl (inc1 a) (by decide) dX8_doubles_48 ?_
        refine G_goto 4 (by decide) dX8_doubles_51 ?_
        exact ih (a + 1) _ (by omega) (by rw [← hv, ctA_succ]; congr 1; unfold dB; simp [*, add0])
      · skip
        refine G_aload_n 33 rfl rfl dX8_doubles_32 ?_
        refine G_mR 36 rfl hR fl_X8_107 ia_40 rfl dX8_doubles_33 ?_
        refine G_iload_n 37 rfl rfl dX8_doubles_36 ?_
        refine G_mldZV 38 rfl hR (k := 40) a (v := τ 40 a) rfl rfl ia_40 rfl (show a < 16016 by omega) dX8_doubles_37 ?_
        refine G_if_eq 45 41 rfl (by decide) dX8_doubles_38 (fun c38 => ?_) (fun c38 => ?_)
        · skip
          refine G_iconst 46 rfl (0) (by decide) dX8_doubles_45 ?_
          refine G_iadd 47 rfl dX8_doubles_46 ?_
          refine G_istore_n 48 rfl (by decide) dX8_doubles_47 ?_
          refine G_iinc 51 rfl (nI (a + 1)) rfl (inc1 a) (by decide) dX8_doubles_48 ?_
          refine G_goto 4 (by decide) dX8_doubles_51 ?_
          exact ih (a + 1) _ (by omega) (by rw [← hv, ctA_succ]; congr 1; unfold dB; simp [*, add0])
        · skip
          refine G_iconst 42 rfl (1) (by decide) dX8_doubles_41 ?_
          refine G_goto 46 (by decide) dX8_doubles_42 ?_
          refine G_iadd 47 rfl dX8_doubles_46 ?_
          refine G_istore_n 48 rfl (by decide) dX8_doubles_47 ?_
          refine G_iinc 51 rfl (nI (a + 1)) rfl (inc1 a) (by decide) dX8_doubles_48 ?_
          refine G_goto 4 (by decide) dX8_doubles_51 ?_
          exact ih (a + 1) _ (by omega) (by rw [← hv, ctA_succ]; congr 1; unfold dB; simp [*])

set_option maxHeartbeats 4000000 in
set_option maxRecDepth 100000 in
theorem m_doubles {E : Ev} {m : Nat} {σ : Sg} {τ : Tu} {h : Hp} (hR : RR E m σ τ h)  : Cn E mX8_doubles (rk 0 0 0) h [.ref (aM E m)] (fun v h' => v = some (.int (ctA (dB τ) 16016 0 0)) ∧ h' = h) := by
  refine Cn_of (by decide) rfl (by simp [Value.category]) (Nat.le_of_ble_eq_true rfl) ?_
  have hm := hR.1.1
  refine G_iconst 1 rfl (0) (by decide) dX8_doubles_0 ?_
  refine G_istore_n 2 rfl (by decide) dX8_doubles_1 ?_
  refine G_iconst 3 rfl (0) (by decide) dX8_doubles_2 ?_
  refine G_istore_n 4 rfl (by decide) dX8_doubles_3 ?_
  exact lp_X8_doubles hR 16016 0 0 (by omega) rfl

set_option maxHeartbeats 4000000 in
set_option maxRecDepth 100000 in
theorem m_isUnmet {E : Ev} {m : Nat} {σ : Sg} {τ : Tu} {h : Hp} (hR : RR E m σ τ h) {p : Nat} (hp : p < m) : Cn E mX8_isUnmet (rk 0 0 0) h [.ref (aM E m), .int (nI p)] (fun v h' => ((τ 7 p = 10 ∧ τ 15 p = 1) ∧ v = some (.int 1) ∨ ¬ (τ 7 p = 10 ∧ τ 15 p = 1) ∧ v = some (.int 0)) ∧ h' = h) := by
  refine Cn_of (by decide) rfl (by simp [Value.category]) (Nat.le_of_ble_eq_true rfl) ?_
  have hm := hR.1.1
  refine G_aload_n 1 rfl rfl dX8_isUnmet_0 ?_
  refine G_mR 4 rfl hR fl_X8_9 ia_7 rfl dX8_isUnmet_1 ?_
  refine G_iload_n 5 rfl rfl dX8_isUnmet_4 ?_
  refine G_mldV 6 rfl hR (k := 7) p (v := τ 7 p) rfl rfl ia_7 rfl (show p < 16 by omega) dX8_isUnmet_5 ?_
  refine G_bipush 8 rfl (10) (by decide) dX8_isUnmet_6 ?_
  refine G_icmp_ne 25 11 rfl (by decide) dX8_isUnmet_8 (fun c8 => ?_) (fun c8 => ?_)
  · skip
    refine G_iconst 26 rfl (0) (by decide) dX8_isUnmet_25 ?_
    refine G_iret (ty := .boolean) rfl (by decide) ?_ dX8_isUnmet_26
    exact ⟨Or.inr ⟨by first | omega | simp_all | (simp_all; omega), rfl⟩, rfl⟩
  · skip
    refine G_aload_n 12 rfl rfl dX8_isUnmet_11 ?_
    refine G_mR 15 rfl hR fl_X8_35 ia_15 rfl dX8_isUnmet_12 ?_
    refine G_iload_n 16 rfl rfl dX8_isUnmet_15 ?_
    refine G_mldV 17 rfl hR (k := 15) p (v := τ 15 p) rfl rfl ia_15 rfl (show p < 16 by omega) dX8_isUnmet_16 ?_
    refine G_iconst 18 rfl (1) (by decide) dX8_isUnmet_17 ?_
    refine G_icmp_ne 25 21 rfl (by decide) dX8_isUnmet_18 (fun c18 => ?_) (fun c18 => ?_)
    · skip
      refine G_iconst 26 rfl (0) (by decide) dX8_isUnmet_25 ?_
      refine G_iret (ty := .boolean) rfl (by decide) ?_ dX8_isUnmet_26
      exact ⟨Or.inr ⟨by first | omega | simp_all | (simp_all; omega), rfl⟩, rfl⟩
    · skip
      refine G_iconst 22 rfl (1) (by decide) dX8_isUnmet_21 ?_
      refine G_goto 26 (by decide) dX8_isUnmet_22 ?_
      refine G_iret (ty := .boolean) rfl (by decide) ?_ dX8_isUnmet_26
      exact ⟨Or.inl ⟨by first | omega | simp_all | (simp_all; omega), rfl⟩, rfl⟩

set_option maxHeartbeats 4000000 in
set_option maxRecDepth 100000 in
theorem lp_X8_held {E : Ev} {m : Nat} {σ : Sg} {τ : Tu} {h : Hp} (hR : RR E m σ τ h)  (hmy : τ 0 0 = nI m) (hcl : ∀ p, p < m → ∃ c, τ 17 p = nI c ∧ c < 16) : ∀ (r a : Nat) (s : Int32), a + r = m → ctA (mhB τ) r a s = ctA (mhB τ) m 0 0 → G E mX8_held (rk 0 0 0) (fun v h' => v = some (.int (ctA (mhB τ) m 0 0)) ∧ h' = h) 4 [some (.ref (aM E m)), some (.int s), some (.int (nI a)), none] [] h 0 0 := by
  intro r
  induction r with
  | zero =>
    intro a s ha hv
    have hm := hR.1.1
    refine G_iload_n 5 rfl rfl dX8_held_4 ?_
    refine G_aload_n 6 rfl rfl dX8_held_5 ?_
    refine G_mi 9 rfl hR (v := τ 0 0) rfl fl_X8_110 (by decide) rfl dX8_held_6 ?_
    refine G_icmpT_ge 74 (by rw [hmy]; exact nI_le (by omega) (by omega)) (by decide) dX8_held_9 ?_
    refine G_iload_n 75 rfl rfl dX8_held_74 ?_
    refine G_iret (ty := .int) rfl rfl ?_ dX8_held_75
    exact ⟨by rw [← hv]; rfl, rfl⟩
  | succ r ih =>
    intro a s ha hv
    have hm := hR.1.1
    obtain ⟨c, hc0, hc16⟩ := hcl a (by omega)
    have hcl1 : cN (τ 17 a) = c := by rw [hc0]; exact cN_nI (by omega)
    refine G_iload_n 5 rfl rfl dX8_held_4 ?_
    refine G_aload_n 6 rfl rfl dX8_held_5 ?_
    refine G_mi 9 rfl hR (v := τ 0 0) rfl fl_X8_110 (by decide) rfl dX8_held_6 ?_
    refine G_icmpF_ge 12 rfl (by rw [hmy]; exact nI_ge (by omega) (by omega)) ⟨74, by decide⟩ dX8_held_9 ?_
    refine G_aload_n 13 rfl rfl dX8_held_12 ?_
    refine G_mR 16 rfl hR fl_X8_35 ia_15 rfl dX8_held_13 ?_
    refine G_iload_n 17 rfl rfl dX8_held_16 ?_
    refine G_mldV 18 rfl hR (k := 15) a (v := τ 15 a) rfl rfl ia_15 rfl (show a < 16 by omega) dX8_held_17 ?_
    refine G_iconst 19 rfl (2) (by decide) dX8_held_18 ?_
    refine G_icmp_eq 25 22 rfl (by decide) dX8_held_19 (fun c19 => ?_) (fun c19 => ?_)
    · skip
      refine G_aload_n 26 rfl rfl dX8_held_25 ?_
      refine G_mR 29 rfl hR fl_X8_9 ia_7 rfl dX8_held_26 ?_
      refine G_aload_n 30 rfl rfl dX8_held_29 ?_
      refine G_mR 33 rfl hR fl_X8_41 ia_17 rfl dX8_held_30 ?_
      refine G_iload_n 34 rfl rfl dX8_held_33 ?_
      refine G_mldV 35 rfl hR (k := 17) a (v := τ 17 a) rfl rfl ia_17 rfl (show a < 16 by omega) dX8_held_34 ?_
      refine G_mldV 36 rfl hR (k := 7) c (v := τ 7 c) rfl hc0 ia_7 rfl (show c < 16 by omega) dX8_held_35 ?_
      refine G_istore_n 37 rfl (by decide) dX8_held_36 ?_
      refine G_iload_n 38 rfl rfl dX8_held_37 ?_
      refine G_iload_n 39 rfl rfl dX8_held_38 ?_
      refine G_iconst 40 rfl (5) (by decide) dX8_held_39 ?_
      refine G_icmp_eq 61 43 rfl (by decide) dX8_held_40 (fun c40 => ?_) (fun c40 => ?_)
      · skip
        refine G_iconst 62 rfl (0) (by decide) dX8_held_61 ?_
        refine G_goto 66 (by decide) dX8_held_62 ?_
        refine G_iadd 67 rfl dX8_held_66 ?_
        refine G_istore_n 68 rfl (by decide) dX8_held_67 ?_
        refine G_iinc 71 rfl (nI (a + 1)) rfl (inc1 a) (by decide) dX8_held_68 ?_
        refine G_goto 4 (by decide) dX8_held_71 ?_
        refine G_lw [some (.ref (aM E m)), some (.int (s + 0)), some (.int (nI (a + 1))), none] (by intro x y hx; rcases x with _ | _ | _ | _ | x <;> first | exact hx | cases hx) ?_
        exact ih (a + 1) _ (by omega) (by rw [← hv, ctA_succ]; congr 1; unfold mhB; rw [hcl1]; simp [*, add0])
      · skip
        refine G_iload_n 44 rfl rfl dX8_held_43 ?_
        refine G_bipush 46 rfl (6) (by decide) dX8_held_44 ?_
        refine G_icmp_eq 61 49 rfl (by decide) dX8_held_46 (fun c46 => ?_) (fun c46 => ?_)
        · skip
          refine G_iconst 62 rfl (0) (by decide) dX8_held_61 ?_
          refine G_goto 66 (by decide) dX8_held_62 ?_
          refine G_iadd 67 rfl dX8_held_66 ?_
          refine G_istore_n 68 rfl (by decide) dX8_held_67 ?_
          refine G_iinc 71 rfl (nI (a + 1)) rfl (inc1 a) (by decide) dX8_held_68 ?_
          refine G_goto 4 (by decide) dX8_held_71 ?_
          refine G_lw [some (.ref (aM E m)), some (.int (s + 0)), some (.int (nI (a + 1))), none] (by intro x y hx; rcases x with _ | _ | _ | _ | x <;> first | exact hx | cases hx) ?_
          exact ih (a + 1) _ (by omega) (by rw [← hv, ctA_succ]; congr 1; unfold mhB; rw [hcl1]; simp [*, add0])
        · skip
          refine G_iload_n 50 rfl rfl dX8_held_49 ?_
          refine G_bipush 52 rfl (7) (by decide) dX8_held_50 ?_
          refine G_icmp_eq 61 55 rfl (by decide) dX8_held_52 (fun c52 => ?_) (fun c52 => ?_)
          · skip
            refine G_iconst 62 rfl (0) (by decide) dX8_held_61 ?_
            refine G_goto 66 (by decide) dX8_held_62 ?_
            refine G_iadd 67 rfl dX8_held_66 ?_
            refine G_istore_n 68 rfl (by decide) dX8_held_67 ?_
            refine G_iinc 71 rfl (nI (a + 1)) rfl (inc1 a) (by decide) dX8_held_68 ?_
            refine G_goto 4 (by decide) dX8_held_71 ?_
            refine G_lw [some (.ref (aM E m)), some (.int (s + 0)), some (.int (nI (a + 1))), none] (by intro x y hx; rcases x with _ | _ | _ | _ | x <;> first | exact hx | cases hx) ?_
            exact ih (a + 1) _ (by omega) (by rw [← hv, ctA_succ]; congr 1; unfold mhB; rw [hcl1]; simp [*, add0])
          · skip
            refine G_iload_n 56 rfl rfl dX8_held_55 ?_
            refine G_bipush 58 rfl (8) (by decide) dX8_held_56 ?_
            refine G_icmp_ne 65 61 rfl (by decide) dX8_held_58 (fun c58 => ?_) (fun c58 => ?_)
            · skip
              refine G_iconst 66 rfl (1) (by decide) dX8_held_65 ?_
              refine G_iadd 67 rfl dX8_held_66 ?_
              refine G_istore_n 68 rfl (by decide) dX8_held_67 ?_
              refine G_iinc 71 rfl (nI (a + 1)) rfl (inc1 a) (by decide) dX8_held_68 ?_
              refine G_goto 4 (by decide) dX8_held_71 ?_
              refine G_lw [some (.ref (aM E m)), some (.int (s + 1)), some (.int (nI (a + 1))), none] (by intro x y hx; rcases x with _ | _ | _ | _ | x <;> first | exact hx | cases hx) ?_
              exact ih (a + 1) _ (by omega) (by rw [← hv, ctA_succ]; congr 1; unfold mhB; rw [hcl1]; simp [*, add0])
            · skip
              refine G_iconst 62 rfl (0) (by decide) dX8_held_61 ?_
              refine G_goto 66 (by decide) dX8_held_62 ?_
              refine G_iadd 67 rfl dX8_held_66 ?_
              refine G_istore_n 68 rfl (by decide) dX8_held_67 ?_
              refine G_iinc 71 rfl (nI (a + 1)) rfl (inc1 a) (by decide) dX8_held_68 ?_
              refine G_goto 4 (by decide) dX8_held_71 ?_
              refine G_lw [some (.ref (aM E m)), some (.int (s + 0)), some (.int (nI (a + 1))), none] (by intro x y hx; rcases x with _ | _ | _ | _ | x <;> first | exact hx | cases hx) ?_
              exact ih (a + 1) _ (by omega) (by rw [← hv, ctA_succ]; congr 1; unfold mhB; rw [hcl1]; simp [*, add0])
    · skip
      refine G_goto 68 (by decide) dX8_held_22 ?_
      refine G_iinc 71 rfl (nI (a + 1)) rfl (inc1 a) (by decide) dX8_held_68 ?_
      refine G_goto 4 (by decide) dX8_held_71 ?_
      refine G_lw [some (.ref (aM E m)), some (.int (s)), some (.int (nI (a + 1))), none] (by intro x y hx; rcases x with _ | _ | _ | _ | x <;> first | exact hx | cases hx) ?_
      exact ih (a + 1) _ (by omega) (by rw [← hv, ctA_succ]; congr 1; unfold mhB; rw [hcl1]; simp [*, add0])

set_option maxHeartbeats 4000000 in
set_option maxRecDepth 100000 in
theorem m_held {E : Ev} {m : Nat} {σ : Sg} {τ : Tu} {h : Hp} (hR : RR E m σ τ h)  (hmy : τ 0 0 = nI m) (hcl : ∀ p, p < m → ∃ c, τ 17 p = nI c ∧ c < 16) : Cn E mX8_held (rk 0 0 0) h [.ref (aM E m)] (fun v h' => v = some (.int (ctA (mhB τ) m 0 0)) ∧ h' = h) := by
  refine Cn_of (by decide) rfl (by simp [Value.category]) (Nat.le_of_ble_eq_true rfl) ?_
  have hm := hR.1.1
  refine G_iconst 1 rfl (0) (by decide) dX8_held_0 ?_
  refine G_istore_n 2 rfl (by decide) dX8_held_1 ?_
  refine G_iconst 3 rfl (0) (by decide) dX8_held_2 ?_
  refine G_istore_n 4 rfl (by decide) dX8_held_3 ?_
  refine G_lw [some (.ref (aM E m)), some (.int (0)), some (.int (nI 0)), none] (by intro x y hx; rcases x with _ | _ | _ | _ | x <;> first | exact hx | cases hx) ?_
  exact lp_X8_held hR hmy hcl m 0 0 (by omega) rfl

set_option maxHeartbeats 4000000 in
set_option maxRecDepth 100000 in
theorem lp_X8_count {E : Ev} {m : Nat} {σ : Sg} {τ : Tu} {h : Hp} (hR : RR E m σ τ h)  (hmy : τ 0 0 = nI m) {k : Int32} (hk : k = 1) : ∀ (r a : Nat) (s : Int32), a + r = m → ctA (fun i => !decide (τ 7 i = 0)) r a s = ctA (fun i => !decide (τ 7 i = 0)) m 0 0 → G E mX8_count (rk 0 0 0) (fun v h' => v = some (.int (mCt τ m k)) ∧ h' = h) 59 [some (.ref (aM E m)), some (.int k), some (.int s), some (.int (nI a))] [] h 0 0 := by
  intro r
  induction r with
  | zero =>
    intro a s ha hv
    have hm := hR.1.1
    refine G_iload_n 60 rfl rfl dX8_count_59 ?_
    refine G_aload_n 61 rfl rfl dX8_count_60 ?_
    refine G_mi 64 rfl hR (v := τ 0 0) rfl fl_X8_110 (by decide) rfl dX8_count_61 ?_
    refine G_icmpT_ge 90 (by rw [hmy]; exact nI_le (by omega) (by omega)) (by decide) dX8_count_64 ?_
    refine G_iload_n 91 rfl rfl dX8_count_90 ?_
    refine G_iret (ty := .int) rfl rfl ?_ dX8_count_91
    exact ⟨by unfold mCt; rw [hk, if_neg (by decide), if_pos rfl, ← hv]; rfl, rfl⟩
  | succ r ih =>
    intro a s ha hv
    have hm := hR.1.1
    refine G_iload_n 60 rfl rfl dX8_count_59 ?_
    refine G_aload_n 61 rfl rfl dX8_count_60 ?_
    refine G_mi 64 rfl hR (v := τ 0 0) rfl fl_X8_110 (by decide) rfl dX8_count_61 ?_
    refine G_icmpF_ge 67 rfl (by rw [hmy]; exact nI_ge (by omega) (by omega)) ⟨90, by decide⟩ dX8_count_64 ?_
    refine G_iload_n 68 rfl rfl dX8_count_67 ?_
    refine G_aload_n 69 rfl rfl dX8_count_68 ?_
    refine G_mR 72 rfl hR fl_X8_9 ia_7 rfl dX8_count_69 ?_
    refine G_iload_n 73 rfl rfl dX8_count_72 ?_
    refine G_mldV 74 rfl hR (k := 7) a (v := τ 7 a) rfl rfl ia_7 rfl (show a < 16 by omega) dX8_count_73 ?_
    refine G_if_eq 81 77 rfl (by decide) dX8_count_74 (fun c74 => ?_) (fun c74 => ?_)
    · skip
      refine G_iconst 82 rfl (0) (by decide) dX8_count_81 ?_
      refine G_iadd 83 rfl dX8_count_82 ?_
      refine G_istore_n 84 rfl (by decide) dX8_count_83 ?_
      refine G_iinc 87 rfl (nI (a + 1)) rfl (inc1 a) (by decide) dX8_count_84 ?_
      refine G_goto 59 (by decide) dX8_count_87 ?_
      exact ih (a + 1) _ (by omega) (by rw [← hv, ctA_succ]; congr 1; simp [*, add0])
    · skip
      refine G_iconst 78 rfl (1) (by decide) dX8_count_77 ?_
      refine G_goto 82 (by decide) dX8_count_78 ?_
      refine G_iadd 83 rfl dX8_count_82 ?_
      refine G_istore_n 84 rfl (by decide) dX8_count_83 ?_
      refine G_iinc 87 rfl (nI (a + 1)) rfl (inc1 a) (by decide) dX8_count_84 ?_
      refine G_goto 59 (by decide) dX8_count_87 ?_
      exact ih (a + 1) _ (by omega) (by rw [← hv, ctA_succ]; congr 1; simp [*, add0])

set_option maxHeartbeats 4000000 in
set_option maxRecDepth 100000 in
theorem m_count {E : Ev} {m : Nat} {σ : Sg} {τ : Tu} {h : Hp} (hR : RR E m σ τ h) (k : Int32) (hmy : τ 0 0 = nI m) : Cn E mX8_count (rk 0 0 0) h [.ref (aM E m), .int k] (fun v h' => v = some (.int (mCt τ m k)) ∧ h' = h) := by
  refine Cn_of (by decide) rfl (by simp [Value.category]) (Nat.le_of_ble_eq_true rfl) ?_
  have hm := hR.1.1
  refine G_iconst 1 rfl (0) (by decide) dX8_count_0 ?_
  refine G_istore_n 2 rfl (by decide) dX8_count_1 ?_
  refine G_iload_n 3 rfl rfl dX8_count_2 ?_
  by_cases k3_0 : k = 0
  · refine G_tableIn 52 dX8_count_3 (by rw [k3_0]; decide) (by rw [k3_0]; decide) (off := 49) (by rw [k3_0]; rfl) (by decide) ?_
    refine G_aload_n 53 rfl rfl dX8_count_52 ?_
    refine G_mi 56 rfl hR (v := τ 0 0) rfl fl_X8_110 (by decide) rfl dX8_count_53 ?_
    refine G_iret (ty := .int) rfl rfl ?_ dX8_count_56
    exact ⟨by unfold mCt; simp [*], rfl⟩
  · skip
    by_cases k3_1 : k = 1
    · refine G_tableIn 57 dX8_count_3 (by rw [k3_1]; decide) (by rw [k3_1]; decide) (off := 54) (by rw [k3_1]; rfl) (by decide) ?_
      refine G_iconst 58 rfl (0) (by decide) dX8_count_57 ?_
      refine G_istore_n 59 rfl (by decide) dX8_count_58 ?_
      exact lp_X8_count hR hmy k3_1 m 0 0 (by omega) rfl
    · skip
      by_cases k3_2 : k = 2
      · refine G_tableIn 92 dX8_count_3 (by rw [k3_2]; decide) (by rw [k3_2]; decide) (off := 89) (by rw [k3_2]; rfl) (by decide) ?_
        refine G_aload_n 93 rfl rfl dX8_count_92 ?_
        refine G_mi 96 rfl hR (v := τ 3 0) rfl fl_X8_173 (by decide) rfl dX8_count_93 ?_
        refine G_iret (ty := .int) rfl rfl ?_ dX8_count_96
        exact ⟨by unfold mCt; simp [*], rfl⟩
      · skip
        by_cases k3_3 : k = 3
        · refine G_tableIn 97 dX8_count_3 (by rw [k3_3]; decide) (by rw [k3_3]; decide) (off := 94) (by rw [k3_3]; rfl) (by decide) ?_
          refine G_aload_n 98 rfl rfl dX8_count_97 ?_
          refine G_mi 101 rfl hR (v := τ 1 0) rfl fl_X8_130 (by decide) rfl dX8_count_98 ?_
          refine G_iret (ty := .int) rfl rfl ?_ dX8_count_101
          exact ⟨by unfold mCt; simp [*], rfl⟩
        · skip
          by_cases k3_4 : k = 4
          · refine G_tableIn 102 dX8_count_3 (by rw [k3_4]; decide) (by rw [k3_4]; decide) (off := 99) (by rw [k3_4]; rfl) (by decide) ?_
            refine G_aload_n 103 rfl rfl dX8_count_102 ?_
            refine G_mi 106 rfl hR (v := τ 2 0) rfl fl_X8_176 (by decide) rfl dX8_count_103 ?_
            refine G_iret (ty := .int) rfl rfl ?_ dX8_count_106
            exact ⟨by unfold mCt; simp [*], rfl⟩
          · skip
            by_cases k3_5 : k = 5
            · refine G_tableIn 107 dX8_count_3 (by rw [k3_5]; decide) (by rw [k3_5]; decide) (off := 104) (by rw [k3_5]; rfl) (by decide) ?_
              refine G_aload_n 108 rfl rfl dX8_count_107 ?_
              refine G_mi 111 rfl hR (v := τ 31 0) rfl fl_X8_136 (by decide) rfl dX8_count_108 ?_
              refine G_iret (ty := .int) rfl rfl ?_ dX8_count_111
              exact ⟨by unfold mCt; simp [*], rfl⟩
            · skip
              by_cases k3_6 : k = 6
              · refine G_tableIn 112 dX8_count_3 (by rw [k3_6]; decide) (by rw [k3_6]; decide) (off := 109) (by rw [k3_6]; rfl) (by decide) ?_
                refine G_aload_n 113 rfl rfl dX8_count_112 ?_
                refine G_mi 116 rfl hR (v := τ 4 0) rfl fl_X8_133 (by decide) rfl dX8_count_113 ?_
                refine G_iret (ty := .int) rfl rfl ?_ dX8_count_116
                exact ⟨by unfold mCt; simp [*], rfl⟩
              · skip
                by_cases k3_7 : k = 7
                · refine G_tableIn 117 dX8_count_3 (by rw [k3_7]; decide) (by rw [k3_7]; decide) (off := 114) (by rw [k3_7]; rfl) (by decide) ?_
                  refine G_aload_n 118 rfl rfl dX8_count_117 ?_
                  refine G_mi 121 rfl hR (v := τ 5 0) rfl fl_X8_143 (by decide) rfl dX8_count_118 ?_
                  refine G_iret (ty := .int) rfl rfl ?_ dX8_count_121
                  exact ⟨by unfold mCt; simp [*], rfl⟩
                · skip
                  by_cases k3_8 : k = 8
                  · refine G_tableIn 122 dX8_count_3 (by rw [k3_8]; decide) (by rw [k3_8]; decide) (off := 119) (by rw [k3_8]; rfl) (by decide) ?_
                    refine G_aload_n 123 rfl rfl dX8_count_122 ?_
                    refine G_mi 126 rfl hR (v := τ 6 0) rfl fl_X8_146 (by decide) rfl dX8_count_123 ?_
                    refine G_iret (ty := .int) rfl rfl ?_ dX8_count_126
                    exact ⟨by unfold mCt; simp [*], rfl⟩
                  · skip
                    refine G_tableOut 127 dX8_count_3 (tb_out (n := 8) (by decide) (fun j hj => by rcases j with _ | _ | _ | _ | _ | _ | _ | _ | _ | j; exact k3_0; exact k3_1; exact k3_2; exact k3_3; exact k3_4; exact k3_5; exact k3_6; exact k3_7; exact k3_8; omega)) (by decide) ?_
                    refine G_iconst 128 rfl (-1) (by decide) dX8_count_127 ?_
                    refine G_iret (ty := .int) rfl rfl ?_ dX8_count_128
                    exact ⟨by unfold mCt; simp [*], rfl⟩

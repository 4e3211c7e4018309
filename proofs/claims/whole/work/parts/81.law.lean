theorem lw_sub {Z : Nat} (hZ : Z ≤ 3073) : (nI Z - 6).toInt = (Z : Int) - 6 := by
  rcases Nat.lt_or_ge Z 6 with q | q
  · rcases Z with _ | _ | _ | _ | _ | _ | Z
    · decide
    · decide
    · decide
    · decide
    · decide
    · decide
    · omega
  · obtain ⟨z, rfl⟩ : ∃ z, Z = z + 6 := ⟨Z - 6, by omega⟩
    have e : nI (z + 6) - 6 = nI z := by
      rw [← nI_add z 6]
      exact Int32.add_sub_cancel _ _
    rw [e, nI_toInt (by omega)]
    omega
theorem lw_gt {a Z : Nat} (ha : a ≤ 4000) (hZ : Z ≤ 3073) (h : Z < a + 6) : nI Z - 6 < nI a := by
  rw [Int32.lt_iff_toInt_lt, lw_sub hZ, nI_toInt (by omega)]
  omega
theorem lw_le {a Z : Nat} (ha : a ≤ 4000) (hZ : Z ≤ 3073) (h : a + 6 ≤ Z) : ¬ nI Z - 6 < nI a := by
  rw [Int32.lt_iff_toInt_lt, lw_sub hZ, nI_toInt (by omega)]
  omega
/-- how many processes there are -/
theorem many_of (k : Int32) : ∃ m : Nat, (2 ≤ m ∧ m ≤ 16) ∧ (if 2 < (if k < 16 then k else 16) then (if k < 16 then k else 16) else 2) = nI m ∧ (if k < 2 then 2 else if 16 < k then 16 else k) = nI m := by
  have i2 : (2 : Int32).toInt = 2 := by decide
  have i16 : (16 : Int32).toInt = 16 := by decide
  by_cases h2 : k < 2
  · refine ⟨2, by omega, ?_, ?_⟩
    · have h16 : k < 16 := by rw [Int32.lt_iff_toInt_lt] at h2 ⊢; omega
      have h2' : ¬ 2 < k := by rw [Int32.lt_iff_toInt_lt] at h2 ⊢; omega
      rw [if_pos h16, if_neg h2']; rfl
    · rw [if_pos h2]; rfl
  · by_cases h16 : 16 < k
    · refine ⟨16, by omega, ?_, ?_⟩
      · have h16' : ¬ k < 16 := by rw [Int32.lt_iff_toInt_lt] at h16 ⊢; omega
        rw [if_neg h16', if_pos (by decide)]; rfl
      · rw [if_neg h2, if_pos h16]; rfl
    · have h0 : ¬ k < 0 := by
        have : (0 : Int32).toInt = 0 := by decide
        rw [Int32.lt_iff_toInt_lt] at h2 ⊢
        omega
      obtain ⟨j, hj, e⟩ := nI_of h0
      subst e
      rw [Int32.lt_iff_toInt_lt, nI_toInt hj] at h2 h16
      refine ⟨j, by omega, ?_, ?_⟩
      · by_cases hj16 : j = 16
        · subst hj16; decide
        · have h16' : nI j < 16 := by rw [Int32.lt_iff_toInt_lt, nI_toInt hj]; omega
          rw [if_pos h16']
          by_cases hj2 : j = 2
          · subst hj2; decide
          · rw [if_pos (by rw [Int32.lt_iff_toInt_lt, nI_toInt hj]; omega)]
      · rw [if_neg (by rw [Int32.lt_iff_toInt_lt, nI_toInt hj]; omega), if_neg (by rw [Int32.lt_iff_toInt_lt, nI_toInt hj]; omega)]

set_option maxHeartbeats 4000000 in
set_option maxRecDepth 100000 in
theorem lp_law {E : Ev} {m : Nat} (hZ : eZ E ≤ 3073) (ca sa : Nat) : ∀ (n a : Nat), 1 ≤ a → a ≤ 3080 → eZ E ≤ a + 6 * n + 5 → ∀ (σ : Sg) (τ : Tu) (h : Hp), J m σ τ → RR E m σ τ h → G E mL_law room_1 LwP 28 [some (.ref (eS E)), some (.ref (aX E)), some (.ref (aM E m)), some (.int (nI a))] [] h (128 * n + ca) (768 * n + sa) := by
  intro n
  induction n with
  | zero =>
    intro a ha1 ha2 hn σ τ h hJ hR
    refine G_iload_n 29 rfl rfl dL_law_28 ?_
    refine G_aload_n 30 rfl rfl dL_law_29 ?_
    refine G_slen 31 rfl dL_law_30 ?_
    refine G_bipush 33 rfl (6) (by decide) dL_law_31 ?_
    refine G_isub 34 rfl dL_law_33 ?_
    refine G_icmpT_gt 661 (lw_gt (by omega) hZ (by omega)) (by decide) dL_law_34 ?_
    refine G_iconst 662 rfl (1) (by decide) dL_law_661 ?_
    refine G_iret (ty := .boolean) rfl (by decide) ?_ dL_law_662
    exact rfl
  | succ n ih =>
    intro a ha1 ha2 hn σ τ h hJ hR
    by_cases ha : a + 6 ≤ eZ E
    · have hfin : ∀ (σ' : Sg) (τ' : Tu) (h' : Hp), RR E m σ' τ' h' → J m σ' τ' → G E mL_law room_1 LwP 655 [some (.ref (eS E)), some (.ref (aX E)), some (.ref (aM E m)), some (.int (nI a))] [] h' (128 * n + ca) (768 * n + sa) := fun σ' τ' h' hR' hJ' => by
        refine G_iinc 658 rfl (nI (a + 6)) rfl (nI_add a 6) (by decide) dL_law_655 ?_
        refine G_goto 28 (by decide) dL_law_658 ?_
        exact ih (a + 6) (by omega) (by omega) (by omega) σ' τ' h' hJ' hR'
      rw [show 128 * (n + 1) + ca = 128 + (128 * n + ca) by omega, show 768 * (n + 1) + sa = 768 + (768 * n + sa) by omega]
      refine G_iload_n 29 rfl rfl dL_law_28 ?_
      refine G_aload_n 30 rfl rfl dL_law_29 ?_
      refine G_slen 31 rfl dL_law_30 ?_
      refine G_bipush 33 rfl (6) (by decide) dL_law_31 ?_
      refine G_isub 34 rfl dL_law_33 ?_
      refine G_icmpF_gt 37 rfl (lw_le (by omega) hZ ha) ⟨661, by decide⟩ dL_law_34 ?_
      refine G_aload_n 38 rfl rfl dL_law_37 ?_
      refine G_iload_n 39 rfl rfl dL_law_38 ?_
      refine G_sload 40 rfl a rfl (show a < eZ E by omega) (by omega) dL_law_39 ?_
      refine G_bipush 42 rfl (31) (by decide) dL_law_40 ?_
      refine G_iand 43 rfl dL_law_42 ?_
      by_cases k43_0 : (eX E a) &&& 31 = 0
      · refine G_tableIn 132 dL_law_43 (by rw [k43_0]; decide) (by rw [k43_0]; decide) (off := 89) (by rw [k43_0]; rfl) (by decide) ?_
        exact lw_spawn hR hJ ha hZ hfin
      · skip
        by_cases k43_1 : (eX E a) &&& 31 = 1
        · refine G_tableIn 155 dL_law_43 (by rw [k43_1]; decide) (by rw [k43_1]; decide) (off := 112) (by rw [k43_1]; rfl) (by decide) ?_
          exact lw_quit hR hJ ha hZ hfin
        · skip
          by_cases k43_2 : (eX E a) &&& 31 = 2
          · refine G_tableIn 178 dL_law_43 (by rw [k43_2]; decide) (by rw [k43_2]; decide) (off := 135) (by rw [k43_2]; rfl) (by decide) ?_
            exact lw_guard hR hJ ha hZ hfin
          · skip
            by_cases k43_3 : (eX E a) &&& 31 = 3
            · refine G_tableIn 257 dL_law_43 (by rw [k43_3]; decide) (by rw [k43_3]; decide) (off := 214) (by rw [k43_3]; rfl) (by decide) ?_
              exact lw_timeout hR hJ ha hZ hfin
            · skip
              by_cases k43_4 : (eX E a) &&& 31 = 4
              · refine G_tableIn 290 dL_law_43 (by rw [k43_4]; decide) (by rw [k43_4]; decide) (off := 247) (by rw [k43_4]; rfl) (by decide) ?_
                exact lw_offer hR hJ ha hZ hfin
              · skip
                by_cases k43_5 : (eX E a) &&& 31 = 5
                · refine G_tableIn 313 dL_law_43 (by rw [k43_5]; decide) (by rw [k43_5]; decide) (off := 270) (by rw [k43_5]; rfl) (by decide) ?_
                  exact lw_step hR hJ ha hZ hfin
                · skip
                  by_cases k43_6 : (eX E a) &&& 31 = 6
                  · refine G_tableIn 336 dL_law_43 (by rw [k43_6]; decide) (by rw [k43_6]; decide) (off := 293) (by rw [k43_6]; rfl) (by decide) ?_
                    exact lw_cancel hR hJ ha hZ hfin
                  · skip
                    by_cases k43_7 : (eX E a) &&& 31 = 7
                    · refine G_tableIn 359 dL_law_43 (by rw [k43_7]; decide) (by rw [k43_7]; decide) (off := 316) (by rw [k43_7]; rfl) (by decide) ?_
                      exact lw_finish hR hJ ha hZ hfin
                    · skip
                      by_cases k43_8 : (eX E a) &&& 31 = 8
                      · refine G_tableIn 382 dL_law_43 (by rw [k43_8]; decide) (by rw [k43_8]; decide) (off := 339) (by rw [k43_8]; rfl) (by decide) ?_
                        exact lw_tick hR hJ ha hZ hfin
                      · skip
                        by_cases k43_9 : (eX E a) &&& 31 = 9
                        · refine G_tableIn 395 dL_law_43 (by rw [k43_9]; decide) (by rw [k43_9]; decide) (off := 352) (by rw [k43_9]; rfl) (by decide) ?_
                          exact lw_run hR hJ ha hZ hfin
                        · skip
                          by_cases k43_10 : (eX E a) &&& 31 = 10
                          · refine G_tableIn 428 dL_law_43 (by rw [k43_10]; decide) (by rw [k43_10]; decide) (off := 385) (by rw [k43_10]; rfl) (by decide) ?_
                            exact lw_phase hR hJ ha hZ hfin
                          · skip
                            by_cases k43_11 : (eX E a) &&& 31 = 11
                            · refine G_tableIn 451 dL_law_43 (by rw [k43_11]; decide) (by rw [k43_11]; decide) (off := 408) (by rw [k43_11]; rfl) (by decide) ?_
                              exact lw_word hR hJ ha hZ hfin
                            · skip
                              by_cases k43_12 : (eX E a) &&& 31 = 12
                              · refine G_tableIn 484 dL_law_43 (by rw [k43_12]; decide) (by rw [k43_12]; decide) (off := 441) (by rw [k43_12]; rfl) (by decide) ?_
                                exact lw_outcome hR hJ ha hZ hfin
                              · skip
                                by_cases k43_13 : (eX E a) &&& 31 = 13
                                · refine G_tableIn 517 dL_law_43 (by rw [k43_13]; decide) (by rw [k43_13]; decide) (off := 474) (by rw [k43_13]; rfl) (by decide) ?_
                                  exact lw_entry hR hJ ha hZ hfin
                                · skip
                                  by_cases k43_14 : (eX E a) &&& 31 = 14
                                  · refine G_tableIn 560 dL_law_43 (by rw [k43_14]; decide) (by rw [k43_14]; decide) (off := 517) (by rw [k43_14]; rfl) (by decide) ?_
                                    exact lw_pair hR hJ ha hZ hfin
                                  · skip
                                    by_cases k43_15 : (eX E a) &&& 31 = 15
                                    · refine G_tableIn 593 dL_law_43 (by rw [k43_15]; decide) (by rw [k43_15]; decide) (off := 550) (by rw [k43_15]; rfl) (by decide) ?_
                                      exact lw_doubles hR hJ ha hZ hfin
                                    · skip
                                      by_cases k43_16 : (eX E a) &&& 31 = 16
                                      · refine G_tableIn 606 dL_law_43 (by rw [k43_16]; decide) (by rw [k43_16]; decide) (off := 563) (by rw [k43_16]; rfl) (by decide) ?_
                                        exact lw_unmet hR hJ ha hZ hfin
                                      · skip
                                        by_cases k43_17 : (eX E a) &&& 31 = 17
                                        · refine G_tableIn 619 dL_law_43 (by rw [k43_17]; decide) (by rw [k43_17]; decide) (off := 576) (by rw [k43_17]; rfl) (by decide) ?_
                                          exact lw_held hR hJ ha hZ hfin
                                        · skip
                                          by_cases k43_18 : (eX E a) &&& 31 = 18
                                          · refine G_tableIn 632 dL_law_43 (by rw [k43_18]; decide) (by rw [k43_18]; decide) (off := 589) (by rw [k43_18]; rfl) (by decide) ?_
                                            exact lw_count hR hJ ha hZ hfin
                                          · skip
                                            refine G_tableOut 655 dL_law_43 (tb_out (n := 18) (by decide) (fun j hj => by rcases j with _ | _ | _ | _ | _ | _ | _ | _ | _ | _ | _ | _ | _ | _ | _ | _ | _ | _ | _ | j; exact k43_0; exact k43_1; exact k43_2; exact k43_3; exact k43_4; exact k43_5; exact k43_6; exact k43_7; exact k43_8; exact k43_9; exact k43_10; exact k43_11; exact k43_12; exact k43_13; exact k43_14; exact k43_15; exact k43_16; exact k43_17; exact k43_18; omega)) (by decide) ?_
                                            exact G_less (by first | omega | exact Nat.le_add_left _ _) (by first | omega | exact Nat.le_add_left _ _) (hfin _ _ _ hR hJ)
    · skip
      refine G_iload_n 29 rfl rfl dL_law_28 ?_
      refine G_aload_n 30 rfl rfl dL_law_29 ?_
      refine G_slen 31 rfl dL_law_30 ?_
      refine G_bipush 33 rfl (6) (by decide) dL_law_31 ?_
      refine G_isub 34 rfl dL_law_33 ?_
      refine G_icmpT_gt 661 (lw_gt (by omega) hZ (by omega)) (by decide) dL_law_34 ?_
      refine G_iconst 662 rfl (1) (by decide) dL_law_661 ?_
      refine G_iret (ty := .boolean) rfl (by decide) ?_ dL_law_662
      exact rfl

set_option maxHeartbeats 4000000 in
set_option maxRecDepth 100000 in
theorem law_G {E : Ev} {m : Nat} {h : Hp} (hL : LY E m) (hZ : eZ E ≤ 3073) (hk1 : (if 2 < (if (if 0 < eZ E then eX E 0 else 0) < 16 then (if 0 < eZ E then eX E 0 else 0) else 16) then (if (if 0 < eZ E then eX E 0 else 0) < 16 then (if 0 < eZ E then eX E 0 else 0) else 16) else 2) = nI m) (hk2 : (if (if 0 < eZ E then eX E 0 else 0) < 2 then 2 else if 16 < (if 0 < eZ E then eX E 0 else 0) then 16 else (if 0 < eZ E then eX E 0 else 0)) = nI m) (hhn : hn h = eB E) : G E mL_law room_1 LwP 0 [some (.ref (eS E)), none, none, none] [] h 600000 7302250 := by
  have hm := hL.1
  have kX : eK E (hn h) = 7 := by rw [hhn]; exact hL.k (ci := 7) (i := 0) (by decide) rfl
  refine G_new 3 rfl (ci := 7) (by decide) cl_L_7 w_in7 w_it7 kX (ac' := 599999) (as' := 7302241) rfl rfl dL_law_0 ?_
  refine G_dup 4 rfl rfl dL_law_3 ?_
  refine G_aload_n 5 rfl rfl dL_law_4 ?_
  refine G_iconst 6 rfl (0) (by decide) dL_law_5 ?_
  refine G_callS 9 rfl [.ref (eS E), .int 0] (c_L_cell 0 (by omega) (by omega)) ok_L_cell os_L_cell ml_L_9 rfl ⟨by decide, by decide⟩ (ac' := 599999) (as' := 7302241) rfl rfl (Nat.le_of_ble_eq_true rfl) rfl dL_law_6 ?_
  rintro v h' ⟨rfl, rfl⟩
  rw [hhn]
  refine G_callI 12 rfl [.int (if 0 < eZ E then eX E 0 else 0)] (c_X7_init hL _ hk1 (by rw [hn_sN, hhn]; rfl) (by rw [cl_sN]; exact if_pos hhn.symm)) ok_X7_init oi_X7_init rfl rfl ml_L_15 rfl ⟨by decide, by decide⟩ (ac' := 599771) (as' := 7298359) rfl rfl (Nat.le_of_ble_eq_true rfl) rfl dL_law_9 ?_
  rintro v h1 ⟨rfl, hC⟩
  refine G_astore_n 13 rfl (by decide) dL_law_12 ?_
  have kM : eK E (hn h1) = 8 := by rw [hC.1]; exact hL.k (ci := 8) (i := 0) (by decide) rfl
  refine G_new 16 rfl (ci := 8) (by decide) cl_L_18 w_in8 w_it8 kM (ac' := 599770) (as' := 7298318) rfl rfl dL_law_13 ?_
  refine G_dup 17 rfl rfl dL_law_16 ?_
  refine G_aload_n 18 rfl rfl dL_law_17 ?_
  refine G_iconst 19 rfl (0) (by decide) dL_law_18 ?_
  refine G_callS 22 rfl [.ref (eS E), .int 0] (c_L_cell 0 (by omega) (by omega)) ok_L_cell os_L_cell ml_L_9 rfl ⟨by decide, by decide⟩ (ac' := 599770) (as' := 7298318) rfl rfl (Nat.le_of_ble_eq_true rfl) rfl dL_law_19 ?_
  rintro v h' ⟨rfl, rfl⟩
  rw [hC.1]
  refine G_callI 25 rfl [.int (if 0 < eZ E then eX E 0 else 0)] (c_X8_init hL _ hk2 (by rw [hn_sN, hC.1]) (by rw [cl_sN]; exact if_pos hC.1.symm)) ok_X8_init oi_X8_init rfl rfl ml_L_20 rfl ⟨by decide, by decide⟩ (ac' := 599737) (as' := 7263074) rfl rfl (Nat.le_of_ble_eq_true rfl) rfl dL_law_22 ?_
  rintro v h3 ⟨rfl, h2, hM, rfl⟩
  have hR := RR.start hL hC hM
  refine G_astore_n 26 rfl (by decide) dL_law_25 ?_
  refine G_iconst 27 rfl (1) (by decide) dL_law_26 ?_
  refine G_istore_n 28 rfl (by decide) dL_law_27 ?_
  exact lp_law hZ 534201 6869858 512 1 (by omega) (by omega) (by omega) σ0 (τ0 m) _ (J.start hm) hR

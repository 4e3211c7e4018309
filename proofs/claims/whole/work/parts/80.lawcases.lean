def LwP : Option Value → Hp → Prop := fun v _ => v = some (.int 1)
theorem G_less {E : Ev} {M : MD} {R : Room} {Post : Option Value → Hp → Prop} {pc : Nat} {L : List (Option Value)} {st : List Value} {h : Hp} {ac as ac' as' : Nat} (h1 : ac' ≤ ac) (h2 : as' ≤ as) (kk : G E M R Post pc L st h ac' as') : G E M R Post pc L st h ac as := by
  intro p e s m args below meth c H locs cells slots ls C hH hS hL g1 g2
  exact W.widen (k := cells + (ac - ac')) (n := slots + (as - as')) (by omega) (by omega) (kk p e s m args below meth c H locs _ _ ls C hH hS hL (by omega) (by omega))
theorem J.vdl {m : Nat} {σ : Sg} {τ : Tu} (hJ : J m σ τ) : ∀ c, c < 8 → ∀ n ∈ sLs σ c, 1 ≤ n ∧ n ≤ sNp σ := fun c hc n hn => by
  obtain ⟨EL, hE⟩ := hJ.2.2.2.2.2.2.1
  rw [hE.2.2.2.2.1 c hc] at hn
  exact hE.2.1 n (List.mem_filter.mp hn).1
theorem J.jlt {m : Nat} {σ : Sg} {τ : Tu} (hJ : J m σ τ) {c j n : Nat} (hc : c < 8) (hn : (sLs σ c)[j]? = some n) : j < 128 := by
  obtain ⟨EL, hE⟩ := hJ.2.2.2.2.2.2.1
  have h1 := hJ.en hE
  have h2 := (List.getElem?_eq_some_iff.mp hn).1
  rw [hE.2.2.2.2.1 c hc] at h2
  have := List.length_filter_le (fun n => decide (σ.1 3 n = nI c)) EL
  omega
set_option maxHeartbeats 4000000 in
set_option maxRecDepth 100000 in
theorem lw_spawn {E : Ev} {m : Nat} {σ : Sg} {τ : Tu} {h : Hp} (hR : RR E m σ τ h) (hJ : J m σ τ) {a ca sa : Nat} (ha : a + 6 ≤ eZ E) (hZ : eZ E ≤ 3073) (hfin : ∀ (σ' : Sg) (τ' : Tu) (h' : Hp), RR E m σ' τ' h' → J m σ' τ' → G E mL_law room_1 LwP 655 [some (.ref (eS E)), some (.ref (aX E)), some (.ref (aM E m)), some (.int (nI a))] [] h' ca sa) : G E mL_law room_1 LwP 132 [some (.ref (eS E)), some (.ref (aX E)), some (.ref (aM E m)), some (.int (nI a))] [] h (128 + ca) (768 + sa) := by
  have hm := hJ.1
  have hmy : τ 0 0 = nI m := hJ.2.1.1
  refine G_aload_n 133 rfl rfl dL_law_132 ?_
  refine G_aload_n 134 rfl rfl dL_law_133 ?_
  refine G_iload_n 135 rfl rfl dL_law_134 ?_
  refine G_iconst 136 rfl (1) (by decide) dL_law_135 ?_
  refine G_iadd 137 rfl dL_law_136 ?_
  refine G_sload 138 rfl (a + 1) (nI_add a 1) (show a + 1 < eZ E by omega) (by omega) dL_law_137 ?_
  refine G_callV 141 rfl [.int (eX E (a + 1))] (c_X7_spawn hR (eX E (a + 1))) ok_X7_spawn ov_X7_spawn ml_L_21 (hR.ob (ci := 7) (i := 0) (by decide) rfl) ⟨by decide, rfl⟩ rfl ⟨by decide, by decide⟩ rfl rfl (Nat.le_of_ble_eq_true rfl) rfl dL_law_138 ?_
  rintro v h (⟨p, hp, e, hph, rfl, hR⟩ | ⟨hno, rfl, hR⟩)
  · skip
    refine G_aload_n 142 rfl rfl dL_law_141 ?_
    refine G_aload_n 143 rfl rfl dL_law_142 ?_
    refine G_iload_n 144 rfl rfl dL_law_143 ?_
    refine G_iconst 145 rfl (1) (by decide) dL_law_144 ?_
    refine G_iadd 146 rfl dL_law_145 ?_
    refine G_sload 147 rfl (a + 1) (nI_add a 1) (show a + 1 < eZ E by omega) (by omega) dL_law_146 ?_
    refine G_callV 150 rfl [.int (eX E (a + 1))] (m_spawn hR (eX E (a + 1)) hmy) ok_X8_spawn ov_X8_spawn ml_L_25 (hR.ob (ci := 8) (i := 0) (by decide) rfl) ⟨by decide, rfl⟩ rfl ⟨by decide, by decide⟩ rfl rfl (Nat.le_of_ble_eq_true rfl) rfl dL_law_147 ?_
    rintro v h (⟨p', hp', e', hph', rfl, hR⟩ | ⟨hno', rfl, hR⟩)
    · skip
      obtain rfl : p = p' := nI_inj (by omega) (by omega) (e.symm.trans e')
      refine G_icmpT_eq 655 (rfl) (by decide) dL_law_150 ?_
      exact G_less (by first | omega | exact Nat.le_add_left _ _) (by first | omega | exact Nat.le_add_left _ _) (hfin _ _ _ hR (hJ.spawnX hp hph))
    · skip
      exfalso
      rcases hno' with q | q
      · exact q p hp e (by rw [hJ.t7 hp]; exact hph)
      · exact q
  · skip
    refine G_aload_n 142 rfl rfl dL_law_141 ?_
    refine G_aload_n 143 rfl rfl dL_law_142 ?_
    refine G_iload_n 144 rfl rfl dL_law_143 ?_
    refine G_iconst 145 rfl (1) (by decide) dL_law_144 ?_
    refine G_iadd 146 rfl dL_law_145 ?_
    refine G_sload 147 rfl (a + 1) (nI_add a 1) (show a + 1 < eZ E by omega) (by omega) dL_law_146 ?_
    refine G_callV 150 rfl [.int (eX E (a + 1))] (m_spawn hR (eX E (a + 1)) hmy) ok_X8_spawn ov_X8_spawn ml_L_25 (hR.ob (ci := 8) (i := 0) (by decide) rfl) ⟨by decide, rfl⟩ rfl ⟨by decide, by decide⟩ rfl rfl (Nat.le_of_ble_eq_true rfl) rfl dL_law_147 ?_
    rintro v h (⟨p', hp', e', hph', rfl, hR⟩ | ⟨hno', rfl, hR⟩)
    · skip
      exfalso
      rcases hno with q | q
      · exact q p' hp' e' (by rw [← hJ.t7 hp']; exact hph')
      · exact q
    · skip
      refine G_icmpT_eq 655 (rfl) (by decide) dL_law_150 ?_
      exact G_less (by first | omega | exact Nat.le_add_left _ _) (by first | omega | exact Nat.le_add_left _ _) (hfin _ _ _ hR (hJ))

set_option maxHeartbeats 4000000 in
set_option maxRecDepth 100000 in
theorem lw_quit {E : Ev} {m : Nat} {σ : Sg} {τ : Tu} {h : Hp} (hR : RR E m σ τ h) (hJ : J m σ τ) {a ca sa : Nat} (ha : a + 6 ≤ eZ E) (hZ : eZ E ≤ 3073) (hfin : ∀ (σ' : Sg) (τ' : Tu) (h' : Hp), RR E m σ' τ' h' → J m σ' τ' → G E mL_law room_1 LwP 655 [some (.ref (eS E)), some (.ref (aX E)), some (.ref (aM E m)), some (.int (nI a))] [] h' ca sa) : G E mL_law room_1 LwP 155 [some (.ref (eS E)), some (.ref (aX E)), some (.ref (aM E m)), some (.int (nI a))] [] h (128 + ca) (768 + sa) := by
  have hm := hJ.1
  have hmy : τ 0 0 = nI m := hJ.2.1.1
  refine G_aload_n 156 rfl rfl dL_law_155 ?_
  refine G_aload_n 157 rfl rfl dL_law_156 ?_
  refine G_iload_n 158 rfl rfl dL_law_157 ?_
  refine G_iconst 159 rfl (1) (by decide) dL_law_158 ?_
  refine G_iadd 160 rfl dL_law_159 ?_
  refine G_sload 161 rfl (a + 1) (nI_add a 1) (show a + 1 < eZ E by omega) (by omega) dL_law_160 ?_
  refine G_callV 164 rfl [.int (eX E (a + 1))] (c_X7_quit hR (eX E (a + 1))) ok_X7_quit ov_X7_quit ml_L_26 (hR.ob (ci := 7) (i := 0) (by decide) rfl) ⟨by decide, rfl⟩ rfl ⟨by decide, by decide⟩ rfl rfl (Nat.le_of_ble_eq_true rfl) rfl dL_law_161 ?_
  rintro v h (⟨p, hp, e, hph, rfl, hR⟩ | ⟨hno, rfl, hR⟩)
  · skip
    refine G_aload_n 165 rfl rfl dL_law_164 ?_
    refine G_aload_n 166 rfl rfl dL_law_165 ?_
    refine G_iload_n 167 rfl rfl dL_law_166 ?_
    refine G_iconst 168 rfl (1) (by decide) dL_law_167 ?_
    refine G_iadd 169 rfl dL_law_168 ?_
    refine G_sload 170 rfl (a + 1) (nI_add a 1) (show a + 1 < eZ E by omega) (by omega) dL_law_169 ?_
    refine G_callV 173 rfl [.int (eX E (a + 1))] (m_quit hR (eX E (a + 1)) hmy) ok_X8_quit ov_X8_quit ml_L_29 (hR.ob (ci := 8) (i := 0) (by decide) rfl) ⟨by decide, rfl⟩ rfl ⟨by decide, by decide⟩ rfl rfl (Nat.le_of_ble_eq_true rfl) rfl dL_law_170 ?_
    rintro v h (⟨p', hp', e', hph', rfl, hR⟩ | ⟨hno', rfl, hR⟩)
    · skip
      obtain rfl : p = p' := nI_inj (by omega) (by omega) (e.symm.trans e')
      refine G_icmpT_eq 655 (rfl) (by decide) dL_law_173 ?_
      exact G_less (by first | omega | exact Nat.le_add_left _ _) (by first | omega | exact Nat.le_add_left _ _) (hfin _ _ _ hR (hJ.quitX hp hph))
    · skip
      exfalso
      rcases hno' with q | q
      · exact q p hp e (by rw [hJ.t7 hp]; exact hph)
      · exact q
  · skip
    refine G_aload_n 165 rfl rfl dL_law_164 ?_
    refine G_aload_n 166 rfl rfl dL_law_165 ?_
    refine G_iload_n 167 rfl rfl dL_law_166 ?_
    refine G_iconst 168 rfl (1) (by decide) dL_law_167 ?_
    refine G_iadd 169 rfl dL_law_168 ?_
    refine G_sload 170 rfl (a + 1) (nI_add a 1) (show a + 1 < eZ E by omega) (by omega) dL_law_169 ?_
    refine G_callV 173 rfl [.int (eX E (a + 1))] (m_quit hR (eX E (a + 1)) hmy) ok_X8_quit ov_X8_quit ml_L_29 (hR.ob (ci := 8) (i := 0) (by decide) rfl) ⟨by decide, rfl⟩ rfl ⟨by decide, by decide⟩ rfl rfl (Nat.le_of_ble_eq_true rfl) rfl dL_law_170 ?_
    rintro v h (⟨p', hp', e', hph', rfl, hR⟩ | ⟨hno', rfl, hR⟩)
    · skip
      exfalso
      rcases hno with q | q
      · exact q p' hp' e' (by rw [← hJ.t7 hp']; exact hph')
      · exact q
    · skip
      refine G_icmpT_eq 655 (rfl) (by decide) dL_law_173 ?_
      exact G_less (by first | omega | exact Nat.le_add_left _ _) (by first | omega | exact Nat.le_add_left _ _) (hfin _ _ _ hR (hJ))

set_option maxHeartbeats 4000000 in
set_option maxRecDepth 100000 in
theorem lw_finish {E : Ev} {m : Nat} {σ : Sg} {τ : Tu} {h : Hp} (hR : RR E m σ τ h) (hJ : J m σ τ) {a ca sa : Nat} (ha : a + 6 ≤ eZ E) (hZ : eZ E ≤ 3073) (hfin : ∀ (σ' : Sg) (τ' : Tu) (h' : Hp), RR E m σ' τ' h' → J m σ' τ' → G E mL_law room_1 LwP 655 [some (.ref (eS E)), some (.ref (aX E)), some (.ref (aM E m)), some (.int (nI a))] [] h' ca sa) : G E mL_law room_1 LwP 359 [some (.ref (eS E)), some (.ref (aX E)), some (.ref (aM E m)), some (.int (nI a))] [] h (128 + ca) (768 + sa) := by
  have hm := hJ.1
  have hmy : τ 0 0 = nI m := hJ.2.1.1
  refine G_aload_n 360 rfl rfl dL_law_359 ?_
  refine G_aload_n 361 rfl rfl dL_law_360 ?_
  refine G_iload_n 362 rfl rfl dL_law_361 ?_
  refine G_iconst 363 rfl (1) (by decide) dL_law_362 ?_
  refine G_iadd 364 rfl dL_law_363 ?_
  refine G_sload 365 rfl (a + 1) (nI_add a 1) (show a + 1 < eZ E by omega) (by omega) dL_law_364 ?_
  refine G_callV 368 rfl [.int (eX E (a + 1))] (c_X7_finish hR (eX E (a + 1))) ok_X7_finish ov_X7_finish ml_L_53 (hR.ob (ci := 7) (i := 0) (by decide) rfl) ⟨by decide, rfl⟩ rfl ⟨by decide, by decide⟩ rfl rfl (Nat.le_of_ble_eq_true rfl) rfl dL_law_365 ?_
  rintro v h (⟨p, hp, e, hph, rfl, hR⟩ | ⟨hno, rfl, hR⟩)
  · skip
    refine G_aload_n 369 rfl rfl dL_law_368 ?_
    refine G_aload_n 370 rfl rfl dL_law_369 ?_
    refine G_iload_n 371 rfl rfl dL_law_370 ?_
    refine G_iconst 372 rfl (1) (by decide) dL_law_371 ?_
    refine G_iadd 373 rfl dL_law_372 ?_
    refine G_sload 374 rfl (a + 1) (nI_add a 1) (show a + 1 < eZ E by omega) (by omega) dL_law_373 ?_
    refine G_callV 377 rfl [.int (eX E (a + 1))] (m_finish hR (eX E (a + 1)) hmy) ok_X8_finish ov_X8_finish ml_L_56 (hR.ob (ci := 8) (i := 0) (by decide) rfl) ⟨by decide, rfl⟩ rfl ⟨by decide, by decide⟩ rfl rfl (Nat.le_of_ble_eq_true rfl) rfl dL_law_374 ?_
    rintro v h (⟨p', hp', e', hph', rfl, hR⟩ | ⟨hno', rfl, hR⟩)
    · skip
      obtain rfl : p = p' := nI_inj (by omega) (by omega) (e.symm.trans e')
      refine G_icmpT_eq 655 (rfl) (by decide) dL_law_377 ?_
      exact G_less (by first | omega | exact Nat.le_add_left _ _) (by first | omega | exact Nat.le_add_left _ _) (hfin _ _ _ hR (hJ.finX hp hph))
    · skip
      exfalso
      rcases hno' with q | q
      · exact q p hp e (by rw [hJ.t7 hp]; exact hph)
      · exact q
  · skip
    refine G_aload_n 369 rfl rfl dL_law_368 ?_
    refine G_aload_n 370 rfl rfl dL_law_369 ?_
    refine G_iload_n 371 rfl rfl dL_law_370 ?_
    refine G_iconst 372 rfl (1) (by decide) dL_law_371 ?_
    refine G_iadd 373 rfl dL_law_372 ?_
    refine G_sload 374 rfl (a + 1) (nI_add a 1) (show a + 1 < eZ E by omega) (by omega) dL_law_373 ?_
    refine G_callV 377 rfl [.int (eX E (a + 1))] (m_finish hR (eX E (a + 1)) hmy) ok_X8_finish ov_X8_finish ml_L_56 (hR.ob (ci := 8) (i := 0) (by decide) rfl) ⟨by decide, rfl⟩ rfl ⟨by decide, by decide⟩ rfl rfl (Nat.le_of_ble_eq_true rfl) rfl dL_law_374 ?_
    rintro v h (⟨p', hp', e', hph', rfl, hR⟩ | ⟨hno', rfl, hR⟩)
    · skip
      exfalso
      rcases hno with q | q
      · exact q p' hp' e' (by rw [← hJ.t7 hp']; exact hph')
      · exact q
    · skip
      refine G_icmpT_eq 655 (rfl) (by decide) dL_law_377 ?_
      exact G_less (by first | omega | exact Nat.le_add_left _ _) (by first | omega | exact Nat.le_add_left _ _) (hfin _ _ _ hR (hJ))

set_option maxHeartbeats 4000000 in
set_option maxRecDepth 100000 in
theorem lw_timeout {E : Ev} {m : Nat} {σ : Sg} {τ : Tu} {h : Hp} (hR : RR E m σ τ h) (hJ : J m σ τ) {a ca sa : Nat} (ha : a + 6 ≤ eZ E) (hZ : eZ E ≤ 3073) (hfin : ∀ (σ' : Sg) (τ' : Tu) (h' : Hp), RR E m σ' τ' h' → J m σ' τ' → G E mL_law room_1 LwP 655 [some (.ref (eS E)), some (.ref (aX E)), some (.ref (aM E m)), some (.int (nI a))] [] h' ca sa) : G E mL_law room_1 LwP 257 [some (.ref (eS E)), some (.ref (aX E)), some (.ref (aM E m)), some (.int (nI a))] [] h (128 + ca) (768 + sa) := by
  have hm := hJ.1
  have hmy : τ 0 0 = nI m := hJ.2.1.1
  refine G_aload_n 258 rfl rfl dL_law_257 ?_
  refine G_aload_n 259 rfl rfl dL_law_258 ?_
  refine G_iload_n 260 rfl rfl dL_law_259 ?_
  refine G_iconst 261 rfl (1) (by decide) dL_law_260 ?_
  refine G_iadd 262 rfl dL_law_261 ?_
  refine G_sload 263 rfl (a + 1) (nI_add a 1) (show a + 1 < eZ E by omega) (by omega) dL_law_262 ?_
  refine G_aload_n 264 rfl rfl dL_law_263 ?_
  refine G_iload_n 265 rfl rfl dL_law_264 ?_
  refine G_iconst 266 rfl (2) (by decide) dL_law_265 ?_
  refine G_iadd 267 rfl dL_law_266 ?_
  refine G_sload 268 rfl (a + 2) (nI_add a 2) (show a + 2 < eZ E by omega) (by omega) dL_law_267 ?_
  refine G_callV 271 rfl [.int (eX E (a + 1)), .int (eX E (a + 2))] (c_X7_timeout hR (eX E (a + 1)) (eX E (a + 2))) ok_X7_timeout ov_X7_timeout ml_L_35 (hR.ob (ci := 7) (i := 0) (by decide) rfl) ⟨by decide, rfl⟩ rfl ⟨by decide, by decide⟩ rfl rfl (Nat.le_of_ble_eq_true rfl) rfl dL_law_268 ?_
  rintro v h (⟨p, hp, e, hph, t1, t2, rfl, hR⟩ | ⟨hno, rfl, hR⟩)
  · skip
    refine G_aload_n 272 rfl rfl dL_law_271 ?_
    refine G_aload_n 273 rfl rfl dL_law_272 ?_
    refine G_iload_n 274 rfl rfl dL_law_273 ?_
    refine G_iconst 275 rfl (1) (by decide) dL_law_274 ?_
    refine G_iadd 276 rfl dL_law_275 ?_
    refine G_sload 277 rfl (a + 1) (nI_add a 1) (show a + 1 < eZ E by omega) (by omega) dL_law_276 ?_
    refine G_aload_n 278 rfl rfl dL_law_277 ?_
    refine G_iload_n 279 rfl rfl dL_law_278 ?_
    refine G_iconst 280 rfl (2) (by decide) dL_law_279 ?_
    refine G_iadd 281 rfl dL_law_280 ?_
    refine G_sload 282 rfl (a + 2) (nI_add a 2) (show a + 2 < eZ E by omega) (by omega) dL_law_281 ?_
    refine G_callV 285 rfl [.int (eX E (a + 1)), .int (eX E (a + 2))] (m_timeout hR (eX E (a + 1)) (eX E (a + 2)) hmy) ok_X8_timeout ov_X8_timeout ml_L_39 (hR.ob (ci := 8) (i := 0) (by decide) rfl) ⟨by decide, rfl⟩ rfl ⟨by decide, by decide⟩ rfl rfl (Nat.le_of_ble_eq_true rfl) rfl dL_law_282 ?_
    rintro v h (⟨p', hp', e', hph', t1', t2', rfl, hR⟩ | ⟨hno', rfl, hR⟩)
    · skip
      obtain rfl : p = p' := nI_inj (by omega) (by omega) (e.symm.trans e')
      refine G_icmpT_eq 655 (rfl) (by decide) dL_law_285 ?_
      exact G_less (by first | omega | exact Nat.le_add_left _ _) (by first | omega | exact Nat.le_add_left _ _) (hfin _ _ _ hR (hJ.timeX hp hph _))
    · skip
      exfalso
      rcases hno' with q | q | q
      · exact q p hp e (by rw [hJ.t7 hp]; exact hph)
      · exact t1 q
      · exact q t2
  · skip
    refine G_aload_n 272 rfl rfl dL_law_271 ?_
    refine G_aload_n 273 rfl rfl dL_law_272 ?_
    refine G_iload_n 274 rfl rfl dL_law_273 ?_
    refine G_iconst 275 rfl (1) (by decide) dL_law_274 ?_
    refine G_iadd 276 rfl dL_law_275 ?_
    refine G_sload 277 rfl (a + 1) (nI_add a 1) (show a + 1 < eZ E by omega) (by omega) dL_law_276 ?_
    refine G_aload_n 278 rfl rfl dL_law_277 ?_
    refine G_iload_n 279 rfl rfl dL_law_278 ?_
    refine G_iconst 280 rfl (2) (by decide) dL_law_279 ?_
    refine G_iadd 281 rfl dL_law_280 ?_
    refine G_sload 282 rfl (a + 2) (nI_add a 2) (show a + 2 < eZ E by omega) (by omega) dL_law_281 ?_
    refine G_callV 285 rfl [.int (eX E (a + 1)), .int (eX E (a + 2))] (m_timeout hR (eX E (a + 1)) (eX E (a + 2)) hmy) ok_X8_timeout ov_X8_timeout ml_L_39 (hR.ob (ci := 8) (i := 0) (by decide) rfl) ⟨by decide, rfl⟩ rfl ⟨by decide, by decide⟩ rfl rfl (Nat.le_of_ble_eq_true rfl) rfl dL_law_282 ?_
    rintro v h (⟨p', hp', e', hph', t1', t2', rfl, hR⟩ | ⟨hno', rfl, hR⟩)
    · skip
      exfalso
      rcases hno with q | q | q
      · exact q p' hp' e' (by rw [← hJ.t7 hp']; exact hph')
      · exact t1' q
      · exact q t2'
    · skip
      refine G_icmpT_eq 655 (rfl) (by decide) dL_law_285 ?_
      exact G_less (by first | omega | exact Nat.le_add_left _ _) (by first | omega | exact Nat.le_add_left _ _) (hfin _ _ _ hR (hJ))

set_option maxHeartbeats 4000000 in
set_option maxRecDepth 100000 in
theorem lw_offer {E : Ev} {m : Nat} {σ : Sg} {τ : Tu} {h : Hp} (hR : RR E m σ τ h) (hJ : J m σ τ) {a ca sa : Nat} (ha : a + 6 ≤ eZ E) (hZ : eZ E ≤ 3073) (hfin : ∀ (σ' : Sg) (τ' : Tu) (h' : Hp), RR E m σ' τ' h' → J m σ' τ' → G E mL_law room_1 LwP 655 [some (.ref (eS E)), some (.ref (aX E)), some (.ref (aM E m)), some (.int (nI a))] [] h' ca sa) : G E mL_law room_1 LwP 290 [some (.ref (eS E)), some (.ref (aX E)), some (.ref (aM E m)), some (.int (nI a))] [] h (128 + ca) (768 + sa) := by
  have hm := hJ.1
  have hmy : τ 0 0 = nI m := hJ.2.1.1
  refine G_aload_n 291 rfl rfl dL_law_290 ?_
  refine G_aload_n 292 rfl rfl dL_law_291 ?_
  refine G_iload_n 293 rfl rfl dL_law_292 ?_
  refine G_iconst 294 rfl (1) (by decide) dL_law_293 ?_
  refine G_iadd 295 rfl dL_law_294 ?_
  refine G_sload 296 rfl (a + 1) (nI_add a 1) (show a + 1 < eZ E by omega) (by omega) dL_law_295 ?_
  refine G_callV 299 rfl [.int (eX E (a + 1))] (c_X7_offer hR (eX E (a + 1)) hJ.gc) ok_X7_offer ov_X7_offer ml_L_40 (hR.ob (ci := 7) (i := 0) (by decide) rfl) ⟨by decide, rfl⟩ rfl ⟨by decide, by decide⟩ rfl rfl (Nat.le_of_ble_eq_true rfl) rfl dL_law_296 ?_
  rintro v h (⟨p, hp, e, hph, t1, rfl, hR⟩ | ⟨hno, rfl, hR⟩)
  · skip
    refine G_aload_n 300 rfl rfl dL_law_299 ?_
    refine G_aload_n 301 rfl rfl dL_law_300 ?_
    refine G_iload_n 302 rfl rfl dL_law_301 ?_
    refine G_iconst 303 rfl (1) (by decide) dL_law_302 ?_
    refine G_iadd 304 rfl dL_law_303 ?_
    refine G_sload 305 rfl (a + 1) (nI_add a 1) (show a + 1 < eZ E by omega) (by omega) dL_law_304 ?_
    refine G_callV 308 rfl [.int (eX E (a + 1))] (m_offer hR (eX E (a + 1)) hmy hJ.gcm) ok_X8_offer ov_X8_offer ml_L_43 (hR.ob (ci := 8) (i := 0) (by decide) rfl) ⟨by decide, rfl⟩ rfl ⟨by decide, by decide⟩ rfl rfl (Nat.le_of_ble_eq_true rfl) rfl dL_law_305 ?_
    rintro v h (⟨p', hp', e', hph', t1', rfl, hR⟩ | ⟨hno', rfl, hR⟩)
    · skip
      obtain rfl : p = p' := nI_inj (by omega) (by omega) (e.symm.trans e')
      refine G_icmpT_eq 655 (rfl) (by decide) dL_law_308 ?_
      exact G_less (by first | omega | exact Nat.le_add_left _ _) (by first | omega | exact Nat.le_add_left _ _) (hfin _ _ _ hR (hJ.offX hp hph t1))
    · skip
      exfalso
      rcases hno' with q | ⟨r, hr, er, qr⟩
      · exact q p hp e (by rw [hJ.t7 hp]; exact hph)
      · obtain rfl : p = r := nI_inj (by omega) (by omega) (e.symm.trans er)
        exact (hJ.v1000 hp).mp t1 qr
  · skip
    refine G_aload_n 300 rfl rfl dL_law_299 ?_
    refine G_aload_n 301 rfl rfl dL_law_300 ?_
    refine G_iload_n 302 rfl rfl dL_law_301 ?_
    refine G_iconst 303 rfl (1) (by decide) dL_law_302 ?_
    refine G_iadd 304 rfl dL_law_303 ?_
    refine G_sload 305 rfl (a + 1) (nI_add a 1) (show a + 1 < eZ E by omega) (by omega) dL_law_304 ?_
    refine G_callV 308 rfl [.int (eX E (a + 1))] (m_offer hR (eX E (a + 1)) hmy hJ.gcm) ok_X8_offer ov_X8_offer ml_L_43 (hR.ob (ci := 8) (i := 0) (by decide) rfl) ⟨by decide, rfl⟩ rfl ⟨by decide, by decide⟩ rfl rfl (Nat.le_of_ble_eq_true rfl) rfl dL_law_305 ?_
    rintro v h (⟨p', hp', e', hph', t1', rfl, hR⟩ | ⟨hno', rfl, hR⟩)
    · skip
      exfalso
      rcases hno with q | ⟨r, hr, er, qr⟩
      · exact q p' hp' e' (by rw [← hJ.t7 hp']; exact hph')
      · obtain rfl : p' = r := nI_inj (by omega) (by omega) (e'.symm.trans er)
        exact qr ((hJ.v1000 hp').mpr t1')
    · skip
      refine G_icmpT_eq 655 (rfl) (by decide) dL_law_308 ?_
      exact G_less (by first | omega | exact Nat.le_add_left _ _) (by first | omega | exact Nat.le_add_left _ _) (hfin _ _ _ hR (hJ))

set_option maxHeartbeats 4000000 in
set_option maxRecDepth 100000 in
theorem lw_guard {E : Ev} {m : Nat} {σ : Sg} {τ : Tu} {h : Hp} (hR : RR E m σ τ h) (hJ : J m σ τ) {a ca sa : Nat} (ha : a + 6 ≤ eZ E) (hZ : eZ E ≤ 3073) (hfin : ∀ (σ' : Sg) (τ' : Tu) (h' : Hp), RR E m σ' τ' h' → J m σ' τ' → G E mL_law room_1 LwP 655 [some (.ref (eS E)), some (.ref (aX E)), some (.ref (aM E m)), some (.int (nI a))] [] h' ca sa) : G E mL_law room_1 LwP 178 [some (.ref (eS E)), some (.ref (aX E)), some (.ref (aM E m)), some (.int (nI a))] [] h (128 + ca) (768 + sa) := by
  have hm := hJ.1
  have hmy : τ 0 0 = nI m := hJ.2.1.1
  refine G_aload_n 179 rfl rfl dL_law_178 ?_
  refine G_aload_n 180 rfl rfl dL_law_179 ?_
  refine G_iload_n 181 rfl rfl dL_law_180 ?_
  refine G_iconst 182 rfl (1) (by decide) dL_law_181 ?_
  refine G_iadd 183 rfl dL_law_182 ?_
  refine G_sload 184 rfl (a + 1) (nI_add a 1) (show a + 1 < eZ E by omega) (by omega) dL_law_183 ?_
  refine G_aload_n 185 rfl rfl dL_law_184 ?_
  refine G_iload_n 186 rfl rfl dL_law_185 ?_
  refine G_iconst 187 rfl (2) (by decide) dL_law_186 ?_
  refine G_iadd 188 rfl dL_law_187 ?_
  refine G_sload 189 rfl (a + 2) (nI_add a 2) (show a + 2 < eZ E by omega) (by omega) dL_law_188 ?_
  refine G_aload_n 190 rfl rfl dL_law_189 ?_
  refine G_iload_n 191 rfl rfl dL_law_190 ?_
  refine G_iconst 192 rfl (3) (by decide) dL_law_191 ?_
  refine G_iadd 193 rfl dL_law_192 ?_
  refine G_sload 194 rfl (a + 3) (nI_add a 3) (show a + 3 < eZ E by omega) (by omega) dL_law_193 ?_
  refine G_aload_n 195 rfl rfl dL_law_194 ?_
  refine G_iload_n 196 rfl rfl dL_law_195 ?_
  refine G_iconst 197 rfl (4) (by decide) dL_law_196 ?_
  refine G_iadd 198 rfl dL_law_197 ?_
  refine G_sload 199 rfl (a + 4) (nI_add a 4) (show a + 4 < eZ E by omega) (by omega) dL_law_198 ?_
  refine G_aload_n 200 rfl rfl dL_law_199 ?_
  refine G_iload_n 201 rfl rfl dL_law_200 ?_
  refine G_iconst 202 rfl (5) (by decide) dL_law_201 ?_
  refine G_iadd 203 rfl dL_law_202 ?_
  refine G_sload 204 rfl (a + 5) (nI_add a 5) (show a + 5 < eZ E by omega) (by omega) dL_law_203 ?_
  refine G_if_eq 211 207 rfl (by decide) dL_law_204 (fun c204 => ?_) (fun c204 => ?_)
  · skip
    refine G_iconst 212 rfl (0) (by decide) dL_law_211 ?_
    refine G_callV 215 rfl [.int (eX E (a + 1)), .int (eX E (a + 2)), .int (eX E (a + 3)), .int (eX E (a + 4)), .int 0] (c_X7_guard hR (eX E (a + 1)) (eX E (a + 2)) (eX E (a + 3)) (eX E (a + 4)) 0 (by decide) hJ.gc) ok_X7_guard ov_X7_guard ml_L_30 (hR.ob (ci := 7) (i := 0) (by decide) rfl) ⟨by decide, rfl⟩ rfl ⟨by decide, by decide⟩ rfl rfl (Nat.le_of_ble_eq_true rfl) rfl dL_law_212 ?_
    rintro v h (⟨p, g, hp, e, hph, ga, gb, hg, hg8, rfl, hR⟩ | ⟨hno, rfl, hR⟩)
    · skip
      refine G_aload_n 216 rfl rfl dL_law_215 ?_
      refine G_aload_n 217 rfl rfl dL_law_216 ?_
      refine G_iload_n 218 rfl rfl dL_law_217 ?_
      refine G_iconst 219 rfl (1) (by decide) dL_law_218 ?_
      refine G_iadd 220 rfl dL_law_219 ?_
      refine G_sload 221 rfl (a + 1) (nI_add a 1) (show a + 1 < eZ E by omega) (by omega) dL_law_220 ?_
      refine G_aload_n 222 rfl rfl dL_law_221 ?_
      refine G_iload_n 223 rfl rfl dL_law_222 ?_
      refine G_iconst 224 rfl (2) (by decide) dL_law_223 ?_
      refine G_iadd 225 rfl dL_law_224 ?_
      refine G_sload 226 rfl (a + 2) (nI_add a 2) (show a + 2 < eZ E by omega) (by omega) dL_law_225 ?_
      refine G_aload_n 227 rfl rfl dL_law_226 ?_
      refine G_iload_n 228 rfl rfl dL_law_227 ?_
      refine G_iconst 229 rfl (3) (by decide) dL_law_228 ?_
      refine G_iadd 230 rfl dL_law_229 ?_
      refine G_sload 231 rfl (a + 3) (nI_add a 3) (show a + 3 < eZ E by omega) (by omega) dL_law_230 ?_
      refine G_aload_n 232 rfl rfl dL_law_231 ?_
      refine G_iload_n 233 rfl rfl dL_law_232 ?_
      refine G_iconst 234 rfl (4) (by decide) dL_law_233 ?_
      refine G_iadd 235 rfl dL_law_234 ?_
      refine G_sload 236 rfl (a + 4) (nI_add a 4) (show a + 4 < eZ E by omega) (by omega) dL_law_235 ?_
      refine G_aload_n 237 rfl rfl dL_law_236 ?_
      refine G_iload_n 238 rfl rfl dL_law_237 ?_
      refine G_iconst 239 rfl (5) (by decide) dL_law_238 ?_
      refine G_iadd 240 rfl dL_law_239 ?_
      refine G_sload 241 rfl (a + 5) (nI_add a 5) (show a + 5 < eZ E by omega) (by omega) dL_law_240 ?_
      refine G_ifT_eq 248 c204 (by decide) dL_law_241 ?_
      refine G_iconst 249 rfl (0) (by decide) dL_law_248 ?_
      refine G_callV 252 rfl [.int (eX E (a + 1)), .int (eX E (a + 2)), .int (eX E (a + 3)), .int (eX E (a + 4)), .int 0] (m_guard hR (eX E (a + 1)) (eX E (a + 2)) (eX E (a + 3)) (eX E (a + 4)) 0 (by decide) hmy hJ.gcm) ok_X8_guard ov_X8_guard ml_L_34 (hR.ob (ci := 8) (i := 0) (by decide) rfl) ⟨by decide, rfl⟩ rfl ⟨by decide, by decide⟩ rfl rfl (Nat.le_of_ble_eq_true rfl) rfl dL_law_249 ?_
      rintro v h (⟨p', g', hp', e', hph', ga', gb', hg', hg8', rfl, hR⟩ | ⟨hno', rfl, hR⟩)
      · skip
        obtain rfl : p = p' := nI_inj (by omega) (by omega) (e.symm.trans e')
        obtain rfl : g = g' := nI_inj (by omega) (by omega) (hg.symm.trans ((hJ.t8 hp).symm.trans hg'))
        obtain ⟨c0, hc0, ec0⟩ := ix_of (n := 8) (by omega) gb.1 gb.2
        rw [ec0] at hR
        refine G_icmpT_eq 655 (rfl) (by decide) dL_law_252 ?_
        exact G_less (by first | omega | exact Nat.le_add_left _ _) (by first | omega | exact Nat.le_add_left _ _) (hfin _ _ _ hR (hJ.grdX hp hph hg hg8 _ _ _ hc0))
      · skip
        exfalso
        rcases hno' with q | q | q | ⟨r, hr, er, qr⟩
        · exact q p hp e (by rw [hJ.t7 hp]; exact hph)
        · exact q.elim ((a01 _).mp ga).1 ((a01 _).mp ga).2
        · exact q.elim gb.1 gb.2
        · obtain rfl : p = r := nI_inj (by omega) (by omega) (e.symm.trans er)
          exact absurd (nI_inj (b := 8) (by omega) (by omega) (hg.symm.trans ((hJ.t8 hp).symm.trans qr))) (by omega)
    · skip
      refine G_aload_n 216 rfl rfl dL_law_215 ?_
      refine G_aload_n 217 rfl rfl dL_law_216 ?_
      refine G_iload_n 218 rfl rfl dL_law_217 ?_
      refine G_iconst 219 rfl (1) (by decide) dL_law_218 ?_
      refine G_iadd 220 rfl dL_law_219 ?_
      refine G_sload 221 rfl (a + 1) (nI_add a 1) (show a + 1 < eZ E by omega) (by omega) dL_law_220 ?_
      refine G_aload_n 222 rfl rfl dL_law_221 ?_
      refine G_iload_n 223 rfl rfl dL_law_222 ?_
      refine G_iconst 224 rfl (2) (by decide) dL_law_223 ?_
      refine G_iadd 225 rfl dL_law_224 ?_
      refine G_sload 226 rfl (a + 2) (nI_add a 2) (show a + 2 < eZ E by omega) (by omega) dL_law_225 ?_
      refine G_aload_n 227 rfl rfl dL_law_226 ?_
      refine G_iload_n 228 rfl rfl dL_law_227 ?_
      refine G_iconst 229 rfl (3) (by decide) dL_law_228 ?_
      refine G_iadd 230 rfl dL_law_229 ?_
      refine G_sload 231 rfl (a + 3) (nI_add a 3) (show a + 3 < eZ E by omega) (by omega) dL_law_230 ?_
      refine G_aload_n 232 rfl rfl dL_law_231 ?_
      refine G_iload_n 233 rfl rfl dL_law_232 ?_
      refine G_iconst 234 rfl (4) (by decide) dL_law_233 ?_
      refine G_iadd 235 rfl dL_law_234 ?_
      refine G_sload 236 rfl (a + 4) (nI_add a 4) (show a + 4 < eZ E by omega) (by omega) dL_law_235 ?_
      refine G_aload_n 237 rfl rfl dL_law_236 ?_
      refine G_iload_n 238 rfl rfl dL_law_237 ?_
      refine G_iconst 239 rfl (5) (by decide) dL_law_238 ?_
      refine G_iadd 240 rfl dL_law_239 ?_
      refine G_sload 241 rfl (a + 5) (nI_add a 5) (show a + 5 < eZ E by omega) (by omega) dL_law_240 ?_
      refine G_ifT_eq 248 c204 (by decide) dL_law_241 ?_
      refine G_iconst 249 rfl (0) (by decide) dL_law_248 ?_
      refine G_callV 252 rfl [.int (eX E (a + 1)), .int (eX E (a + 2)), .int (eX E (a + 3)), .int (eX E (a + 4)), .int 0] (m_guard hR (eX E (a + 1)) (eX E (a + 2)) (eX E (a + 3)) (eX E (a + 4)) 0 (by decide) hmy hJ.gcm) ok_X8_guard ov_X8_guard ml_L_34 (hR.ob (ci := 8) (i := 0) (by decide) rfl) ⟨by decide, rfl⟩ rfl ⟨by decide, by decide⟩ rfl rfl (Nat.le_of_ble_eq_true rfl) rfl dL_law_249 ?_
      rintro v h (⟨p', g', hp', e', hph', ga', gb', hg', hg8', rfl, hR⟩ | ⟨hno', rfl, hR⟩)
      · skip
        exfalso
        rcases hno with q | q | q | ⟨r, hr, er, qr⟩
        · exact q p' hp' e' (by rw [← hJ.t7 hp']; exact hph')
        · exact ((a01 _).mpr ga').elim q.1 q.2
        · exact q.elim gb'.1 gb'.2
        · obtain rfl : p' = r := nI_inj (by omega) (by omega) (e'.symm.trans er)
          exact absurd (nI_inj (b := 8) (by omega) (by omega) (hg'.symm.trans ((hJ.t8 hp').trans qr))) (by omega)
      · skip
        refine G_icmpT_eq 655 (rfl) (by decide) dL_law_252 ?_
        exact G_less (by first | omega | exact Nat.le_add_left _ _) (by first | omega | exact Nat.le_add_left _ _) (hfin _ _ _ hR (hJ))
  · skip
    refine G_iconst 208 rfl (1) (by decide) dL_law_207 ?_
    refine G_goto 212 (by decide) dL_law_208 ?_
    refine G_callV 215 rfl [.int (eX E (a + 1)), .int (eX E (a + 2)), .int (eX E (a + 3)), .int (eX E (a + 4)), .int 1] (c_X7_guard hR (eX E (a + 1)) (eX E (a + 2)) (eX E (a + 3)) (eX E (a + 4)) 1 (by decide) hJ.gc) ok_X7_guard ov_X7_guard ml_L_30 (hR.ob (ci := 7) (i := 0) (by decide) rfl) ⟨by decide, rfl⟩ rfl ⟨by decide, by decide⟩ rfl rfl (Nat.le_of_ble_eq_true rfl) rfl dL_law_212 ?_
    rintro v h (⟨p, g, hp, e, hph, ga, gb, hg, hg8, rfl, hR⟩ | ⟨hno, rfl, hR⟩)
    · skip
      refine G_aload_n 216 rfl rfl dL_law_215 ?_
      refine G_aload_n 217 rfl rfl dL_law_216 ?_
      refine G_iload_n 218 rfl rfl dL_law_217 ?_
      refine G_iconst 219 rfl (1) (by decide) dL_law_218 ?_
      refine G_iadd 220 rfl dL_law_219 ?_
      refine G_sload 221 rfl (a + 1) (nI_add a 1) (show a + 1 < eZ E by omega) (by omega) dL_law_220 ?_
      refine G_aload_n 222 rfl rfl dL_law_221 ?_
      refine G_iload_n 223 rfl rfl dL_law_222 ?_
      refine G_iconst 224 rfl (2) (by decide) dL_law_223 ?_
      refine G_iadd 225 rfl dL_law_224 ?_
      refine G_sload 226 rfl (a + 2) (nI_add a 2) (show a + 2 < eZ E by omega) (by omega) dL_law_225 ?_
      refine G_aload_n 227 rfl rfl dL_law_226 ?_
      refine G_iload_n 228 rfl rfl dL_law_227 ?_
      refine G_iconst 229 rfl (3) (by decide) dL_law_228 ?_
      refine G_iadd 230 rfl dL_law_229 ?_
      refine G_sload 231 rfl (a + 3) (nI_add a 3) (show a + 3 < eZ E by omega) (by omega) dL_law_230 ?_
      refine G_aload_n 232 rfl rfl dL_law_231 ?_
      refine G_iload_n 233 rfl rfl dL_law_232 ?_
      refine G_iconst 234 rfl (4) (by decide) dL_law_233 ?_
      refine G_iadd 235 rfl dL_law_234 ?_
      refine G_sload 236 rfl (a + 4) (nI_add a 4) (show a + 4 < eZ E by omega) (by omega) dL_law_235 ?_
      refine G_aload_n 237 rfl rfl dL_law_236 ?_
      refine G_iload_n 238 rfl rfl dL_law_237 ?_
      refine G_iconst 239 rfl (5) (by decide) dL_law_238 ?_
      refine G_iadd 240 rfl dL_law_239 ?_
      refine G_sload 241 rfl (a + 5) (nI_add a 5) (show a + 5 < eZ E by omega) (by omega) dL_law_240 ?_
      refine G_ifF_eq 244 rfl c204 ⟨248, by decide⟩ dL_law_241 ?_
      refine G_iconst 245 rfl (1) (by decide) dL_law_244 ?_
      refine G_goto 249 (by decide) dL_law_245 ?_
      refine G_callV 252 rfl [.int (eX E (a + 1)), .int (eX E (a + 2)), .int (eX E (a + 3)), .int (eX E (a + 4)), .int 1] (m_guard hR (eX E (a + 1)) (eX E (a + 2)) (eX E (a + 3)) (eX E (a + 4)) 1 (by decide) hmy hJ.gcm) ok_X8_guard ov_X8_guard ml_L_34 (hR.ob (ci := 8) (i := 0) (by decide) rfl) ⟨by decide, rfl⟩ rfl ⟨by decide, by decide⟩ rfl rfl (Nat.le_of_ble_eq_true rfl) rfl dL_law_249 ?_
      rintro v h (⟨p', g', hp', e', hph', ga', gb', hg', hg8', rfl, hR⟩ | ⟨hno', rfl, hR⟩)
      · skip
        obtain rfl : p = p' := nI_inj (by omega) (by omega) (e.symm.trans e')
        obtain rfl : g = g' := nI_inj (by omega) (by omega) (hg.symm.trans ((hJ.t8 hp).symm.trans hg'))
        obtain ⟨c0, hc0, ec0⟩ := ix_of (n := 8) (by omega) gb.1 gb.2
        rw [ec0] at hR
        refine G_icmpT_eq 655 (rfl) (by decide) dL_law_252 ?_
        exact G_less (by first | omega | exact Nat.le_add_left _ _) (by first | omega | exact Nat.le_add_left _ _) (hfin _ _ _ hR (hJ.grdX hp hph hg hg8 _ _ _ hc0))
      · skip
        exfalso
        rcases hno' with q | q | q | ⟨r, hr, er, qr⟩
        · exact q p hp e (by rw [hJ.t7 hp]; exact hph)
        · exact q.elim ((a01 _).mp ga).1 ((a01 _).mp ga).2
        · exact q.elim gb.1 gb.2
        · obtain rfl : p = r := nI_inj (by omega) (by omega) (e.symm.trans er)
          exact absurd (nI_inj (b := 8) (by omega) (by omega) (hg.symm.trans ((hJ.t8 hp).symm.trans qr))) (by omega)
    · skip
      refine G_aload_n 216 rfl rfl dL_law_215 ?_
      refine G_aload_n 217 rfl rfl dL_law_216 ?_
      refine G_iload_n 218 rfl rfl dL_law_217 ?_
      refine G_iconst 219 rfl (1) (by decide) dL_law_218 ?_
      refine G_iadd 220 rfl dL_law_219 ?_
      refine G_sload 221 rfl (a + 1) (nI_add a 1) (show a + 1 < eZ E by omega) (by omega) dL_law_220 ?_
      refine G_aload_n 222 rfl rfl dL_law_221 ?_
      refine G_iload_n 223 rfl rfl dL_law_222 ?_
      refine G_iconst 224 rfl (2) (by decide) dL_law_223 ?_
      refine G_iadd 225 rfl dL_law_224 ?_
      refine G_sload 226 rfl (a + 2) (nI_add a 2) (show a + 2 < eZ E by omega) (by omega) dL_law_225 ?_
      refine G_aload_n 227 rfl rfl dL_law_226 ?_
      refine G_iload_n 228 rfl rfl dL_law_227 ?_
      refine G_iconst 229 rfl (3) (by decide) dL_law_228 ?_
      refine G_iadd 230 rfl dL_law_229 ?_
      refine G_sload 231 rfl (a + 3) (nI_add a 3) (show a + 3 < eZ E by omega) (by omega) dL_law_230 ?_
      refine G_aload_n 232 rfl rfl dL_law_231 ?_
      refine G_iload_n 233 rfl rfl dL_law_232 ?_
      refine G_iconst 234 rfl (4) (by decide) dL_law_233 ?_
      refine G_iadd 235 rfl dL_law_234 ?_
      refine G_sload 236 rfl (a + 4) (nI_add a 4) (show a + 4 < eZ E by omega) (by omega) dL_law_235 ?_
      refine G_aload_n 237 rfl rfl dL_law_236 ?_
      refine G_iload_n 238 rfl rfl dL_law_237 ?_
      refine G_iconst 239 rfl (5) (by decide) dL_law_238 ?_
      refine G_iadd 240 rfl dL_law_239 ?_
      refine G_sload 241 rfl (a + 5) (nI_add a 5) (show a + 5 < eZ E by omega) (by omega) dL_law_240 ?_
      refine G_ifF_eq 244 rfl c204 ⟨248, by decide⟩ dL_law_241 ?_
      refine G_iconst 245 rfl (1) (by decide) dL_law_244 ?_
      refine G_goto 249 (by decide) dL_law_245 ?_
      refine G_callV 252 rfl [.int (eX E (a + 1)), .int (eX E (a + 2)), .int (eX E (a + 3)), .int (eX E (a + 4)), .int 1] (m_guard hR (eX E (a + 1)) (eX E (a + 2)) (eX E (a + 3)) (eX E (a + 4)) 1 (by decide) hmy hJ.gcm) ok_X8_guard ov_X8_guard ml_L_34 (hR.ob (ci := 8) (i := 0) (by decide) rfl) ⟨by decide, rfl⟩ rfl ⟨by decide, by decide⟩ rfl rfl (Nat.le_of_ble_eq_true rfl) rfl dL_law_249 ?_
      rintro v h (⟨p', g', hp', e', hph', ga', gb', hg', hg8', rfl, hR⟩ | ⟨hno', rfl, hR⟩)
      · skip
        exfalso
        rcases hno with q | q | q | ⟨r, hr, er, qr⟩
        · exact q p' hp' e' (by rw [← hJ.t7 hp']; exact hph')
        · exact ((a01 _).mpr ga').elim q.1 q.2
        · exact q.elim gb'.1 gb'.2
        · obtain rfl : p' = r := nI_inj (by omega) (by omega) (e'.symm.trans er)
          exact absurd (nI_inj (b := 8) (by omega) (by omega) (hg'.symm.trans ((hJ.t8 hp').trans qr))) (by omega)
      · skip
        refine G_icmpT_eq 655 (rfl) (by decide) dL_law_252 ?_
        exact G_less (by first | omega | exact Nat.le_add_left _ _) (by first | omega | exact Nat.le_add_left _ _) (hfin _ _ _ hR (hJ))

set_option maxHeartbeats 4000000 in
set_option maxRecDepth 100000 in
theorem lw_step {E : Ev} {m : Nat} {σ : Sg} {τ : Tu} {h : Hp} (hR : RR E m σ τ h) (hJ : J m σ τ) {a ca sa : Nat} (ha : a + 6 ≤ eZ E) (hZ : eZ E ≤ 3073) (hfin : ∀ (σ' : Sg) (τ' : Tu) (h' : Hp), RR E m σ' τ' h' → J m σ' τ' → G E mL_law room_1 LwP 655 [some (.ref (eS E)), some (.ref (aX E)), some (.ref (aM E m)), some (.int (nI a))] [] h' ca sa) : G E mL_law room_1 LwP 313 [some (.ref (eS E)), some (.ref (aX E)), some (.ref (aM E m)), some (.int (nI a))] [] h (128 + ca) (768 + sa) := by
  have hm := hJ.1
  have hmy : τ 0 0 = nI m := hJ.2.1.1
  refine G_aload_n 314 rfl rfl dL_law_313 ?_
  refine G_aload_n 315 rfl rfl dL_law_314 ?_
  refine G_iload_n 316 rfl rfl dL_law_315 ?_
  refine G_iconst 317 rfl (1) (by decide) dL_law_316 ?_
  refine G_iadd 318 rfl dL_law_317 ?_
  refine G_sload 319 rfl (a + 1) (nI_add a 1) (show a + 1 < eZ E by omega) (by omega) dL_law_318 ?_
  refine G_callV 322 rfl [.int (eX E (a + 1))] (c_X7_step hR (eX E (a + 1)) (fun p hp => hJ.ao hp)) ok_X7_step ov_X7_step ml_L_44 (hR.ob (ci := 7) (i := 0) (by decide) rfl) ⟨by decide, rfl⟩ rfl ⟨by decide, by decide⟩ (ac' := 127 + ca) (as' := 762 + sa) (by show _ = _ + 1; omega) (by show _ = _ + 6; omega) (Nat.le_of_ble_eq_true rfl) rfl dL_law_319 ?_
  rintro v h (⟨p, hp, e, (⟨ho, rfl, hR⟩ | ⟨ho, rfl, hR⟩)⟩ | ⟨hb, rfl, hR⟩)
  · skip
    refine G_aload_n 323 rfl rfl dL_law_322 ?_
    refine G_aload_n 324 rfl rfl dL_law_323 ?_
    refine G_iload_n 325 rfl rfl dL_law_324 ?_
    refine G_iconst 326 rfl (1) (by decide) dL_law_325 ?_
    refine G_iadd 327 rfl dL_law_326 ?_
    refine G_sload 328 rfl (a + 1) (nI_add a 1) (show a + 1 < eZ E by omega) (by omega) dL_law_327 ?_
    refine G_callV 331 rfl [.int (eX E (a + 1))] (m_step hR (eX E (a + 1)) hmy hJ.rgm) ok_X8_step ov_X8_step ml_L_48 (hR.ob (ci := 8) (i := 0) (by decide) rfl) ⟨by decide, rfl⟩ rfl ⟨by decide, by decide⟩ rfl rfl (Nat.le_of_ble_eq_true rfl) rfl dL_law_328 ?_
    rintro v h (⟨p', hp', e', (⟨h0, rfl, hR⟩ | ⟨h0, rfl, hR⟩ | ⟨h0, rfl, hR⟩ | ⟨h0, rfl, hR⟩)⟩ | ⟨hb', rfl, hR⟩)
    · skip
      exfalso
      obtain rfl : p = p' := nI_inj (by omega) (by omega) (e.symm.trans e')
      exact ho.1 (by rw [← hJ.t7 hp, h0]; decide)
    · skip
      exfalso
      obtain rfl : p = p' := nI_inj (by omega) (by omega) (e.symm.trans e')
      exact ho.1 (by rw [← hJ.t7 hp, h0]; decide)
    · skip
      exfalso
      obtain rfl : p = p' := nI_inj (by omega) (by omega) (e.symm.trans e')
      exact ho.2 (by rw [← hJ.t7 hp, h0]; decide)
    · skip
      obtain rfl : p = p' := nI_inj (by omega) (by omega) (e.symm.trans e')
      refine G_icmpT_eq 655 ((hJ.howA hp ho.1 ho.2).symm) (by decide) dL_law_331 ?_
      exact G_less (by first | omega | exact Nat.le_add_left _ _) (by first | omega | exact Nat.le_add_left _ _) (hfin _ _ _ hR (hJ.accX hp ho.1 ho.2))
    · skip
      exfalso
      exact hb'.elim (by rw [e]; exact nI_pos (by omega)) (by rw [e]; exact nI_ge hp (by omega))
  · skip
    refine G_aload_n 323 rfl rfl dL_law_322 ?_
    refine G_aload_n 324 rfl rfl dL_law_323 ?_
    refine G_iload_n 325 rfl rfl dL_law_324 ?_
    refine G_iconst 326 rfl (1) (by decide) dL_law_325 ?_
    refine G_iadd 327 rfl dL_law_326 ?_
    refine G_sload 328 rfl (a + 1) (nI_add a 1) (show a + 1 < eZ E by omega) (by omega) dL_law_327 ?_
    refine G_callV 331 rfl [.int (eX E (a + 1))] (m_step hR (eX E (a + 1)) hmy hJ.rgm) ok_X8_step ov_X8_step ml_L_48 (hR.ob (ci := 8) (i := 0) (by decide) rfl) ⟨by decide, rfl⟩ rfl ⟨by decide, by decide⟩ rfl rfl (Nat.le_of_ble_eq_true rfl) rfl dL_law_328 ?_
    rintro v h (⟨p', hp', e', (⟨h0, rfl, hR⟩ | ⟨h0, rfl, hR⟩ | ⟨h0, rfl, hR⟩ | ⟨h0, rfl, hR⟩)⟩ | ⟨hb', rfl, hR⟩)
    · skip
      obtain rfl : p = p' := nI_inj (by omega) (by omega) (e.symm.trans e')
      refine G_icmpT_eq 655 (by unfold stdg; rw [if_pos (show σ.1 325 p = 0 by rw [← hJ.t7 hp]; exact h0)]) (by decide) dL_law_331 ?_
      exact G_less (by first | omega | exact Nat.le_add_left _ _) (by first | omega | exact Nat.le_add_left _ _) (hfin _ _ _ hR (hJ))
    · skip
      obtain rfl : p = p' := nI_inj (by omega) (by omega) (e.symm.trans e')
      refine G_icmpT_eq 655 (by unfold stdg; rw [show σ.1 325 p = 1 by rw [← hJ.t7 hp]; exact h0, if_neg (by decide), if_pos rfl]) (by decide) dL_law_331 ?_
      exact G_less (by first | omega | exact Nat.le_add_left _ _) (by first | omega | exact Nat.le_add_left _ _) (hfin _ _ _ hR (hJ))
    · skip
      obtain rfl : p = p' := nI_inj (by omega) (by omega) (e.symm.trans e')
      refine G_icmpT_eq 655 ((hJ.how hp (nb_of (c := 12) (show σ.1 325 p = nI 12 by rw [← hJ.t7 hp]; exact h0) (by omega))).symm) (by decide) dL_law_331 ?_
      exact G_less (by first | omega | exact Nat.le_add_left _ _) (by first | omega | exact Nat.le_add_left _ _) (hfin _ _ _ hR (hJ))
    · skip
      exfalso
      obtain rfl : p = p' := nI_inj (by omega) (by omega) (e.symm.trans e')
      exact ho (by rw [← hJ.t7 hp]; exact (hJ.rgm p hp h0.1 h0.2.1 h0.2.2).1)
    · skip
      exfalso
      exact hb'.elim (by rw [e]; exact nI_pos (by omega)) (by rw [e]; exact nI_ge hp (by omega))
  · skip
    refine G_aload_n 323 rfl rfl dL_law_322 ?_
    refine G_aload_n 324 rfl rfl dL_law_323 ?_
    refine G_iload_n 325 rfl rfl dL_law_324 ?_
    refine G_iconst 326 rfl (1) (by decide) dL_law_325 ?_
    refine G_iadd 327 rfl dL_law_326 ?_
    refine G_sload 328 rfl (a + 1) (nI_add a 1) (show a + 1 < eZ E by omega) (by omega) dL_law_327 ?_
    refine G_callV 331 rfl [.int (eX E (a + 1))] (m_step hR (eX E (a + 1)) hmy hJ.rgm) ok_X8_step ov_X8_step ml_L_48 (hR.ob (ci := 8) (i := 0) (by decide) rfl) ⟨by decide, rfl⟩ rfl ⟨by decide, by decide⟩ rfl rfl (Nat.le_of_ble_eq_true rfl) rfl dL_law_328 ?_
    rintro v h (⟨p', hp', e', (⟨h0, rfl, hR⟩ | ⟨h0, rfl, hR⟩ | ⟨h0, rfl, hR⟩ | ⟨h0, rfl, hR⟩)⟩ | ⟨hb', rfl, hR⟩)
    · skip
      exfalso
      exact hb.elim (by rw [e']; exact nI_pos (by omega)) (by rw [e']; exact nI_ge hp' (by omega))
    · skip
      exfalso
      exact hb.elim (by rw [e']; exact nI_pos (by omega)) (by rw [e']; exact nI_ge hp' (by omega))
    · skip
      exfalso
      exact hb.elim (by rw [e']; exact nI_pos (by omega)) (by rw [e']; exact nI_ge hp' (by omega))
    · skip
      exfalso
      exact hb.elim (by rw [e']; exact nI_pos (by omega)) (by rw [e']; exact nI_ge hp' (by omega))
    · skip
      refine G_icmpT_eq 655 (rfl) (by decide) dL_law_331 ?_
      exact G_less (by first | omega | exact Nat.le_add_left _ _) (by first | omega | exact Nat.le_add_left _ _) (hfin _ _ _ hR (hJ))

set_option maxHeartbeats 4000000 in
set_option maxRecDepth 100000 in
theorem lw_cancel {E : Ev} {m : Nat} {σ : Sg} {τ : Tu} {h : Hp} (hR : RR E m σ τ h) (hJ : J m σ τ) {a ca sa : Nat} (ha : a + 6 ≤ eZ E) (hZ : eZ E ≤ 3073) (hfin : ∀ (σ' : Sg) (τ' : Tu) (h' : Hp), RR E m σ' τ' h' → J m σ' τ' → G E mL_law room_1 LwP 655 [some (.ref (eS E)), some (.ref (aX E)), some (.ref (aM E m)), some (.int (nI a))] [] h' ca sa) : G E mL_law room_1 LwP 336 [some (.ref (eS E)), some (.ref (aX E)), some (.ref (aM E m)), some (.int (nI a))] [] h (128 + ca) (768 + sa) := by
  have hm := hJ.1
  have hmy : τ 0 0 = nI m := hJ.2.1.1
  obtain ⟨en, hen, hen2⟩ := hJ.enm
  refine G_aload_n 337 rfl rfl dL_law_336 ?_
  refine G_aload_n 338 rfl rfl dL_law_337 ?_
  refine G_iload_n 339 rfl rfl dL_law_338 ?_
  refine G_iconst 340 rfl (1) (by decide) dL_law_339 ?_
  refine G_iadd 341 rfl dL_law_340 ?_
  refine G_sload 342 rfl (a + 1) (nI_add a 1) (show a + 1 < eZ E by omega) (by omega) dL_law_341 ?_
  refine G_callV 345 rfl [.int (eX E (a + 1))] (c_X7_cancel hR (eX E (a + 1)) hJ.wdn) ok_X7_cancel ov_X7_cancel ml_L_49 (hR.ob (ci := 7) (i := 0) (by decide) rfl) ⟨by decide, rfl⟩ rfl ⟨by decide, by decide⟩ rfl rfl (Nat.le_of_ble_eq_true rfl) rfl dL_law_342 ?_
  rintro v h (⟨p, hp, e, ho, hw, rfl, hR⟩ | ⟨hno, rfl, hR⟩)
  · skip
    refine G_aload_n 346 rfl rfl dL_law_345 ?_
    refine G_aload_n 347 rfl rfl dL_law_346 ?_
    refine G_iload_n 348 rfl rfl dL_law_347 ?_
    refine G_iconst 349 rfl (1) (by decide) dL_law_348 ?_
    refine G_iadd 350 rfl dL_law_349 ?_
    refine G_sload 351 rfl (a + 1) (nI_add a 1) (show a + 1 < eZ E by omega) (by omega) dL_law_350 ?_
    refine G_callV 354 rfl [.int (eX E (a + 1))] (m_cancel hR (eX E (a + 1)) hmy hJ.vvm hen hen2) ok_X8_cancel ov_X8_cancel ml_L_52 (hR.ob (ci := 8) (i := 0) (by decide) rfl) ⟨by decide, rfl⟩ rfl ⟨by decide, by decide⟩ rfl rfl (Nat.le_of_ble_eq_true rfl) rfl dL_law_351 ?_
    rintro v h (⟨p', hp', e', ho', hw', rfl, hR⟩ | ⟨hno', rfl, hR⟩)
    · skip
      obtain rfl : p = p' := nI_inj (by omega) (by omega) (e.symm.trans e')
      refine G_icmpT_eq 655 (rfl) (by decide) dL_law_354 ?_
      exact G_less (by first | omega | exact Nat.le_add_left _ _) (by first | omega | exact Nat.le_add_left _ _) (hfin _ _ _ hR (hJ.cncX hp ho.1 ho.2 hw))
    · skip
      exfalso
      rcases hno' with (q | ⟨r, hr, er, qr⟩) | ⟨r, hr, er, qr⟩
      · exact q.elim (by rw [e]; exact nI_pos (by omega)) (by rw [e]; exact nI_ge hp (by omega))
      · obtain rfl : p = r := nI_inj (by omega) (by omega) (e.symm.trans er)
        exact qr (by rw [hJ.t7 hp]; exact ho)
      · obtain rfl : p = r := nI_inj (by omega) (by omega) (e.symm.trans er)
        exact qr (by rw [hJ.w15 hp]; exact hw)
  · skip
    refine G_aload_n 346 rfl rfl dL_law_345 ?_
    refine G_aload_n 347 rfl rfl dL_law_346 ?_
    refine G_iload_n 348 rfl rfl dL_law_347 ?_
    refine G_iconst 349 rfl (1) (by decide) dL_law_348 ?_
    refine G_iadd 350 rfl dL_law_349 ?_
    refine G_sload 351 rfl (a + 1) (nI_add a 1) (show a + 1 < eZ E by omega) (by omega) dL_law_350 ?_
    refine G_callV 354 rfl [.int (eX E (a + 1))] (m_cancel hR (eX E (a + 1)) hmy hJ.vvm hen hen2) ok_X8_cancel ov_X8_cancel ml_L_52 (hR.ob (ci := 8) (i := 0) (by decide) rfl) ⟨by decide, rfl⟩ rfl ⟨by decide, by decide⟩ rfl rfl (Nat.le_of_ble_eq_true rfl) rfl dL_law_351 ?_
    rintro v h (⟨p', hp', e', ho', hw', rfl, hR⟩ | ⟨hno', rfl, hR⟩)
    · skip
      exfalso
      rcases hno with q | ⟨r, hr, er, qr⟩
      · exact q.elim (by rw [e']; exact nI_pos (by omega)) (by rw [e']; exact nI_ge hp' (by omega))
      · obtain rfl : p' = r := nI_inj (by omega) (by omega) (e'.symm.trans er)
        exact qr.elim (fun z => z (by rw [← hJ.t7 hp']; exact ho')) (fun z => z (by rw [← hJ.w15 hp']; exact hw'))
    · skip
      refine G_icmpT_eq 655 (rfl) (by decide) dL_law_354 ?_
      exact G_less (by first | omega | exact Nat.le_add_left _ _) (by first | omega | exact Nat.le_add_left _ _) (hfin _ _ _ hR (hJ))

set_option maxHeartbeats 4000000 in
set_option maxRecDepth 100000 in
theorem lw_tick {E : Ev} {m : Nat} {σ : Sg} {τ : Tu} {h : Hp} (hR : RR E m σ τ h) (hJ : J m σ τ) {a ca sa : Nat} (ha : a + 6 ≤ eZ E) (hZ : eZ E ≤ 3073) (hfin : ∀ (σ' : Sg) (τ' : Tu) (h' : Hp), RR E m σ' τ' h' → J m σ' τ' → G E mL_law room_1 LwP 655 [some (.ref (eS E)), some (.ref (aX E)), some (.ref (aM E m)), some (.int (nI a))] [] h' ca sa) : G E mL_law room_1 LwP 382 [some (.ref (eS E)), some (.ref (aX E)), some (.ref (aM E m)), some (.int (nI a))] [] h (128 + ca) (768 + sa) := by
  have hm := hJ.1
  have hmy : τ 0 0 = nI m := hJ.2.1.1
  refine G_aload_n 383 rfl rfl dL_law_382 ?_
  refine G_callV 386 rfl [] (c_X7_tick hR) ok_X7_tick ov_X7_tick ml_L_57 (hR.ob (ci := 7) (i := 0) (by decide) rfl) ⟨by decide, rfl⟩ rfl ⟨by decide, by decide⟩ rfl rfl (Nat.le_of_ble_eq_true rfl) rfl dL_law_383 ?_
  rintro v h ⟨rfl, hR⟩
  refine G_aload_n 387 rfl rfl dL_law_386 ?_
  refine G_callV 390 rfl [] (m_tick hR) ok_X8_tick ov_X8_tick ml_L_61 (hR.ob (ci := 8) (i := 0) (by decide) rfl) ⟨by decide, rfl⟩ rfl ⟨by decide, by decide⟩ rfl rfl (Nat.le_of_ble_eq_true rfl) rfl dL_law_387 ?_
  rintro v h ⟨rfl, hR⟩
  refine G_icmpT_eq 655 (by rw [hJ.2.1.2.1]) (by decide) dL_law_390 ?_
  exact G_less (by first | omega | exact Nat.le_add_left _ _) (by first | omega | exact Nat.le_add_left _ _) (hfin _ _ _ hR (by rw [show τ 1 0 = σ.1 451 0 from hJ.2.1.2.1]; exact hJ.glob (f := 451) (k := 1) (by omega) _))

set_option maxHeartbeats 4000000 in
set_option maxRecDepth 100000 in
theorem lw_run {E : Ev} {m : Nat} {σ : Sg} {τ : Tu} {h : Hp} (hR : RR E m σ τ h) (hJ : J m σ τ) {a ca sa : Nat} (ha : a + 6 ≤ eZ E) (hZ : eZ E ≤ 3073) (hfin : ∀ (σ' : Sg) (τ' : Tu) (h' : Hp), RR E m σ' τ' h' → J m σ' τ' → G E mL_law room_1 LwP 655 [some (.ref (eS E)), some (.ref (aX E)), some (.ref (aM E m)), some (.int (nI a))] [] h' ca sa) : G E mL_law room_1 LwP 395 [some (.ref (eS E)), some (.ref (aX E)), some (.ref (aM E m)), some (.int (nI a))] [] h (128 + ca) (768 + sa) := by
  have hm := hJ.1
  have hmy : τ 0 0 = nI m := hJ.2.1.1
  refine G_aload_n 396 rfl rfl dL_law_395 ?_
  refine G_aload_n 397 rfl rfl dL_law_396 ?_
  refine G_iload_n 398 rfl rfl dL_law_397 ?_
  refine G_iconst 399 rfl (1) (by decide) dL_law_398 ?_
  refine G_iadd 400 rfl dL_law_399 ?_
  refine G_sload 401 rfl (a + 1) (nI_add a 1) (show a + 1 < eZ E by omega) (by omega) dL_law_400 ?_
  refine G_aload_n 402 rfl rfl dL_law_401 ?_
  refine G_iload_n 403 rfl rfl dL_law_402 ?_
  refine G_iconst 404 rfl (2) (by decide) dL_law_403 ?_
  refine G_iadd 405 rfl dL_law_404 ?_
  refine G_sload 406 rfl (a + 2) (nI_add a 2) (show a + 2 < eZ E by omega) (by omega) dL_law_405 ?_
  refine G_callV 409 rfl [.int (eX E (a + 1)), .int (eX E (a + 2))] (c_X7_run hR (eX E (a + 1)) (eX E (a + 2)) (Inv := fun σ => ∃ τ, J m σ τ) (Pt := Pt m) (fun σ p ⟨τ, h⟩ hp => h.ao hp) (fun σ p ⟨τ, h⟩ hp ho => ⟨_, h.accX hp ho.1 ho.2⟩) (fun σ p ⟨τ, h⟩ hp _ => h.hpt hp) (fun σ p ⟨τ, h⟩ hp h2 hd => h.hpq hp h2 hd) ⟨τ, hJ⟩ hJ.pt) ok_X7_run ov_X7_run ml_L_62 (hR.ob (ci := 7) (i := 0) (by decide) rfl) ⟨by decide, rfl⟩ rfl ⟨by decide, by decide⟩ (ac' := ca) (as' := sa) (by show _ = _ + 128; omega) (by show _ = _ + 768; omega) (Nat.le_of_ble_eq_true rfl) rfl dL_law_406 ?_
  rintro v h (⟨N, hN, e, rfl, hR⟩ | ⟨hno, rfl, hR⟩)
  · skip
    refine G_aload_n 410 rfl rfl dL_law_409 ?_
    refine G_aload_n 411 rfl rfl dL_law_410 ?_
    refine G_iload_n 412 rfl rfl dL_law_411 ?_
    refine G_iconst 413 rfl (1) (by decide) dL_law_412 ?_
    refine G_iadd 414 rfl dL_law_413 ?_
    refine G_sload 415 rfl (a + 1) (nI_add a 1) (show a + 1 < eZ E by omega) (by omega) dL_law_414 ?_
    refine G_aload_n 416 rfl rfl dL_law_415 ?_
    refine G_iload_n 417 rfl rfl dL_law_416 ?_
    refine G_iconst 418 rfl (2) (by decide) dL_law_417 ?_
    refine G_iadd 419 rfl dL_law_418 ?_
    refine G_sload 420 rfl (a + 2) (nI_add a 2) (show a + 2 < eZ E by omega) (by omega) dL_law_419 ?_
    refine G_callV 423 rfl [.int (eX E (a + 1)), .int (eX E (a + 2))] (m_run hR (eX E (a + 1)) (eX E (a + 2)) (InvM := fun τ => ∃ σ, J m σ τ) (fun τ p ⟨σ, h⟩ hp _ _ => h.mo hp) (fun τ p ⟨σ, h⟩ hp h2 h11 => ⟨_, h.accX hp (by rw [← h.t7 hp]; exact h2) (by rw [← h.t7 hp]; exact h11)⟩) (fun τ ⟨σ, h⟩ => h.2.1.1) ⟨σ, hJ⟩) ok_X8_run ov_X8_run ml_L_66 (hR.ob (ci := 8) (i := 0) (by decide) rfl) ⟨by decide, rfl⟩ rfl ⟨by decide, by decide⟩ rfl rfl (Nat.le_of_ble_eq_true rfl) rfl dL_law_420 ?_
    rintro v h (⟨N', hN', e', rfl, hR⟩ | ⟨hno', rfl, hR⟩)
    · skip
      obtain rfl : N = N' := nI_inj (by omega) (by omega) (e.symm.trans e')
      refine G_icmpT_eq 655 (by rw [(J.runX N _ hJ).2.1.2.2.2.1, hJ.2.1.2.2.2.1]) (by decide) dL_law_423 ?_
      exact G_less (by first | omega | exact Nat.le_add_left _ _) (by first | omega | exact Nat.le_add_left _ _) (hfin _ _ _ hR (J.runX N _ hJ))
    · skip
      exfalso
      exact hno'.elim (by rw [e]; exact nI_pos (by omega)) (by rw [e]; exact fun z => absurd (nI_le (b := 5000) hN (by omega)) (Int32.not_le.mpr z))
  · skip
    refine G_aload_n 410 rfl rfl dL_law_409 ?_
    refine G_aload_n 411 rfl rfl dL_law_410 ?_
    refine G_iload_n 412 rfl rfl dL_law_411 ?_
    refine G_iconst 413 rfl (1) (by decide) dL_law_412 ?_
    refine G_iadd 414 rfl dL_law_413 ?_
    refine G_sload 415 rfl (a + 1) (nI_add a 1) (show a + 1 < eZ E by omega) (by omega) dL_law_414 ?_
    refine G_aload_n 416 rfl rfl dL_law_415 ?_
    refine G_iload_n 417 rfl rfl dL_law_416 ?_
    refine G_iconst 418 rfl (2) (by decide) dL_law_417 ?_
    refine G_iadd 419 rfl dL_law_418 ?_
    refine G_sload 420 rfl (a + 2) (nI_add a 2) (show a + 2 < eZ E by omega) (by omega) dL_law_419 ?_
    refine G_callV 423 rfl [.int (eX E (a + 1)), .int (eX E (a + 2))] (m_run hR (eX E (a + 1)) (eX E (a + 2)) (InvM := fun τ => ∃ σ, J m σ τ) (fun τ p ⟨σ, h⟩ hp _ _ => h.mo hp) (fun τ p ⟨σ, h⟩ hp h2 h11 => ⟨_, h.accX hp (by rw [← h.t7 hp]; exact h2) (by rw [← h.t7 hp]; exact h11)⟩) (fun τ ⟨σ, h⟩ => h.2.1.1) ⟨σ, hJ⟩) ok_X8_run ov_X8_run ml_L_66 (hR.ob (ci := 8) (i := 0) (by decide) rfl) ⟨by decide, rfl⟩ rfl ⟨by decide, by decide⟩ rfl rfl (Nat.le_of_ble_eq_true rfl) rfl dL_law_420 ?_
    rintro v h (⟨N', hN', e', rfl, hR⟩ | ⟨hno', rfl, hR⟩)
    · skip
      exfalso
      exact hno.elim (by rw [e']; exact nI_pos (by omega)) (by rw [e']; exact fun z => absurd (nI_le (b := 5000) hN' (by omega)) (Int32.not_le.mpr z))
    · skip
      refine G_icmpT_eq 655 (rfl) (by decide) dL_law_423 ?_
      exact G_less (by first | omega | exact Nat.le_add_left _ _) (by first | omega | exact Nat.le_add_left _ _) (hfin _ _ _ hR (hJ))

set_option maxHeartbeats 4000000 in
set_option maxRecDepth 100000 in
theorem lw_phase {E : Ev} {m : Nat} {σ : Sg} {τ : Tu} {h : Hp} (hR : RR E m σ τ h) (hJ : J m σ τ) {a ca sa : Nat} (ha : a + 6 ≤ eZ E) (hZ : eZ E ≤ 3073) (hfin : ∀ (σ' : Sg) (τ' : Tu) (h' : Hp), RR E m σ' τ' h' → J m σ' τ' → G E mL_law room_1 LwP 655 [some (.ref (eS E)), some (.ref (aX E)), some (.ref (aM E m)), some (.int (nI a))] [] h' ca sa) : G E mL_law room_1 LwP 428 [some (.ref (eS E)), some (.ref (aX E)), some (.ref (aM E m)), some (.int (nI a))] [] h (128 + ca) (768 + sa) := by
  have hm := hJ.1
  have hmy : τ 0 0 = nI m := hJ.2.1.1
  refine G_aload_n 429 rfl rfl dL_law_428 ?_
  refine G_aload_n 430 rfl rfl dL_law_429 ?_
  refine G_iload_n 431 rfl rfl dL_law_430 ?_
  refine G_iconst 432 rfl (1) (by decide) dL_law_431 ?_
  refine G_iadd 433 rfl dL_law_432 ?_
  refine G_sload 434 rfl (a + 1) (nI_add a 1) (show a + 1 < eZ E by omega) (by omega) dL_law_433 ?_
  refine G_callV 437 rfl [.int (eX E (a + 1))] (c_X7_phase hR (eX E (a + 1))) ok_X7_phase ov_X7_phase ml_L_67 (hR.ob (ci := 7) (i := 0) (by decide) rfl) ⟨by decide, rfl⟩ rfl ⟨by decide, by decide⟩ rfl rfl (Nat.le_of_ble_eq_true rfl) rfl dL_law_434 ?_
  rintro v h' ⟨(⟨p, hp, e, rfl⟩ | ⟨hb, rfl⟩), rfl⟩
  · skip
    refine G_aload_n 438 rfl rfl dL_law_437 ?_
    refine G_aload_n 439 rfl rfl dL_law_438 ?_
    refine G_iload_n 440 rfl rfl dL_law_439 ?_
    refine G_iconst 441 rfl (1) (by decide) dL_law_440 ?_
    refine G_iadd 442 rfl dL_law_441 ?_
    refine G_sload 443 rfl (a + 1) (nI_add a 1) (show a + 1 < eZ E by omega) (by omega) dL_law_442 ?_
    refine G_callV 446 rfl [.int (eX E (a + 1))] (m_phase hR (eX E (a + 1)) hmy) ok_X8_phase ov_X8_phase ml_L_70 (hR.ob (ci := 8) (i := 0) (by decide) rfl) ⟨by decide, rfl⟩ rfl ⟨by decide, by decide⟩ rfl rfl (Nat.le_of_ble_eq_true rfl) rfl dL_law_443 ?_
    rintro v h' ⟨(⟨p', hp', e', rfl⟩ | ⟨hb', rfl⟩), rfl⟩
    · skip
      obtain rfl : p = p' := nI_inj (by omega) (by omega) (e.symm.trans e')
      refine G_icmpT_eq 655 ((hJ.t7 hp).symm) (by decide) dL_law_446 ?_
      exact G_less (by first | omega | exact Nat.le_add_left _ _) (by first | omega | exact Nat.le_add_left _ _) (hfin _ _ _ hR (hJ))
    · skip
      exfalso
      exact hb'.elim (by rw [e]; exact nI_pos (by omega)) (by rw [e]; exact nI_ge hp (by omega))
  · skip
    refine G_aload_n 438 rfl rfl dL_law_437 ?_
    refine G_aload_n 439 rfl rfl dL_law_438 ?_
    refine G_iload_n 440 rfl rfl dL_law_439 ?_
    refine G_iconst 441 rfl (1) (by decide) dL_law_440 ?_
    refine G_iadd 442 rfl dL_law_441 ?_
    refine G_sload 443 rfl (a + 1) (nI_add a 1) (show a + 1 < eZ E by omega) (by omega) dL_law_442 ?_
    refine G_callV 446 rfl [.int (eX E (a + 1))] (m_phase hR (eX E (a + 1)) hmy) ok_X8_phase ov_X8_phase ml_L_70 (hR.ob (ci := 8) (i := 0) (by decide) rfl) ⟨by decide, rfl⟩ rfl ⟨by decide, by decide⟩ rfl rfl (Nat.le_of_ble_eq_true rfl) rfl dL_law_443 ?_
    rintro v h' ⟨(⟨p', hp', e', rfl⟩ | ⟨hb', rfl⟩), rfl⟩
    · skip
      exfalso
      exact hb.elim (by rw [e']; exact nI_pos (by omega)) (by rw [e']; exact nI_ge hp' (by omega))
    · skip
      refine G_icmpT_eq 655 (rfl) (by decide) dL_law_446 ?_
      exact G_less (by first | omega | exact Nat.le_add_left _ _) (by first | omega | exact Nat.le_add_left _ _) (hfin _ _ _ hR (hJ))

set_option maxHeartbeats 4000000 in
set_option maxRecDepth 100000 in
theorem lw_word {E : Ev} {m : Nat} {σ : Sg} {τ : Tu} {h : Hp} (hR : RR E m σ τ h) (hJ : J m σ τ) {a ca sa : Nat} (ha : a + 6 ≤ eZ E) (hZ : eZ E ≤ 3073) (hfin : ∀ (σ' : Sg) (τ' : Tu) (h' : Hp), RR E m σ' τ' h' → J m σ' τ' → G E mL_law room_1 LwP 655 [some (.ref (eS E)), some (.ref (aX E)), some (.ref (aM E m)), some (.int (nI a))] [] h' ca sa) : G E mL_law room_1 LwP 451 [some (.ref (eS E)), some (.ref (aX E)), some (.ref (aM E m)), some (.int (nI a))] [] h (128 + ca) (768 + sa) := by
  have hm := hJ.1
  have hmy : τ 0 0 = nI m := hJ.2.1.1
  refine G_aload_n 452 rfl rfl dL_law_451 ?_
  refine G_aload_n 453 rfl rfl dL_law_452 ?_
  refine G_iload_n 454 rfl rfl dL_law_453 ?_
  refine G_iconst 455 rfl (1) (by decide) dL_law_454 ?_
  refine G_iadd 456 rfl dL_law_455 ?_
  refine G_sload 457 rfl (a + 1) (nI_add a 1) (show a + 1 < eZ E by omega) (by omega) dL_law_456 ?_
  refine G_aload_n 458 rfl rfl dL_law_457 ?_
  refine G_iload_n 459 rfl rfl dL_law_458 ?_
  refine G_iconst 460 rfl (2) (by decide) dL_law_459 ?_
  refine G_iadd 461 rfl dL_law_460 ?_
  refine G_sload 462 rfl (a + 2) (nI_add a 2) (show a + 2 < eZ E by omega) (by omega) dL_law_461 ?_
  refine G_callV 465 rfl [.int (eX E (a + 1)), .int (eX E (a + 2))] (c_X7_word hR (eX E (a + 1)) (eX E (a + 2))) ok_X7_word ov_X7_word ml_L_71 (hR.ob (ci := 7) (i := 0) (by decide) rfl) ⟨by decide, rfl⟩ rfl ⟨by decide, by decide⟩ rfl rfl (Nat.le_of_ble_eq_true rfl) rfl dL_law_462 ?_
  rintro v h' ⟨(⟨p, hp, e, rfl⟩ | ⟨hb, rfl⟩), rfl⟩
  · skip
    refine G_aload_n 466 rfl rfl dL_law_465 ?_
    refine G_aload_n 467 rfl rfl dL_law_466 ?_
    refine G_iload_n 468 rfl rfl dL_law_467 ?_
    refine G_iconst 469 rfl (1) (by decide) dL_law_468 ?_
    refine G_iadd 470 rfl dL_law_469 ?_
    refine G_sload 471 rfl (a + 1) (nI_add a 1) (show a + 1 < eZ E by omega) (by omega) dL_law_470 ?_
    refine G_aload_n 472 rfl rfl dL_law_471 ?_
    refine G_iload_n 473 rfl rfl dL_law_472 ?_
    refine G_iconst 474 rfl (2) (by decide) dL_law_473 ?_
    refine G_iadd 475 rfl dL_law_474 ?_
    refine G_sload 476 rfl (a + 2) (nI_add a 2) (show a + 2 < eZ E by omega) (by omega) dL_law_475 ?_
    refine G_callV 479 rfl [.int (eX E (a + 1)), .int (eX E (a + 2))] (m_word hR (eX E (a + 1)) hmy (eX E (a + 2))) ok_X8_word ov_X8_word ml_L_74 (hR.ob (ci := 8) (i := 0) (by decide) rfl) ⟨by decide, rfl⟩ rfl ⟨by decide, by decide⟩ rfl rfl (Nat.le_of_ble_eq_true rfl) rfl dL_law_476 ?_
    rintro v h' ⟨(⟨p', hp', e', rfl⟩ | ⟨hb', rfl⟩), rfl⟩
    · skip
      obtain rfl : p = p' := nI_inj (by omega) (by omega) (e.symm.trans e')
      refine G_icmpT_eq 655 ((hJ.wordX hp _).symm) (by decide) dL_law_479 ?_
      exact G_less (by first | omega | exact Nat.le_add_left _ _) (by first | omega | exact Nat.le_add_left _ _) (hfin _ _ _ hR (hJ))
    · skip
      exfalso
      exact hb'.elim (by rw [e]; exact nI_pos (by omega)) (by rw [e]; exact nI_ge hp (by omega))
  · skip
    refine G_aload_n 466 rfl rfl dL_law_465 ?_
    refine G_aload_n 467 rfl rfl dL_law_466 ?_
    refine G_iload_n 468 rfl rfl dL_law_467 ?_
    refine G_iconst 469 rfl (1) (by decide) dL_law_468 ?_
    refine G_iadd 470 rfl dL_law_469 ?_
    refine G_sload 471 rfl (a + 1) (nI_add a 1) (show a + 1 < eZ E by omega) (by omega) dL_law_470 ?_
    refine G_aload_n 472 rfl rfl dL_law_471 ?_
    refine G_iload_n 473 rfl rfl dL_law_472 ?_
    refine G_iconst 474 rfl (2) (by decide) dL_law_473 ?_
    refine G_iadd 475 rfl dL_law_474 ?_
    refine G_sload 476 rfl (a + 2) (nI_add a 2) (show a + 2 < eZ E by omega) (by omega) dL_law_475 ?_
    refine G_callV 479 rfl [.int (eX E (a + 1)), .int (eX E (a + 2))] (m_word hR (eX E (a + 1)) hmy (eX E (a + 2))) ok_X8_word ov_X8_word ml_L_74 (hR.ob (ci := 8) (i := 0) (by decide) rfl) ⟨by decide, rfl⟩ rfl ⟨by decide, by decide⟩ rfl rfl (Nat.le_of_ble_eq_true rfl) rfl dL_law_476 ?_
    rintro v h' ⟨(⟨p', hp', e', rfl⟩ | ⟨hb', rfl⟩), rfl⟩
    · skip
      exfalso
      exact hb.elim (by rw [e']; exact nI_pos (by omega)) (by rw [e']; exact nI_ge hp' (by omega))
    · skip
      refine G_icmpT_eq 655 (rfl) (by decide) dL_law_479 ?_
      exact G_less (by first | omega | exact Nat.le_add_left _ _) (by first | omega | exact Nat.le_add_left _ _) (hfin _ _ _ hR (hJ))

set_option maxHeartbeats 4000000 in
set_option maxRecDepth 100000 in
theorem lw_outcome {E : Ev} {m : Nat} {σ : Sg} {τ : Tu} {h : Hp} (hR : RR E m σ τ h) (hJ : J m σ τ) {a ca sa : Nat} (ha : a + 6 ≤ eZ E) (hZ : eZ E ≤ 3073) (hfin : ∀ (σ' : Sg) (τ' : Tu) (h' : Hp), RR E m σ' τ' h' → J m σ' τ' → G E mL_law room_1 LwP 655 [some (.ref (eS E)), some (.ref (aX E)), some (.ref (aM E m)), some (.int (nI a))] [] h' ca sa) : G E mL_law room_1 LwP 484 [some (.ref (eS E)), some (.ref (aX E)), some (.ref (aM E m)), some (.int (nI a))] [] h (128 + ca) (768 + sa) := by
  have hm := hJ.1
  have hmy : τ 0 0 = nI m := hJ.2.1.1
  refine G_aload_n 485 rfl rfl dL_law_484 ?_
  refine G_aload_n 486 rfl rfl dL_law_485 ?_
  refine G_iload_n 487 rfl rfl dL_law_486 ?_
  refine G_iconst 488 rfl (1) (by decide) dL_law_487 ?_
  refine G_iadd 489 rfl dL_law_488 ?_
  refine G_sload 490 rfl (a + 1) (nI_add a 1) (show a + 1 < eZ E by omega) (by omega) dL_law_489 ?_
  refine G_aload_n 491 rfl rfl dL_law_490 ?_
  refine G_iload_n 492 rfl rfl dL_law_491 ?_
  refine G_iconst 493 rfl (2) (by decide) dL_law_492 ?_
  refine G_iadd 494 rfl dL_law_493 ?_
  refine G_sload 495 rfl (a + 2) (nI_add a 2) (show a + 2 < eZ E by omega) (by omega) dL_law_494 ?_
  refine G_callV 498 rfl [.int (eX E (a + 1)), .int (eX E (a + 2))] (c_X7_outcome hR (eX E (a + 1)) (eX E (a + 2))) ok_X7_outcome ov_X7_outcome ml_L_75 (hR.ob (ci := 7) (i := 0) (by decide) rfl) ⟨by decide, rfl⟩ rfl ⟨by decide, by decide⟩ rfl rfl (Nat.le_of_ble_eq_true rfl) rfl dL_law_495 ?_
  rintro v h' ⟨(⟨p, hp, e, rfl⟩ | ⟨hb, rfl⟩), rfl⟩
  · skip
    refine G_aload_n 499 rfl rfl dL_law_498 ?_
    refine G_aload_n 500 rfl rfl dL_law_499 ?_
    refine G_iload_n 501 rfl rfl dL_law_500 ?_
    refine G_iconst 502 rfl (1) (by decide) dL_law_501 ?_
    refine G_iadd 503 rfl dL_law_502 ?_
    refine G_sload 504 rfl (a + 1) (nI_add a 1) (show a + 1 < eZ E by omega) (by omega) dL_law_503 ?_
    refine G_aload_n 505 rfl rfl dL_law_504 ?_
    refine G_iload_n 506 rfl rfl dL_law_505 ?_
    refine G_iconst 507 rfl (2) (by decide) dL_law_506 ?_
    refine G_iadd 508 rfl dL_law_507 ?_
    refine G_sload 509 rfl (a + 2) (nI_add a 2) (show a + 2 < eZ E by omega) (by omega) dL_law_508 ?_
    refine G_callV 512 rfl [.int (eX E (a + 1)), .int (eX E (a + 2))] (m_outcome hR (eX E (a + 1)) hmy (eX E (a + 2))) ok_X8_outcome ov_X8_outcome ml_L_78 (hR.ob (ci := 8) (i := 0) (by decide) rfl) ⟨by decide, rfl⟩ rfl ⟨by decide, by decide⟩ rfl rfl (Nat.le_of_ble_eq_true rfl) rfl dL_law_509 ?_
    rintro v h' ⟨(⟨p', hp', e', rfl⟩ | ⟨hb', rfl⟩), rfl⟩
    · skip
      obtain rfl : p = p' := nI_inj (by omega) (by omega) (e.symm.trans e')
      refine G_icmpT_eq 655 ((hJ.outX hp _).symm) (by decide) dL_law_512 ?_
      exact G_less (by first | omega | exact Nat.le_add_left _ _) (by first | omega | exact Nat.le_add_left _ _) (hfin _ _ _ hR (hJ))
    · skip
      exfalso
      exact hb'.elim (by rw [e]; exact nI_pos (by omega)) (by rw [e]; exact nI_ge hp (by omega))
  · skip
    refine G_aload_n 499 rfl rfl dL_law_498 ?_
    refine G_aload_n 500 rfl rfl dL_law_499 ?_
    refine G_iload_n 501 rfl rfl dL_law_500 ?_
    refine G_iconst 502 rfl (1) (by decide) dL_law_501 ?_
    refine G_iadd 503 rfl dL_law_502 ?_
    refine G_sload 504 rfl (a + 1) (nI_add a 1) (show a + 1 < eZ E by omega) (by omega) dL_law_503 ?_
    refine G_aload_n 505 rfl rfl dL_law_504 ?_
    refine G_iload_n 506 rfl rfl dL_law_505 ?_
    refine G_iconst 507 rfl (2) (by decide) dL_law_506 ?_
    refine G_iadd 508 rfl dL_law_507 ?_
    refine G_sload 509 rfl (a + 2) (nI_add a 2) (show a + 2 < eZ E by omega) (by omega) dL_law_508 ?_
    refine G_callV 512 rfl [.int (eX E (a + 1)), .int (eX E (a + 2))] (m_outcome hR (eX E (a + 1)) hmy (eX E (a + 2))) ok_X8_outcome ov_X8_outcome ml_L_78 (hR.ob (ci := 8) (i := 0) (by decide) rfl) ⟨by decide, rfl⟩ rfl ⟨by decide, by decide⟩ rfl rfl (Nat.le_of_ble_eq_true rfl) rfl dL_law_509 ?_
    rintro v h' ⟨(⟨p', hp', e', rfl⟩ | ⟨hb', rfl⟩), rfl⟩
    · skip
      exfalso
      exact hb.elim (by rw [e']; exact nI_pos (by omega)) (by rw [e']; exact nI_ge hp' (by omega))
    · skip
      refine G_icmpT_eq 655 (rfl) (by decide) dL_law_512 ?_
      exact G_less (by first | omega | exact Nat.le_add_left _ _) (by first | omega | exact Nat.le_add_left _ _) (hfin _ _ _ hR (hJ))

set_option maxHeartbeats 4000000 in
set_option maxRecDepth 100000 in
theorem lw_entry {E : Ev} {m : Nat} {σ : Sg} {τ : Tu} {h : Hp} (hR : RR E m σ τ h) (hJ : J m σ τ) {a ca sa : Nat} (ha : a + 6 ≤ eZ E) (hZ : eZ E ≤ 3073) (hfin : ∀ (σ' : Sg) (τ' : Tu) (h' : Hp), RR E m σ' τ' h' → J m σ' τ' → G E mL_law room_1 LwP 655 [some (.ref (eS E)), some (.ref (aX E)), some (.ref (aM E m)), some (.int (nI a))] [] h' ca sa) : G E mL_law room_1 LwP 517 [some (.ref (eS E)), some (.ref (aX E)), some (.ref (aM E m)), some (.int (nI a))] [] h (128 + ca) (768 + sa) := by
  have hm := hJ.1
  have hmy : τ 0 0 = nI m := hJ.2.1.1
  obtain ⟨en, hen, hen2⟩ := hJ.enm
  refine G_aload_n 518 rfl rfl dL_law_517 ?_
  refine G_aload_n 519 rfl rfl dL_law_518 ?_
  refine G_iload_n 520 rfl rfl dL_law_519 ?_
  refine G_iconst 521 rfl (1) (by decide) dL_law_520 ?_
  refine G_iadd 522 rfl dL_law_521 ?_
  refine G_sload 523 rfl (a + 1) (nI_add a 1) (show a + 1 < eZ E by omega) (by omega) dL_law_522 ?_
  refine G_aload_n 524 rfl rfl dL_law_523 ?_
  refine G_iload_n 525 rfl rfl dL_law_524 ?_
  refine G_iconst 526 rfl (2) (by decide) dL_law_525 ?_
  refine G_iadd 527 rfl dL_law_526 ?_
  refine G_sload 528 rfl (a + 2) (nI_add a 2) (show a + 2 < eZ E by omega) (by omega) dL_law_527 ?_
  refine G_aload_n 529 rfl rfl dL_law_528 ?_
  refine G_iload_n 530 rfl rfl dL_law_529 ?_
  refine G_iconst 531 rfl (3) (by decide) dL_law_530 ?_
  refine G_iadd 532 rfl dL_law_531 ?_
  refine G_sload 533 rfl (a + 3) (nI_add a 3) (show a + 3 < eZ E by omega) (by omega) dL_law_532 ?_
  refine G_callV 536 rfl [.int (eX E (a + 1)), .int (eX E (a + 2)), .int (eX E (a + 3))] (c_X7_entry hR (eX E (a + 1)) (eX E (a + 2)) (eX E (a + 3)) hJ.vdl) ok_X7_entry ov_X7_entry ml_L_79 (hR.ob (ci := 7) (i := 0) (by decide) rfl) ⟨by decide, rfl⟩ rfl ⟨by decide, by decide⟩ rfl rfl (Nat.le_of_ble_eq_true rfl) rfl dL_law_533 ?_
  rintro v h' ⟨(⟨c, j, n, hc, eb, ei, hn, rfl⟩ | ⟨hno, rfl⟩), rfl⟩
  · skip
    refine G_aload_n 537 rfl rfl dL_law_536 ?_
    refine G_aload_n 538 rfl rfl dL_law_537 ?_
    refine G_iload_n 539 rfl rfl dL_law_538 ?_
    refine G_iconst 540 rfl (1) (by decide) dL_law_539 ?_
    refine G_iadd 541 rfl dL_law_540 ?_
    refine G_sload 542 rfl (a + 1) (nI_add a 1) (show a + 1 < eZ E by omega) (by omega) dL_law_541 ?_
    refine G_aload_n 543 rfl rfl dL_law_542 ?_
    refine G_iload_n 544 rfl rfl dL_law_543 ?_
    refine G_iconst 545 rfl (2) (by decide) dL_law_544 ?_
    refine G_iadd 546 rfl dL_law_545 ?_
    refine G_sload 547 rfl (a + 2) (nI_add a 2) (show a + 2 < eZ E by omega) (by omega) dL_law_546 ?_
    refine G_aload_n 548 rfl rfl dL_law_547 ?_
    refine G_iload_n 549 rfl rfl dL_law_548 ?_
    refine G_iconst 550 rfl (3) (by decide) dL_law_549 ?_
    refine G_iadd 551 rfl dL_law_550 ?_
    refine G_sload 552 rfl (a + 3) (nI_add a 3) (show a + 3 < eZ E by omega) (by omega) dL_law_551 ?_
    refine G_callV 555 rfl [.int (eX E (a + 1)), .int (eX E (a + 2)), .int (eX E (a + 3))] (m_entry hR (eX E (a + 1)) (eX E (a + 2)) (eX E (a + 3)) hen hen2) ok_X8_entry ov_X8_entry ml_L_83 (hR.ob (ci := 8) (i := 0) (by decide) rfl) ⟨by decide, rfl⟩ rfl ⟨by decide, by decide⟩ rfl rfl (Nat.le_of_ble_eq_true rfl) rfl dL_law_552 ?_
    rintro v h' ⟨(⟨hi, rfl⟩ | ⟨l, hl, el, rfl⟩), rfl⟩
    · skip
      exfalso
      exact absurd hi (by rw [ei]; exact nI_pos (by have := hJ.jlt hc hn; omega))
    · skip
      have hj := hJ.jlt hc hn
      obtain rfl : j = l := nI_inj (by omega) hl (ei.symm.trans el)
      refine G_icmpT_eq 655 (by rw [eb]; exact (hJ.entS hen hen2 hc hn _).symm) (by decide) dL_law_555 ?_
      exact G_less (by first | omega | exact Nat.le_add_left _ _) (by first | omega | exact Nat.le_add_left _ _) (hfin _ _ _ hR (hJ))
  · skip
    refine G_aload_n 537 rfl rfl dL_law_536 ?_
    refine G_aload_n 538 rfl rfl dL_law_537 ?_
    refine G_iload_n 539 rfl rfl dL_law_538 ?_
    refine G_iconst 540 rfl (1) (by decide) dL_law_539 ?_
    refine G_iadd 541 rfl dL_law_540 ?_
    refine G_sload 542 rfl (a + 1) (nI_add a 1) (show a + 1 < eZ E by omega) (by omega) dL_law_541 ?_
    refine G_aload_n 543 rfl rfl dL_law_542 ?_
    refine G_iload_n 544 rfl rfl dL_law_543 ?_
    refine G_iconst 545 rfl (2) (by decide) dL_law_544 ?_
    refine G_iadd 546 rfl dL_law_545 ?_
    refine G_sload 547 rfl (a + 2) (nI_add a 2) (show a + 2 < eZ E by omega) (by omega) dL_law_546 ?_
    refine G_aload_n 548 rfl rfl dL_law_547 ?_
    refine G_iload_n 549 rfl rfl dL_law_548 ?_
    refine G_iconst 550 rfl (3) (by decide) dL_law_549 ?_
    refine G_iadd 551 rfl dL_law_550 ?_
    refine G_sload 552 rfl (a + 3) (nI_add a 3) (show a + 3 < eZ E by omega) (by omega) dL_law_551 ?_
    refine G_callV 555 rfl [.int (eX E (a + 1)), .int (eX E (a + 2)), .int (eX E (a + 3))] (m_entry hR (eX E (a + 1)) (eX E (a + 2)) (eX E (a + 3)) hen hen2) ok_X8_entry ov_X8_entry ml_L_83 (hR.ob (ci := 8) (i := 0) (by decide) rfl) ⟨by decide, rfl⟩ rfl ⟨by decide, by decide⟩ rfl rfl (Nat.le_of_ble_eq_true rfl) rfl dL_law_552 ?_
    rintro v h' ⟨(⟨hi, rfl⟩ | ⟨l, hl, el, rfl⟩), rfl⟩
    · skip
      refine G_icmpT_eq 655 (rfl) (by decide) dL_law_555 ?_
      exact G_less (by first | omega | exact Nat.le_add_left _ _) (by first | omega | exact Nat.le_add_left _ _) (hfin _ _ _ hR (hJ))
    · skip
      refine G_icmpT_eq 655 ((hJ.entN hen hen2 el hl hno _).symm) (by decide) dL_law_555 ?_
      exact G_less (by first | omega | exact Nat.le_add_left _ _) (by first | omega | exact Nat.le_add_left _ _) (hfin _ _ _ hR (hJ))

set_option maxHeartbeats 4000000 in
set_option maxRecDepth 100000 in
theorem lw_pair {E : Ev} {m : Nat} {σ : Sg} {τ : Tu} {h : Hp} (hR : RR E m σ τ h) (hJ : J m σ τ) {a ca sa : Nat} (ha : a + 6 ≤ eZ E) (hZ : eZ E ≤ 3073) (hfin : ∀ (σ' : Sg) (τ' : Tu) (h' : Hp), RR E m σ' τ' h' → J m σ' τ' → G E mL_law room_1 LwP 655 [some (.ref (eS E)), some (.ref (aX E)), some (.ref (aM E m)), some (.int (nI a))] [] h' ca sa) : G E mL_law room_1 LwP 560 [some (.ref (eS E)), some (.ref (aX E)), some (.ref (aM E m)), some (.int (nI a))] [] h (128 + ca) (768 + sa) := by
  have hm := hJ.1
  have hmy : τ 0 0 = nI m := hJ.2.1.1
  obtain ⟨z, z1, z2, -, z3⟩ := hJ.zb
  refine G_aload_n 561 rfl rfl dL_law_560 ?_
  refine G_aload_n 562 rfl rfl dL_law_561 ?_
  refine G_iload_n 563 rfl rfl dL_law_562 ?_
  refine G_iconst 564 rfl (1) (by decide) dL_law_563 ?_
  refine G_iadd 565 rfl dL_law_564 ?_
  refine G_sload 566 rfl (a + 1) (nI_add a 1) (show a + 1 < eZ E by omega) (by omega) dL_law_565 ?_
  refine G_aload_n 567 rfl rfl dL_law_566 ?_
  refine G_iload_n 568 rfl rfl dL_law_567 ?_
  refine G_iconst 569 rfl (2) (by decide) dL_law_568 ?_
  refine G_iadd 570 rfl dL_law_569 ?_
  refine G_sload 571 rfl (a + 2) (nI_add a 2) (show a + 2 < eZ E by omega) (by omega) dL_law_570 ?_
  refine G_callV 574 rfl [.int (eX E (a + 1)), .int (eX E (a + 2))] (c_X7_pair hR (eX E (a + 1)) (eX E (a + 2)) z1 (by omega)) ok_X7_pair ov_X7_pair ml_L_84 (hR.ob (ci := 7) (i := 0) (by decide) rfl) ⟨by decide, rfl⟩ rfl ⟨by decide, by decide⟩ rfl rfl (Nat.le_of_ble_eq_true rfl) rfl dL_law_571 ?_
  rintro v h' ⟨(⟨u, w, u1, u2, u3, u4, u5, rfl⟩ | ⟨hno, rfl⟩), rfl⟩
  · skip
    refine G_aload_n 575 rfl rfl dL_law_574 ?_
    refine G_aload_n 576 rfl rfl dL_law_575 ?_
    refine G_iload_n 577 rfl rfl dL_law_576 ?_
    refine G_iconst 578 rfl (1) (by decide) dL_law_577 ?_
    refine G_iadd 579 rfl dL_law_578 ?_
    refine G_sload 580 rfl (a + 1) (nI_add a 1) (show a + 1 < eZ E by omega) (by omega) dL_law_579 ?_
    refine G_aload_n 581 rfl rfl dL_law_580 ?_
    refine G_iload_n 582 rfl rfl dL_law_581 ?_
    refine G_iconst 583 rfl (2) (by decide) dL_law_582 ?_
    refine G_iadd 584 rfl dL_law_583 ?_
    refine G_sload 585 rfl (a + 2) (nI_add a 2) (show a + 2 < eZ E by omega) (by omega) dL_law_584 ?_
    refine G_callV 588 rfl [.int (eX E (a + 1)), .int (eX E (a + 2))] (m_pair hR (eX E (a + 1)) (eX E (a + 2)) z2 (by omega)) ok_X8_pair ov_X8_pair ml_L_87 (hR.ob (ci := 8) (i := 0) (by decide) rfl) ⟨by decide, rfl⟩ rfl ⟨by decide, by decide⟩ rfl rfl (Nat.le_of_ble_eq_true rfl) rfl dL_law_585 ?_
    rintro v h' ⟨(⟨u', w', u1', u2', u3', u4', u5', rfl⟩ | ⟨hno', rfl⟩), rfl⟩
    · skip
      obtain rfl : u = u' := nI_inj (by omega) (by omega) (u4.symm.trans u4')
      obtain rfl : w = w' := nI_inj (by omega) (by omega) (u5.symm.trans u5')
      refine G_icmpT_eq 655 (by rw [Nat.mul_comm u 8]; exact (hJ.2.2.1.1 _ (by omega)).symm) (by decide) dL_law_588 ?_
      exact G_less (by first | omega | exact Nat.le_add_left _ _) (by first | omega | exact Nat.le_add_left _ _) (hfin _ _ _ hR (hJ))
    · skip
      exfalso
      exact hno' ⟨u, w, u1, u2, u3, u4, u5⟩
  · skip
    refine G_aload_n 575 rfl rfl dL_law_574 ?_
    refine G_aload_n 576 rfl rfl dL_law_575 ?_
    refine G_iload_n 577 rfl rfl dL_law_576 ?_
    refine G_iconst 578 rfl (1) (by decide) dL_law_577 ?_
    refine G_iadd 579 rfl dL_law_578 ?_
    refine G_sload 580 rfl (a + 1) (nI_add a 1) (show a + 1 < eZ E by omega) (by omega) dL_law_579 ?_
    refine G_aload_n 581 rfl rfl dL_law_580 ?_
    refine G_iload_n 582 rfl rfl dL_law_581 ?_
    refine G_iconst 583 rfl (2) (by decide) dL_law_582 ?_
    refine G_iadd 584 rfl dL_law_583 ?_
    refine G_sload 585 rfl (a + 2) (nI_add a 2) (show a + 2 < eZ E by omega) (by omega) dL_law_584 ?_
    refine G_callV 588 rfl [.int (eX E (a + 1)), .int (eX E (a + 2))] (m_pair hR (eX E (a + 1)) (eX E (a + 2)) z2 (by omega)) ok_X8_pair ov_X8_pair ml_L_87 (hR.ob (ci := 8) (i := 0) (by decide) rfl) ⟨by decide, rfl⟩ rfl ⟨by decide, by decide⟩ rfl rfl (Nat.le_of_ble_eq_true rfl) rfl dL_law_585 ?_
    rintro v h' ⟨(⟨u', w', u1', u2', u3', u4', u5', rfl⟩ | ⟨hno', rfl⟩), rfl⟩
    · skip
      exfalso
      exact hno ⟨u', w', u1', u2', u3', u4', u5'⟩
    · skip
      refine G_icmpT_eq 655 (rfl) (by decide) dL_law_588 ?_
      exact G_less (by first | omega | exact Nat.le_add_left _ _) (by first | omega | exact Nat.le_add_left _ _) (hfin _ _ _ hR (hJ))

set_option maxHeartbeats 4000000 in
set_option maxRecDepth 100000 in
theorem lw_doubles {E : Ev} {m : Nat} {σ : Sg} {τ : Tu} {h : Hp} (hR : RR E m σ τ h) (hJ : J m σ τ) {a ca sa : Nat} (ha : a + 6 ≤ eZ E) (hZ : eZ E ≤ 3073) (hfin : ∀ (σ' : Sg) (τ' : Tu) (h' : Hp), RR E m σ' τ' h' → J m σ' τ' → G E mL_law room_1 LwP 655 [some (.ref (eS E)), some (.ref (aX E)), some (.ref (aM E m)), some (.int (nI a))] [] h' ca sa) : G E mL_law room_1 LwP 593 [some (.ref (eS E)), some (.ref (aX E)), some (.ref (aM E m)), some (.int (nI a))] [] h (128 + ca) (768 + sa) := by
  have hm := hJ.1
  have hmy : τ 0 0 = nI m := hJ.2.1.1
  refine G_aload_n 594 rfl rfl dL_law_593 ?_
  refine G_callV 597 rfl [] (c_X7_doubles hR) ok_X7_doubles ov_X7_doubles ml_L_88 (hR.ob (ci := 7) (i := 0) (by decide) rfl) ⟨by decide, rfl⟩ rfl ⟨by decide, by decide⟩ rfl rfl (Nat.le_of_ble_eq_true rfl) rfl dL_law_594 ?_
  rintro v h' ⟨rfl, rfl⟩
  refine G_aload_n 598 rfl rfl dL_law_597 ?_
  refine G_callV 601 rfl [] (m_doubles hR) ok_X8_doubles ov_X8_doubles ml_L_91 (hR.ob (ci := 8) (i := 0) (by decide) rfl) ⟨by decide, rfl⟩ rfl ⟨by decide, by decide⟩ rfl rfl (Nat.le_of_ble_eq_true rfl) rfl dL_law_598 ?_
  rintro v h' ⟨rfl, rfl⟩
  refine G_icmpT_eq 655 (hJ.dblX.symm) (by decide) dL_law_601 ?_
  exact G_less (by first | omega | exact Nat.le_add_left _ _) (by first | omega | exact Nat.le_add_left _ _) (hfin _ _ _ hR (hJ))

set_option maxHeartbeats 4000000 in
set_option maxRecDepth 100000 in
theorem lw_unmet {E : Ev} {m : Nat} {σ : Sg} {τ : Tu} {h : Hp} (hR : RR E m σ τ h) (hJ : J m σ τ) {a ca sa : Nat} (ha : a + 6 ≤ eZ E) (hZ : eZ E ≤ 3073) (hfin : ∀ (σ' : Sg) (τ' : Tu) (h' : Hp), RR E m σ' τ' h' → J m σ' τ' → G E mL_law room_1 LwP 655 [some (.ref (eS E)), some (.ref (aX E)), some (.ref (aM E m)), some (.int (nI a))] [] h' ca sa) : G E mL_law room_1 LwP 606 [some (.ref (eS E)), some (.ref (aX E)), some (.ref (aM E m)), some (.int (nI a))] [] h (128 + ca) (768 + sa) := by
  have hm := hJ.1
  have hmy : τ 0 0 = nI m := hJ.2.1.1
  refine G_aload_n 607 rfl rfl dL_law_606 ?_
  refine G_callV 610 rfl [] (c_X7_unmet hR hJ.gc) ok_X7_unmet ov_X7_unmet ml_L_92 (hR.ob (ci := 7) (i := 0) (by decide) rfl) ⟨by decide, rfl⟩ rfl ⟨by decide, by decide⟩ rfl rfl (Nat.le_of_ble_eq_true rfl) rfl dL_law_607 ?_
  rintro v h' ⟨rfl, rfl⟩
  refine G_aload_n 611 rfl rfl dL_law_610 ?_
  refine G_callV 614 rfl [] (m_unmet hR hmy hJ.gcm) ok_X8_unmet ov_X8_unmet ml_L_95 (hR.ob (ci := 8) (i := 0) (by decide) rfl) ⟨by decide, rfl⟩ rfl ⟨by decide, by decide⟩ rfl rfl (Nat.le_of_ble_eq_true rfl) rfl dL_law_611 ?_
  rintro v h' ⟨rfl, rfl⟩
  refine G_icmpT_eq 655 (hJ.unmX.symm) (by decide) dL_law_614 ?_
  exact G_less (by first | omega | exact Nat.le_add_left _ _) (by first | omega | exact Nat.le_add_left _ _) (hfin _ _ _ hR (hJ))

set_option maxHeartbeats 4000000 in
set_option maxRecDepth 100000 in
theorem lw_held {E : Ev} {m : Nat} {σ : Sg} {τ : Tu} {h : Hp} (hR : RR E m σ τ h) (hJ : J m σ τ) {a ca sa : Nat} (ha : a + 6 ≤ eZ E) (hZ : eZ E ≤ 3073) (hfin : ∀ (σ' : Sg) (τ' : Tu) (h' : Hp), RR E m σ' τ' h' → J m σ' τ' → G E mL_law room_1 LwP 655 [some (.ref (eS E)), some (.ref (aX E)), some (.ref (aM E m)), some (.int (nI a))] [] h' ca sa) : G E mL_law room_1 LwP 619 [some (.ref (eS E)), some (.ref (aX E)), some (.ref (aM E m)), some (.int (nI a))] [] h (128 + ca) (768 + sa) := by
  have hm := hJ.1
  have hmy : τ 0 0 = nI m := hJ.2.1.1
  refine G_aload_n 620 rfl rfl dL_law_619 ?_
  refine G_callV 623 rfl [] (c_X7_held hR) ok_X7_held ov_X7_held ml_L_96 (hR.ob (ci := 7) (i := 0) (by decide) rfl) ⟨by decide, rfl⟩ rfl ⟨by decide, by decide⟩ rfl rfl (Nat.le_of_ble_eq_true rfl) rfl dL_law_620 ?_
  rintro v h' ⟨rfl, rfl⟩
  refine G_aload_n 624 rfl rfl dL_law_623 ?_
  refine G_callV 627 rfl [] (m_held hR hmy hJ.clm) ok_X8_held ov_X8_held ml_L_99 (hR.ob (ci := 8) (i := 0) (by decide) rfl) ⟨by decide, rfl⟩ rfl ⟨by decide, by decide⟩ rfl rfl (Nat.le_of_ble_eq_true rfl) rfl dL_law_624 ?_
  rintro v h' ⟨rfl, rfl⟩
  refine G_icmpT_eq 655 (hJ.hldX.symm) (by decide) dL_law_627 ?_
  exact G_less (by first | omega | exact Nat.le_add_left _ _) (by first | omega | exact Nat.le_add_left _ _) (hfin _ _ _ hR (hJ))

set_option maxHeartbeats 4000000 in
set_option maxRecDepth 100000 in
theorem lw_count {E : Ev} {m : Nat} {σ : Sg} {τ : Tu} {h : Hp} (hR : RR E m σ τ h) (hJ : J m σ τ) {a ca sa : Nat} (ha : a + 6 ≤ eZ E) (hZ : eZ E ≤ 3073) (hfin : ∀ (σ' : Sg) (τ' : Tu) (h' : Hp), RR E m σ' τ' h' → J m σ' τ' → G E mL_law room_1 LwP 655 [some (.ref (eS E)), some (.ref (aX E)), some (.ref (aM E m)), some (.int (nI a))] [] h' ca sa) : G E mL_law room_1 LwP 632 [some (.ref (eS E)), some (.ref (aX E)), some (.ref (aM E m)), some (.int (nI a))] [] h (128 + ca) (768 + sa) := by
  have hm := hJ.1
  have hmy : τ 0 0 = nI m := hJ.2.1.1
  refine G_aload_n 633 rfl rfl dL_law_632 ?_
  refine G_aload_n 634 rfl rfl dL_law_633 ?_
  refine G_iload_n 635 rfl rfl dL_law_634 ?_
  refine G_iconst 636 rfl (1) (by decide) dL_law_635 ?_
  refine G_iadd 637 rfl dL_law_636 ?_
  refine G_sload 638 rfl (a + 1) (nI_add a 1) (show a + 1 < eZ E by omega) (by omega) dL_law_637 ?_
  refine G_callV 641 rfl [.int (eX E (a + 1))] (c_X7_count hR (eX E (a + 1))) ok_X7_count ov_X7_count ml_L_100 (hR.ob (ci := 7) (i := 0) (by decide) rfl) ⟨by decide, rfl⟩ rfl ⟨by decide, by decide⟩ rfl rfl (Nat.le_of_ble_eq_true rfl) rfl dL_law_638 ?_
  rintro v h' ⟨rfl, rfl⟩
  refine G_aload_n 642 rfl rfl dL_law_641 ?_
  refine G_aload_n 643 rfl rfl dL_law_642 ?_
  refine G_iload_n 644 rfl rfl dL_law_643 ?_
  refine G_iconst 645 rfl (1) (by decide) dL_law_644 ?_
  refine G_iadd 646 rfl dL_law_645 ?_
  refine G_sload 647 rfl (a + 1) (nI_add a 1) (show a + 1 < eZ E by omega) (by omega) dL_law_646 ?_
  refine G_callV 650 rfl [.int (eX E (a + 1))] (m_count hR (eX E (a + 1)) hmy) ok_X8_count ov_X8_count ml_L_103 (hR.ob (ci := 8) (i := 0) (by decide) rfl) ⟨by decide, rfl⟩ rfl ⟨by decide, by decide⟩ rfl rfl (Nat.le_of_ble_eq_true rfl) rfl dL_law_647 ?_
  rintro v h' ⟨rfl, rfl⟩
  refine G_icmpT_eq 655 ((hJ.cntX _).symm) (by decide) dL_law_650 ?_
  exact G_less (by first | omega | exact Nat.le_add_left _ _) (by first | omega | exact Nat.le_add_left _ _) (hfin _ _ _ hR (hJ))

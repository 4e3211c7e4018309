section START
variable {E : Ev} {m : Nat} {h : Hp}
/-! ===== the layout's kinds and lengths as functions of an address; the first states ===== -/
def kK (B m b : Nat) : Nat := if b = B then 7 else if b = B + 1 then 14 else if b < B + 2 + 13 * m then (if (b - (B + 2)) % 13 = 0 then 5 else if (b - (B + 2)) % 13 = 1 then 6 else if (b - (B + 2)) % 13 = 2 then 3 else if (b - (B + 2)) % 13 = 3 then 13 else if (b - (B + 2)) % 13 = 4 then 11 else 2) else if b = B + 2 + 13 * m then 12 else if b < B + 19 + 13 * m then (if (b - (B + 3 + 13 * m)) % 2 = 0 then 1 else 11) else if b = B + 19 + 13 * m then 4 else if b = B + 20 + 13 * m then 9 else if b = B + 21 + 13 * m then 8 else if b < B + 55 + 13 * m then mKd (kf (b - (B + 22 + 13 * m))) else 0
def kN (B m b : Nat) : Nat := if b = B + 1 then m else if b < B + 2 + 13 * m then 8 else if b = B + 2 + 13 * m then 8 else if b < B + 19 + 13 * m then 128 else if b = B + 20 + 13 * m then 1600 else mLn (kf (b - (B + 22 + 13 * m)))
theorem kK_E {B m b i : Nat} (hm : 2 ≤ m ∧ m ≤ 16) (hv : 1 ≤ i) (hb : b = B + 54 + 13 * m + i) : kK B m b = 0 := by
  unfold kK
  rw [if_neg (by omega), if_neg (by omega), if_neg (by omega), if_neg (by omega), if_neg (by omega), if_neg (by omega), if_neg (by omega), if_neg (by omega), if_neg (by omega)]
theorem kK_Ls {B m b i : Nat} (hm : 2 ≤ m ∧ m ≤ 16) (hv : i < 8) (hb : b = B + 3 + 13 * m + 2 * i) : kK B m b = 1 := by
  unfold kK
  rw [if_neg (by omega), if_neg (by omega), if_neg (by omega), if_neg (by omega), if_pos (by omega), if_pos (by omega)]
theorem kK_G {B m b i : Nat} (hm : 2 ≤ m ∧ m ≤ 16) (hv : i < 8 * m) (hb : b = B + 7 + 13 * (i / 8) + i % 8) : kK B m b = 2 := by
  unfold kK
  rw [if_neg (by omega), if_neg (by omega), if_pos (by omega), if_neg (by omega), if_neg (by omega), if_neg (by omega), if_neg (by omega), if_neg (by omega)]
theorem kK_T {B m b i : Nat} (hm : 2 ≤ m ∧ m ≤ 16) (hv : i < m) (hb : b = B + 4 + 13 * i) : kK B m b = 3 := by
  unfold kK
  rw [if_neg (by omega), if_neg (by omega), if_pos (by omega), if_neg (by omega), if_neg (by omega), if_pos (by omega)]
theorem kK_PL {B m b : Nat} (hm : 2 ≤ m ∧ m ≤ 16) (hb : b = B + 19 + 13 * m) : kK B m b = 4 := by
  unfold kK
  rw [if_neg (by omega), if_neg (by omega), if_neg (by omega), if_neg (by omega), if_neg (by omega), if_pos (by omega)]
theorem kK_P {B m b i : Nat} (hm : 2 ≤ m ∧ m ≤ 16) (hv : i < m) (hb : b = B + 2 + 13 * i) : kK B m b = 5 := by
  unfold kK
  rw [if_neg (by omega), if_neg (by omega), if_pos (by omega), if_pos (by omega)]
theorem kK_W {B m b i : Nat} (hm : 2 ≤ m ∧ m ≤ 16) (hv : i < m) (hb : b = B + 3 + 13 * i) : kK B m b = 6 := by
  unfold kK
  rw [if_neg (by omega), if_neg (by omega), if_pos (by omega), if_neg (by omega), if_pos (by omega)]
theorem kK_X {B m b : Nat} (hm : 2 ≤ m ∧ m ≤ 16) (hb : b = B) : kK B m b = 7 := by
  unfold kK
  rw [if_pos (by omega)]
theorem kK_M {B m b : Nat} (hm : 2 ≤ m ∧ m ≤ 16) (hb : b = B + 21 + 13 * m) : kK B m b = 8 := by
  unfold kK
  rw [if_neg (by omega), if_neg (by omega), if_neg (by omega), if_neg (by omega), if_neg (by omega), if_neg (by omega), if_neg (by omega), if_pos (by omega)]
theorem kK_PA {B m b : Nat} (hm : 2 ≤ m ∧ m ≤ 16) (hb : b = B + 1) : kK B m b = 14 := by
  unfold kK
  rw [if_neg (by omega), if_pos (by omega)]
theorem kN_PA {B m b : Nat} (hm : 2 ≤ m ∧ m ≤ 16) (hb : b = B + 1) : kN B m b = m := by
  unfold kN
  rw [if_pos (by omega)]
theorem kK_GA {B m b i : Nat} (hm : 2 ≤ m ∧ m ≤ 16) (hv : i < m) (hb : b = B + 5 + 13 * i) : kK B m b = 13 := by
  unfold kK
  rw [if_neg (by omega), if_neg (by omega), if_pos (by omega), if_neg (by omega), if_neg (by omega), if_neg (by omega), if_pos (by omega)]
theorem kN_GA {B m b i : Nat} (hm : 2 ≤ m ∧ m ≤ 16) (hv : i < m) (hb : b = B + 5 + 13 * i) : kN B m b = 8 := by
  unfold kN
  rw [if_neg (by omega), if_pos (by omega)]
theorem kK_OA {B m b i : Nat} (hm : 2 ≤ m ∧ m ≤ 16) (hv : i < m) (hb : b = B + 6 + 13 * i) : kK B m b = 11 := by
  unfold kK
  rw [if_neg (by omega), if_neg (by omega), if_pos (by omega), if_neg (by omega), if_neg (by omega), if_neg (by omega), if_neg (by omega), if_pos (by omega)]
theorem kN_OA {B m b i : Nat} (hm : 2 ≤ m ∧ m ≤ 16) (hv : i < m) (hb : b = B + 6 + 13 * i) : kN B m b = 8 := by
  unfold kN
  rw [if_neg (by omega), if_pos (by omega)]
theorem kK_LL {B m b : Nat} (hm : 2 ≤ m ∧ m ≤ 16) (hb : b = B + 2 + 13 * m) : kK B m b = 12 := by
  unfold kK
  rw [if_neg (by omega), if_neg (by omega), if_neg (by omega), if_pos (by omega)]
theorem kN_LL {B m b : Nat} (hm : 2 ≤ m ∧ m ≤ 16) (hb : b = B + 2 + 13 * m) : kN B m b = 8 := by
  unfold kN
  rw [if_neg (by omega), if_neg (by omega), if_pos (by omega)]
theorem kK_LA {B m b i : Nat} (hm : 2 ≤ m ∧ m ≤ 16) (hv : i < 8) (hb : b = B + 4 + 13 * m + 2 * i) : kK B m b = 11 := by
  unfold kK
  rw [if_neg (by omega), if_neg (by omega), if_neg (by omega), if_neg (by omega), if_pos (by omega), if_neg (by omega)]
theorem kN_LA {B m b i : Nat} (hm : 2 ≤ m ∧ m ≤ 16) (hv : i < 8) (hb : b = B + 4 + 13 * m + 2 * i) : kN B m b = 128 := by
  unfold kN
  rw [if_neg (by omega), if_neg (by omega), if_neg (by omega), if_pos (by omega)]
theorem kK_PP {B m b : Nat} (hm : 2 ≤ m ∧ m ≤ 16) (hb : b = B + 20 + 13 * m) : kK B m b = 9 := by
  unfold kK
  rw [if_neg (by omega), if_neg (by omega), if_neg (by omega), if_neg (by omega), if_neg (by omega), if_neg (by omega), if_pos (by omega)]
theorem kN_PP {B m b : Nat} (hm : 2 ≤ m ∧ m ≤ 16) (hb : b = B + 20 + 13 * m) : kN B m b = 1600 := by
  unfold kN
  rw [if_neg (by omega), if_neg (by omega), if_neg (by omega), if_neg (by omega), if_pos (by omega)]
theorem kK_MA {B m b k : Nat} (hk : (7 ≤ k ∧ k ≤ 30) ∨ (32 ≤ k ∧ k ≤ 40)) (hb : b = B + 21 + 13 * m + if k ≤ 30 then k - 6 else k - 7) : kK B m b = mKd k ∧ kN B m b = mLn k := by
  have e : b - (B + 22 + 13 * m) = (if k ≤ 30 then k - 7 else k - 8) ∧ B + 22 + 13 * m ≤ b ∧ b < B + 55 + 13 * m := by
    split at hb
    · rename_i h30
      rw [if_pos h30]; omega
    · rename_i h30
      rw [if_neg h30]; omega
  have e2 : kf (if k ≤ 30 then k - 7 else k - 8) = k := by
    unfold kf
    split <;> split <;> omega
  refine ⟨?_, ?_⟩
  · unfold kK
    rw [if_neg (by omega), if_neg (by omega), if_neg (by omega), if_neg (by omega), if_neg (by omega), if_neg (by omega), if_neg (by omega), if_neg (by omega), if_pos (by omega), e.1, e2]
  · unfold kN
    rw [if_neg (by omega), if_neg (by omega), if_neg (by omega), if_neg (by omega), if_neg (by omega), e.1, e2]
theorem LY_of (hm : 2 ≤ m ∧ m ≤ 16) (hK : eK E = kK (eB E) m) (hN : eN E = kN (eB E) m) : LY E m := by
  refine ⟨hm, fun ci i np hc hv => ?_, ⟨?_, ?_⟩, fun p hp => ⟨⟨?_, ?_⟩, ⟨?_, ?_⟩⟩, ⟨?_, ?_⟩, fun c hc => ⟨?_, ?_⟩, ⟨?_, ?_⟩, fun k hk => ?_⟩
  · rw [hK]
    rcases ci with _ | _ | _ | _ | _ | _ | _ | _ | _ | ci
    · exact kK_E hm (show 1 ≤ i ∧ i ≤ np from hv).1 rfl
    · exact kK_Ls hm hv rfl
    · exact kK_G hm hv rfl
    · exact kK_T hm hv rfl
    · exact kK_PL hm rfl
    · exact kK_P hm hv rfl
    · exact kK_W hm hv rfl
    · exact kK_X hm rfl
    · exact kK_M hm rfl
    · omega
  · rw [hK]; exact kK_PA hm rfl
  · rw [hN]; exact kN_PA hm rfl
  · rw [hK]; exact kK_GA hm hp rfl
  · rw [hN]; exact kN_GA hm hp rfl
  · rw [hK]; exact kK_OA hm hp rfl
  · rw [hN]; exact kN_OA hm hp rfl
  · rw [hK]; exact kK_LL hm rfl
  · rw [hN]; exact kN_LL hm rfl
  · rw [hK]; exact kK_LA hm hc rfl
  · rw [hN]; exact kN_LA hm hc rfl
  · rw [hK]; exact kK_PP hm rfl
  · rw [hN]; exact kN_PP hm rfl
  · rw [hK, hN]
    exact kK_MA hk rfl
def σ0 : Sg := (fun f _ => if f = 328 ∨ f = 386 then -1 else 0, fun _ => none, fun _ => [], fun _ => [], 0)
def τ0 (m : Nat) : Tu := fun k _ => if k = 0 then nI m else 0
set_option maxHeartbeats 4000000 in
theorem RR.start (hL : LY E m) (hC : CI E m h) {h2 : Hp} (hM : MI E m (sN h) 33 h2) : RR E m σ0 (τ0 m) (sI h2 512 (aM E m) (nI m)) := by
  obtain ⟨q1, q2, q3, q4, q5, q6, q7, q8⟩ := hC
  obtain ⟨n1, n2, n3, n4⟩ := hM
  have hm := hL.1
  have old : ∀ b, b < aM E m → cl (sI h2 512 (aM E m) (nI m)) b = cl h b := fun b hb => by
    rw [cl_sI, if_neg (by omega), n4 b hb, cl_sN, if_neg (by omega)]
  have hM : cl (sI h2 512 (aM E m) (nI m)) (aM E m) = kI (MC E m 33) 512 (nI m) := by rw [cl_sI, if_pos rfl, n2]
  have hA : ∀ i, i < 33 → cl (sI h2 512 (aM E m) (nI m)) (aM E m + 1 + i) = c0 := fun i hi => by rw [cl_sI, if_neg (by omega)]; exact n3 i hi
  have hX := old (aX E) (by simp only [aX, aM]; omega)
  have hPA := old (aPA E) (by simp only [aPA, aM]; omega)
  have hLL := old (aLL E m) (by simp only [aLL, aM]; omega)
  have hPL := old (aPL E m) (by simp only [aPL, aM]; omega)
  have hPP := old (aPP E m) (by simp only [aPP, aM]; omega)
  have hLs : ∀ c, c < 8 → _ := fun c hc => old (aLs E m c) (by simp only [aLs, aM]; omega)
  have hLA : ∀ c, c < 8 → _ := fun c hc => old (aLA E m c) (by simp only [aLA, aM]; omega)
  have hP : ∀ p, p < m → PF E (sI h2 512 (aM E m) (nI m)) p := fun p hp => (q4 p hp).keep (fun b _ hb => old b (by simp only [aP] at hb; simp only [aM]; omega))
  rw [q2] at hX
  rw [q3] at hPA
  rw [q5] at hLL
  rw [q7] at hPL
  rw [q8] at hPP
  have hhn : hn (sI h2 512 (aM E m) (nI m)) = hn h2 := rfl
  generalize sI h2 512 (aM E m) (nI m) = H at *
  have MA : ∀ k, isMA k → ∃ i, i < 33 ∧ aMA E m k = aM E m + 1 + i := fun k hk => by
    unfold isMA at hk
    simp only [aMA]
    split
    · exact ⟨k - 7, by omega, by omega⟩
    · exact ⟨k - 8, by omega, by omega⟩
  refine ⟨hL, ⟨⟨cl_r hX 448, cl_r hX 449, cl_r hX 450⟩, fun p hp => ?_, fun p hp => ?_, fun p j hp hj => ?_, fun c hc => ?_, cl_r hPL 256, fun k hk => ?_⟩, ⟨?_, fun ci k i hv hk => ?_, fun i hi => ?_, fun p hp => ?_, fun n h1 h2 => ?_, fun p hp => ?_, fun c hc => ?_, fun p hp => ?_⟩, ⟨fun k hk => ?_, fun k i hk hi => ?_⟩⟩
  · rw [cl_q hPA p]; exact if_pos hp
  · have := (hP p hp).1
    exact ⟨cl_r this 321, cl_r this 322, cl_r this 323, cl_r this 324⟩
  · rw [cl_q (hP p hp).2.2.2.1 j]; exact if_pos hj
  · refine ⟨?_, ?_⟩
    · rw [cl_q hLL c]; exact if_pos hc
    · have := hLs c hc
      rw [(q6 c hc).1] at this
      exact cl_r this 64
  · rw [cl_r hM (512 + k)]
    unfold isMA at hk
    show (if (519 ≤ 512 + k ∧ 512 + k ≤ 542) ∧ 512 + k - 519 < 33 then some (aM E m + 1 + (512 + k - 519)) else if (544 ≤ 512 + k ∧ 512 + k ≤ 552) ∧ 512 + k - 520 < 33 then some (aM E m + 1 + (512 + k - 520)) else none) = some (aM E m + if k ≤ 30 then k - 6 else k - 7)
    by_cases h30 : k ≤ 30
    · rw [if_pos (by omega), if_pos h30]; exact congrArg some (by omega)
    · rw [if_neg (by omega), if_pos (by omega), if_neg h30]; exact congrArg some (by omega)
  · rw [hhn, n1]; simp only [aM, aE, σ0, sNp]; omega
  · obtain ⟨o1, o2, o3, o4, o5⟩ := okf_lt hk
    show _ = if 64 * ci + k = 328 ∨ 64 * ci + k = 386 then -1 else 0
    rcases ci with _ | _ | _ | _ | _ | _ | _ | _ | _ | ci
    · have hv : 1 ≤ i ∧ i ≤ 0 := hv
      omega
    · simp [okf] at hk
    · have hv : i < 8 * m := hv
      have hk : k < 4 := by simpa [okf] using hk
      have := (hP (i / 8) (by omega)).2.2.2.2.2 (i % 8) (by omega)
      rw [show 8 * (i / 8) + i % 8 = i by omega] at this
      rw [if_neg (by omega)]
      exact cl_i this _
    · have hv : i < m := hv
      have hk : k < 5 := by simpa [okf] using hk
      rw [if_neg (by omega)]
      exact cl_i (hP i hv).2.2.1 _
    · have hk : k = 1 := by simpa [okf] using hk
      rw [if_neg (by omega)]
      exact cl_i hPL _
    · have hv : i < m := hv
      have e := cl_i (hP i hv).1 (64 * 5 + k)
      show H.1 (64 * 5 + k) (aP E i) = _
      rw [e]
      show (if 64 * 5 + k = 320 then nI i else if 64 * 5 + k = 328 then -1 else if 64 * 5 + k = 325 then 0 else 0) = _
      simp [okf] at hk
      rw [if_neg (by omega)]
      by_cases h8 : 64 * 5 + k = 328
      · rw [if_pos h8, if_pos (Or.inl h8)]
      · have z : (if 64 * 5 + k = 325 then (0 : Int32) else 0) = 0 := by split <;> rfl
        rw [if_neg h8, z, if_neg (by omega)]
    · have hv : i < m := hv
      have hk : k < 3 := by simpa [okf] using hk
      have e := cl_i (hP i hv).2.1 (64 * 6 + k)
      show H.1 (64 * 6 + k) (aW E i) = _
      rw [e]
      show (if 64 * 6 + k = 386 then -1 else if 64 * 6 + k = 384 then 0 else 0) = _
      by_cases h8 : 64 * 6 + k = 386
      · rw [if_pos h8, if_pos (Or.inr h8)]
      · have z : (if 64 * 6 + k = 384 then (0 : Int32) else 0) = 0 := by split <;> rfl
        rw [if_neg h8, z, if_neg (by omega)]
    · simp [okf] at hk
      rw [if_neg (by omega)]
      exact cl_i hX _
    · simp [okf] at hk
    · omega
  · rw [cl_a hPP i]; rfl
  · rw [cl_i (hP p hp).1 320]; rfl
  · have h2 : n ≤ 0 := h2
    omega
  · rw [cl_r (hP p hp).1 331]; rfl
  · have l1 := hLs c hc
    rw [(q6 c hc).1] at l1
    exact ⟨Nat.zero_le _, cl_i l1 65, fun j hj => absurd hj (Nat.not_lt_zero _)⟩
  · exact ⟨Nat.zero_le _, cl_i (hP p hp).1 335, fun j hj => absurd hj (Nat.not_lt_zero _)⟩
  · rw [cl_i hM (512 + k)]
    show (if 512 + k = 512 then nI m else 0) = if k = 0 then nI m else 0
    by_cases h0 : k = 0
    · rw [if_pos (by omega), if_pos h0]
    · rw [if_neg (by omega), if_neg h0]
  · obtain ⟨j, hj, e⟩ := MA k hk
    rw [e, cl_a (hA j hj) i]
    show 0 = if k = 0 then nI m else 0
    rw [if_neg (by unfold isMA at hk; omega)]
end START

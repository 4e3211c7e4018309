section RULES
variable {E : Ev} {M : MD} {R : Room} {Post : Option Value → Hp → Prop} {pc : Nat} {L : List (Option Value)} {st : List Value} {h : Hp} {ac as : Nat}
/-! ===== numbers, locals, the stack ===== -/
theorem G_iconst (pc' : Nat) (hp : pc + 1 = pc') {n : Int} (v : Int32) (hv : Int32.ofInt n = v) (hd : decode M.2.2.1 pc = .ok (.iconst n, 1)) (k : G E M R Post pc' L (.int v :: st) h ac as) : G E M R Post pc L st h ac as := by
  subst hp
  intro p e s m args below meth c H locs cells slots ls C hH hS hL h1 h2
  exact lv_iconst C.1 C.2.1 hd hv (k p e s m args below meth c H locs cells slots ls C hH hS hL h1 h2)
theorem G_bipush (pc' : Nat) (hp : pc + 2 = pc') {n : Int} (v : Int32) (hv : (Int8.ofInt n).toInt32 = v) (hd : decode M.2.2.1 pc = .ok (.bipush n, 2)) (k : G E M R Post pc' L (.int v :: st) h ac as) : G E M R Post pc L st h ac as := by
  subst hp
  intro p e s m args below meth c H locs cells slots ls C hH hS hL h1 h2
  exact lv_bipush C.1 C.2.1 hd hv (k p e s m args below meth c H locs cells slots ls C hH hS hL h1 h2)
theorem G_sipush (pc' : Nat) (hp : pc + 3 = pc') {n : Int} (v : Int32) (hv : (Int16.ofInt n).toInt32 = v) (hd : decode M.2.2.1 pc = .ok (.sipush n, 3)) (k : G E M R Post pc' L (.int v :: st) h ac as) : G E M R Post pc L st h ac as := by
  subst hp
  intro p e s m args below meth c H locs cells slots ls C hH hS hL h1 h2
  exact lv_sipush C.1 C.2.1 hd hv (k p e s m args below meth c H locs cells slots ls C hH hS hL h1 h2)
theorem G_ldc (pc' : Nat) (hp : pc + 2 = pc') {idx : Nat} {v : Int32} (hw : Cond.constant M.1 idx v ∈ lw_good) (hd : decode M.2.2.1 pc = .ok (.ldc idx, 2)) (k : G E M R Post pc' L (.int v :: st) h ac as) : G E M R Post pc L st h ac as := by
  subst hp
  intro p e s m args below meth c H locs cells slots ls C hH hS hL h1 h2
  exact lv_ldc C.1 C.2.1 C.2.2.2.1 (C.2.2.2.2.1 _ (List.mem_cons_of_mem _ hw)) hd (k p e s m args below meth c H locs cells slots ls C hH hS hL h1 h2)
theorem G_null (pc' : Nat) (hp : pc + 1 = pc') (hd : decode M.2.2.1 pc = .ok (.aconst_null, 1)) (k : G E M R Post pc' L (.null :: st) h ac as) : G E M R Post pc L st h ac as := by
  subst hp
  intro p e s m args below meth c H locs cells slots ls C hH hS hL h1 h2
  exact lv_null C.1 C.2.1 hd (k p e s m args below meth c H locs cells slots ls C hH hS hL h1 h2)
theorem G_iload_n (pc' : Nat) (hp : pc + 1 = pc') {k0 : Fin 4} {x : Int32} (hl : L[(k0 : Nat)]? = some (some (.int x))) (hd : decode M.2.2.1 pc = .ok (.iload_n k0, 1)) (k : G E M R Post pc' L (.int x :: st) h ac as) : G E M R Post pc L st h ac as := by
  subst hp
  intro p e s m args below meth c H locs cells slots ls C hH hS hL h1 h2
  exact lv_iload_n C.1 C.2.1 hd rfl (hL.at hl) (k p e s m args below meth c H locs cells slots ls C hH hS hL h1 h2)
theorem G_iload (pc' : Nat) (hp : pc + 2 = pc') {i : Nat} {x : Int32} (hl : L[i]? = some (some (.int x))) (hd : decode M.2.2.1 pc = .ok (.iload i, 2)) (k : G E M R Post pc' L (.int x :: st) h ac as) : G E M R Post pc L st h ac as := by
  subst hp
  intro p e s m args below meth c H locs cells slots ls C hH hS hL h1 h2
  exact lv_iload C.1 C.2.1 hd (hL.at hl) (k p e s m args below meth c H locs cells slots ls C hH hS hL h1 h2)
theorem G_aload_n (pc' : Nat) (hp : pc + 1 = pc') {k0 : Fin 4} {x : Nat} (hl : L[(k0 : Nat)]? = some (some (.ref x))) (hd : decode M.2.2.1 pc = .ok (.aload_n k0, 1)) (k : G E M R Post pc' L (.ref x :: st) h ac as) : G E M R Post pc L st h ac as := by
  subst hp
  intro p e s m args below meth c H locs cells slots ls C hH hS hL h1 h2
  exact lv_aload_n C.1 C.2.1 hd rfl (hL.at hl) (k p e s m args below meth c H locs cells slots ls C hH hS hL h1 h2)
theorem G_aload (pc' : Nat) (hp : pc + 2 = pc') {i : Nat} {x : Nat} (hl : L[i]? = some (some (.ref x))) (hd : decode M.2.2.1 pc = .ok (.aload i, 2)) (k : G E M R Post pc' L (.ref x :: st) h ac as) : G E M R Post pc L st h ac as := by
  subst hp
  intro p e s m args below meth c H locs cells slots ls C hH hS hL h1 h2
  exact lv_aload C.1 C.2.1 hd (hL.at hl) (k p e s m args below meth c H locs cells slots ls C hH hS hL h1 h2)
theorem G_aload_nN (pc' : Nat) (hp : pc + 1 = pc') {k0 : Fin 4} (hl : L[(k0 : Nat)]? = some (some .null)) (hd : decode M.2.2.1 pc = .ok (.aload_n k0, 1)) (k : G E M R Post pc' L (.null :: st) h ac as) : G E M R Post pc L st h ac as := by
  subst hp
  intro p e s m args below meth c H locs cells slots ls C hH hS hL h1 h2
  exact lv_aload_nN C.1 C.2.1 hd rfl (hL.at hl) (k p e s m args below meth c H locs cells slots ls C hH hS hL h1 h2)
theorem G_aloadN (pc' : Nat) (hp : pc + 2 = pc') {i : Nat} (hl : L[i]? = some (some .null)) (hd : decode M.2.2.1 pc = .ok (.aload i, 2)) (k : G E M R Post pc' L (.null :: st) h ac as) : G E M R Post pc L st h ac as := by
  subst hp
  intro p e s m args below meth c H locs cells slots ls C hH hS hL h1 h2
  exact lv_aloadN C.1 C.2.1 hd (hL.at hl) (k p e s m args below meth c H locs cells slots ls C hH hS hL h1 h2)
theorem G_istore_n (pc' : Nat) (hp : pc + 1 = pc') {k0 : Fin 4} {x : Int32} (hn : (k0 : Nat) < M.2.2.2.1) (hd : decode M.2.2.1 pc = .ok (.istore_n k0, 1)) (k : G E M R Post pc' (L.set (k0 : Nat) (some (.int x))) st h ac as) : G E M R Post pc L (.int x :: st) h ac as := by
  subst hp
  intro p e s m args below meth c H locs cells slots ls C hH hS hL h1 h2
  exact lv_istore_n C.1 C.2.1 hd rfl hL.has hn rfl (fun ls' hl' => k p e s m args below meth c H locs cells slots ls' C hH hS (hL.set rfl hl') h1 h2)
theorem G_istore (pc' : Nat) (hp : pc + 2 = pc') {i : Nat} {x : Int32} (hn : i < M.2.2.2.1) (hd : decode M.2.2.1 pc = .ok (.istore i, 2)) (k : G E M R Post pc' (L.set i (some (.int x))) st h ac as) : G E M R Post pc L (.int x :: st) h ac as := by
  subst hp
  intro p e s m args below meth c H locs cells slots ls C hH hS hL h1 h2
  exact lv_istore C.1 C.2.1 hd hL.has hn rfl (fun ls' hl' => k p e s m args below meth c H locs cells slots ls' C hH hS (hL.set rfl hl') h1 h2)
theorem G_astore_n (pc' : Nat) (hp : pc + 1 = pc') {k0 : Fin 4} {x : Nat} (hn : (k0 : Nat) < M.2.2.2.1) (hd : decode M.2.2.1 pc = .ok (.astore_n k0, 1)) (k : G E M R Post pc' (L.set (k0 : Nat) (some (.ref x))) st h ac as) : G E M R Post pc L (.ref x :: st) h ac as := by
  subst hp
  intro p e s m args below meth c H locs cells slots ls C hH hS hL h1 h2
  exact lv_astore_n C.1 C.2.1 hd rfl hL.has hn rfl (fun ls' hl' => k p e s m args below meth c H locs cells slots ls' C hH hS (hL.set rfl hl') h1 h2)
theorem G_astore (pc' : Nat) (hp : pc + 2 = pc') {i : Nat} {x : Nat} (hn : i < M.2.2.2.1) (hd : decode M.2.2.1 pc = .ok (.astore i, 2)) (k : G E M R Post pc' (L.set i (some (.ref x))) st h ac as) : G E M R Post pc L (.ref x :: st) h ac as := by
  subst hp
  intro p e s m args below meth c H locs cells slots ls C hH hS hL h1 h2
  exact lv_astore C.1 C.2.1 hd hL.has hn rfl (fun ls' hl' => k p e s m args below meth c H locs cells slots ls' C hH hS (hL.set rfl hl') h1 h2)
theorem G_astore_nN (pc' : Nat) (hp : pc + 1 = pc') {k0 : Fin 4} (hn : (k0 : Nat) < M.2.2.2.1) (hd : decode M.2.2.1 pc = .ok (.astore_n k0, 1)) (k : G E M R Post pc' (L.set (k0 : Nat) (some .null)) st h ac as) : G E M R Post pc L (.null :: st) h ac as := by
  subst hp
  intro p e s m args below meth c H locs cells slots ls C hH hS hL h1 h2
  exact lv_astore_nN C.1 C.2.1 hd rfl hL.has hn rfl (fun ls' hl' => k p e s m args below meth c H locs cells slots ls' C hH hS (hL.set rfl hl') h1 h2)
theorem G_astoreN (pc' : Nat) (hp : pc + 2 = pc') {i : Nat} (hn : i < M.2.2.2.1) (hd : decode M.2.2.1 pc = .ok (.astore i, 2)) (k : G E M R Post pc' (L.set i (some .null)) st h ac as) : G E M R Post pc L (.null :: st) h ac as := by
  subst hp
  intro p e s m args below meth c H locs cells slots ls C hH hS hL h1 h2
  exact lv_astoreN C.1 C.2.1 hd hL.has hn rfl (fun ls' hl' => k p e s m args below meth c H locs cells slots ls' C hH hS (hL.set rfl hl') h1 h2)
theorem G_iinc (pc' : Nat) (hp : pc + 3 = pc') {i : Nat} {n : Int} {x : Int32} (v : Int32) (hl : L[i]? = some (some (.int x))) (hv : x + Int32.ofInt n = v) (hn : i < M.2.2.2.1) (hd : decode M.2.2.1 pc = .ok (.iinc i n, 3)) (k : G E M R Post pc' (L.set i (some (.int v))) st h ac as) : G E M R Post pc L st h ac as := by
  subst hp
  intro p e s m args below meth c H locs cells slots ls C hH hS hL h1 h2
  obtain ⟨j, hj⟩ := List.getElem?_of_mem (mem_asL.mpr hl)
  exact lv_iinc C.1 C.2.1 hd hL.has hj hv hn rfl (fun ls' hl' => k p e s m args below meth c H locs cells slots ls' C hH hS (hL.set rfl hl') h1 h2)
theorem G_iadd (pc' : Nat) (hp : pc + 1 = pc') {x y : Int32} (hd : decode M.2.2.1 pc = .ok (.iadd, 1)) (k : G E M R Post pc' L (.int (x + y) :: st) h ac as) : G E M R Post pc L (.int y :: .int x :: st) h ac as := by
  subst hp
  intro p e s m args below meth c H locs cells slots ls C hH hS hL h1 h2
  exact lv_iadd C.1 C.2.1 hd (k p e s m args below meth c H locs cells slots ls C hH hS hL h1 h2)
theorem G_isub (pc' : Nat) (hp : pc + 1 = pc') {x y : Int32} (hd : decode M.2.2.1 pc = .ok (.isub, 1)) (k : G E M R Post pc' L (.int (x - y) :: st) h ac as) : G E M R Post pc L (.int y :: .int x :: st) h ac as := by
  subst hp
  intro p e s m args below meth c H locs cells slots ls C hH hS hL h1 h2
  exact lv_isub C.1 C.2.1 hd (k p e s m args below meth c H locs cells slots ls C hH hS hL h1 h2)
theorem G_imul (pc' : Nat) (hp : pc + 1 = pc') {x y : Int32} (hd : decode M.2.2.1 pc = .ok (.imul, 1)) (k : G E M R Post pc' L (.int (x * y) :: st) h ac as) : G E M R Post pc L (.int y :: .int x :: st) h ac as := by
  subst hp
  intro p e s m args below meth c H locs cells slots ls C hH hS hL h1 h2
  exact lv_imul C.1 C.2.1 hd (k p e s m args below meth c H locs cells slots ls C hH hS hL h1 h2)
theorem G_iand (pc' : Nat) (hp : pc + 1 = pc') {x y : Int32} (hd : decode M.2.2.1 pc = .ok (.iand, 1)) (k : G E M R Post pc' L (.int (x &&& y) :: st) h ac as) : G E M R Post pc L (.int y :: .int x :: st) h ac as := by
  subst hp
  intro p e s m args below meth c H locs cells slots ls C hH hS hL h1 h2
  exact lv_iand C.1 C.2.1 hd (k p e s m args below meth c H locs cells slots ls C hH hS hL h1 h2)
theorem G_irem (pc' : Nat) (hp : pc + 1 = pc') {x y : Int32} (hne : ¬ y = 0) (hd : decode M.2.2.1 pc = .ok (.irem, 1)) (k : G E M R Post pc' L (.int (x - x / y * y) :: st) h ac as) : G E M R Post pc L (.int y :: .int x :: st) h ac as := by
  subst hp
  intro p e s m args below meth c H locs cells slots ls C hH hS hL h1 h2
  exact lv_irem C.1 C.2.1 hd hne (k p e s m args below meth c H locs cells slots ls C hH hS hL h1 h2)
theorem G_iushr (pc' : Nat) (hp : pc + 1 = pc') {x y : Int32} (hd : decode M.2.2.1 pc = .ok (.iushr, 1)) (k : G E M R Post pc' L (.int (x.toUInt32 >>> (y.toUInt32 &&& Int32.toUInt32 31)).toInt32 :: st) h ac as) : G E M R Post pc L (.int y :: .int x :: st) h ac as := by
  subst hp
  intro p e s m args below meth c H locs cells slots ls C hH hS hL h1 h2
  exact lv_iushr C.1 C.2.1 hd rfl (k p e s m args below meth c H locs cells slots ls C hH hS hL h1 h2)
theorem G_dup (pc' : Nat) (hp : pc + 1 = pc') {x : Value} (hx : x.category = 1) (hd : decode M.2.2.1 pc = .ok (.dup, 1)) (k : G E M R Post pc' L (x :: x :: st) h ac as) : G E M R Post pc L (x :: st) h ac as := by
  subst hp
  intro p e s m args below meth c H locs cells slots ls C hH hS hL h1 h2
  exact lv_dup C.1 C.2.1 hd hx (k p e s m args below meth c H locs cells slots ls C hH hS hL h1 h2)
theorem G_dup2 (pc' : Nat) (hp : pc + 1 = pc') {x y : Value} (hx : x.category = 1) (hy : y.category = 1) (hd : decode M.2.2.1 pc = .ok (.dup2, 1)) (k : G E M R Post pc' L (x :: y :: x :: y :: st) h ac as) : G E M R Post pc L (x :: y :: st) h ac as := by
  subst hp
  intro p e s m args below meth c H locs cells slots ls C hH hS hL h1 h2
  exact lv_dup2_11 C.1 C.2.1 hd hx hy (k p e s m args below meth c H locs cells slots ls C hH hS hL h1 h2)
theorem G_goto (tgt : Nat) {off : Int} (ht : (pc : Int) + off = (tgt : Int)) (hd : decode M.2.2.1 pc = .ok (.goto off, 3)) (k : G E M R Post tgt L st h ac as) : G E M R Post pc L st h ac as := by
  intro p e s m args below meth c H locs cells slots ls C hH hS hL h1 h2
  exact lv_goto C.1 C.2.1 hd ht (k p e s m args below meth c H locs cells slots ls C hH hS hL h1 h2)
theorem G_if_eq (tgt pc' : Nat) (hp : pc + 3 = pc') {x : Int32} {off : Int} (ht : (pc : Int) + off = (tgt : Int)) (hd : decode M.2.2.1 pc = .ok (.ifCond .eq off, 3)) (kt : x = 0 → G E M R Post tgt L st h ac as) (kf : ¬ x = 0 → G E M R Post pc' L st h ac as) : G E M R Post pc L (.int x :: st) h ac as := by
  subst hp
  intro p e s m args below meth c H locs cells slots ls C hH hS hL h1 h2
  exact lv_if_eq C.1 C.2.1 hd ht (fun q => kt q p e s m args below meth c H locs cells slots ls C hH hS hL h1 h2) (fun q => kf q p e s m args below meth c H locs cells slots ls C hH hS hL h1 h2)
theorem G_icmp_eq (tgt pc' : Nat) (hp : pc + 3 = pc') {x y : Int32} {off : Int} (ht : (pc : Int) + off = (tgt : Int)) (hd : decode M.2.2.1 pc = .ok (.if_icmp .eq off, 3)) (kt : x = y → G E M R Post tgt L st h ac as) (kf : ¬ x = y → G E M R Post pc' L st h ac as) : G E M R Post pc L (.int y :: .int x :: st) h ac as := by
  subst hp
  intro p e s m args below meth c H locs cells slots ls C hH hS hL h1 h2
  exact lv_icmp_eq C.1 C.2.1 hd ht (fun q => kt q p e s m args below meth c H locs cells slots ls C hH hS hL h1 h2) (fun q => kf q p e s m args below meth c H locs cells slots ls C hH hS hL h1 h2)
theorem G_if_ne (tgt pc' : Nat) (hp : pc + 3 = pc') {x : Int32} {off : Int} (ht : (pc : Int) + off = (tgt : Int)) (hd : decode M.2.2.1 pc = .ok (.ifCond .ne off, 3)) (kt : ¬ x = 0 → G E M R Post tgt L st h ac as) (kf : x = 0 → G E M R Post pc' L st h ac as) : G E M R Post pc L (.int x :: st) h ac as := by
  subst hp
  intro p e s m args below meth c H locs cells slots ls C hH hS hL h1 h2
  exact lv_if_ne C.1 C.2.1 hd ht (fun q => kt q p e s m args below meth c H locs cells slots ls C hH hS hL h1 h2) (fun q => kf q p e s m args below meth c H locs cells slots ls C hH hS hL h1 h2)
theorem G_icmp_ne (tgt pc' : Nat) (hp : pc + 3 = pc') {x y : Int32} {off : Int} (ht : (pc : Int) + off = (tgt : Int)) (hd : decode M.2.2.1 pc = .ok (.if_icmp .ne off, 3)) (kt : ¬ x = y → G E M R Post tgt L st h ac as) (kf : x = y → G E M R Post pc' L st h ac as) : G E M R Post pc L (.int y :: .int x :: st) h ac as := by
  subst hp
  intro p e s m args below meth c H locs cells slots ls C hH hS hL h1 h2
  exact lv_icmp_ne C.1 C.2.1 hd ht (fun q => kt q p e s m args below meth c H locs cells slots ls C hH hS hL h1 h2) (fun q => kf q p e s m args below meth c H locs cells slots ls C hH hS hL h1 h2)
theorem G_if_lt (tgt pc' : Nat) (hp : pc + 3 = pc') {x : Int32} {off : Int} (ht : (pc : Int) + off = (tgt : Int)) (hd : decode M.2.2.1 pc = .ok (.ifCond .lt off, 3)) (kt : x < 0 → G E M R Post tgt L st h ac as) (kf : ¬ x < 0 → G E M R Post pc' L st h ac as) : G E M R Post pc L (.int x :: st) h ac as := by
  subst hp
  intro p e s m args below meth c H locs cells slots ls C hH hS hL h1 h2
  exact lv_if_lt C.1 C.2.1 hd ht (fun q => kt q p e s m args below meth c H locs cells slots ls C hH hS hL h1 h2) (fun q => kf q p e s m args below meth c H locs cells slots ls C hH hS hL h1 h2)
theorem G_icmp_lt (tgt pc' : Nat) (hp : pc + 3 = pc') {x y : Int32} {off : Int} (ht : (pc : Int) + off = (tgt : Int)) (hd : decode M.2.2.1 pc = .ok (.if_icmp .lt off, 3)) (kt : x < y → G E M R Post tgt L st h ac as) (kf : ¬ x < y → G E M R Post pc' L st h ac as) : G E M R Post pc L (.int y :: .int x :: st) h ac as := by
  subst hp
  intro p e s m args below meth c H locs cells slots ls C hH hS hL h1 h2
  exact lv_icmp_lt C.1 C.2.1 hd ht (fun q => kt q p e s m args below meth c H locs cells slots ls C hH hS hL h1 h2) (fun q => kf q p e s m args below meth c H locs cells slots ls C hH hS hL h1 h2)
theorem G_if_ge (tgt pc' : Nat) (hp : pc + 3 = pc') {x : Int32} {off : Int} (ht : (pc : Int) + off = (tgt : Int)) (hd : decode M.2.2.1 pc = .ok (.ifCond .ge off, 3)) (kt : 0 ≤ x → G E M R Post tgt L st h ac as) (kf : ¬ 0 ≤ x → G E M R Post pc' L st h ac as) : G E M R Post pc L (.int x :: st) h ac as := by
  subst hp
  intro p e s m args below meth c H locs cells slots ls C hH hS hL h1 h2
  exact lv_if_ge C.1 C.2.1 hd ht (fun q => kt q p e s m args below meth c H locs cells slots ls C hH hS hL h1 h2) (fun q => kf q p e s m args below meth c H locs cells slots ls C hH hS hL h1 h2)
theorem G_icmp_ge (tgt pc' : Nat) (hp : pc + 3 = pc') {x y : Int32} {off : Int} (ht : (pc : Int) + off = (tgt : Int)) (hd : decode M.2.2.1 pc = .ok (.if_icmp .ge off, 3)) (kt : y ≤ x → G E M R Post tgt L st h ac as) (kf : ¬ y ≤ x → G E M R Post pc' L st h ac as) : G E M R Post pc L (.int y :: .int x :: st) h ac as := by
  subst hp
  intro p e s m args below meth c H locs cells slots ls C hH hS hL h1 h2
  exact lv_icmp_ge C.1 C.2.1 hd ht (fun q => kt q p e s m args below meth c H locs cells slots ls C hH hS hL h1 h2) (fun q => kf q p e s m args below meth c H locs cells slots ls C hH hS hL h1 h2)
theorem G_if_gt (tgt pc' : Nat) (hp : pc + 3 = pc') {x : Int32} {off : Int} (ht : (pc : Int) + off = (tgt : Int)) (hd : decode M.2.2.1 pc = .ok (.ifCond .gt off, 3)) (kt : 0 < x → G E M R Post tgt L st h ac as) (kf : ¬ 0 < x → G E M R Post pc' L st h ac as) : G E M R Post pc L (.int x :: st) h ac as := by
  subst hp
  intro p e s m args below meth c H locs cells slots ls C hH hS hL h1 h2
  exact lv_if_gt C.1 C.2.1 hd ht (fun q => kt q p e s m args below meth c H locs cells slots ls C hH hS hL h1 h2) (fun q => kf q p e s m args below meth c H locs cells slots ls C hH hS hL h1 h2)
theorem G_icmp_gt (tgt pc' : Nat) (hp : pc + 3 = pc') {x y : Int32} {off : Int} (ht : (pc : Int) + off = (tgt : Int)) (hd : decode M.2.2.1 pc = .ok (.if_icmp .gt off, 3)) (kt : y < x → G E M R Post tgt L st h ac as) (kf : ¬ y < x → G E M R Post pc' L st h ac as) : G E M R Post pc L (.int y :: .int x :: st) h ac as := by
  subst hp
  intro p e s m args below meth c H locs cells slots ls C hH hS hL h1 h2
  exact lv_icmp_gt C.1 C.2.1 hd ht (fun q => kt q p e s m args below meth c H locs cells slots ls C hH hS hL h1 h2) (fun q => kf q p e s m args below meth c H locs cells slots ls C hH hS hL h1 h2)
theorem G_if_le (tgt pc' : Nat) (hp : pc + 3 = pc') {x : Int32} {off : Int} (ht : (pc : Int) + off = (tgt : Int)) (hd : decode M.2.2.1 pc = .ok (.ifCond .le off, 3)) (kt : x ≤ 0 → G E M R Post tgt L st h ac as) (kf : ¬ x ≤ 0 → G E M R Post pc' L st h ac as) : G E M R Post pc L (.int x :: st) h ac as := by
  subst hp
  intro p e s m args below meth c H locs cells slots ls C hH hS hL h1 h2
  exact lv_if_le C.1 C.2.1 hd ht (fun q => kt q p e s m args below meth c H locs cells slots ls C hH hS hL h1 h2) (fun q => kf q p e s m args below meth c H locs cells slots ls C hH hS hL h1 h2)
theorem G_icmp_le (tgt pc' : Nat) (hp : pc + 3 = pc') {x y : Int32} {off : Int} (ht : (pc : Int) + off = (tgt : Int)) (hd : decode M.2.2.1 pc = .ok (.if_icmp .le off, 3)) (kt : x ≤ y → G E M R Post tgt L st h ac as) (kf : ¬ x ≤ y → G E M R Post pc' L st h ac as) : G E M R Post pc L (.int y :: .int x :: st) h ac as := by
  subst hp
  intro p e s m args below meth c H locs cells slots ls C hH hS hL h1 h2
  exact lv_icmp_le C.1 C.2.1 hd ht (fun q => kt q p e s m args below meth c H locs cells slots ls C hH hS hL h1 h2) (fun q => kf q p e s m args below meth c H locs cells slots ls C hH hS hL h1 h2)
theorem G_ifnonnull (tgt : Nat) {x : Nat} {off : Int} (ht : (pc : Int) + off = (tgt : Int)) (hd : decode M.2.2.1 pc = .ok (.ifnonnull off, 3)) (k : G E M R Post tgt L st h ac as) : G E M R Post pc L (.ref x :: st) h ac as := by
  intro p e s m args below meth c H locs cells slots ls C hH hS hL h1 h2
  exact lv_ifnonnull C.1 C.2.1 hd ht (k p e s m args below meth c H locs cells slots ls C hH hS hL h1 h2)
theorem G_ifnonnullN (pc' : Nat) (hp : pc + 3 = pc') {off : Int} (hd : decode M.2.2.1 pc = .ok (.ifnonnull off, 3)) (k : G E M R Post pc' L st h ac as) : G E M R Post pc L (.null :: st) h ac as := by
  subst hp
  intro p e s m args below meth c H locs cells slots ls C hH hS hL h1 h2
  exact lv_ifnonnullN C.1 C.2.1 hd (k p e s m args below meth c H locs cells slots ls C hH hS hL h1 h2)
theorem G_ifnull (pc' : Nat) (hp : pc + 3 = pc') {x : Nat} {off : Int} (hd : decode M.2.2.1 pc = .ok (.ifnull off, 3)) (k : G E M R Post pc' L st h ac as) : G E M R Post pc L (.ref x :: st) h ac as := by
  subst hp
  intro p e s m args below meth c H locs cells slots ls C hH hS hL h1 h2
  exact lv_ifnull C.1 C.2.1 hd (k p e s m args below meth c H locs cells slots ls C hH hS hL h1 h2)
theorem G_ifnullN (tgt : Nat) {off : Int} (ht : (pc : Int) + off = (tgt : Int)) (hd : decode M.2.2.1 pc = .ok (.ifnull off, 3)) (k : G E M R Post tgt L st h ac as) : G E M R Post pc L (.null :: st) h ac as := by
  intro p e s m args below meth c H locs cells slots ls C hH hS hL h1 h2
  exact lv_ifnullN C.1 C.2.1 hd ht (k p e s m args below meth c H locs cells slots ls C hH hS hL h1 h2)
theorem G_acmp_ne (tgt pc' : Nat) (hp : pc + 3 = pc') {x y : Nat} {off : Int} (ht : (pc : Int) + off = (tgt : Int)) (hd : decode M.2.2.1 pc = .ok (.if_acmp .ne off, 3)) (kt : ¬ x = y → G E M R Post tgt L st h ac as) (kf : x = y → G E M R Post pc' L st h ac as) : G E M R Post pc L (.ref y :: .ref x :: st) h ac as := by
  subst hp
  intro p e s m args below meth c H locs cells slots ls C hH hS hL h1 h2
  exact lv_acmp_ne (rx := some x) (ry := some y) C.1 C.2.1 hd ht (fun q => kt (fun z => q (congrArg some z)) p e s m args below meth c H locs cells slots ls C hH hS hL h1 h2) (fun q => kf (Option.some.inj q) p e s m args below meth c H locs cells slots ls C hH hS hL h1 h2)
theorem G_lookup (tgt : Nat) {dflt : Int} {ps : Array (Int × Int)} {len : Nat} {x : Int32} {off : Int} (hd : decode M.2.2.1 pc = .ok (.lookupswitch dflt ps, len)) (hp : (ps.toList.zip (ps.toList.drop 1)).all (fun (a, next) => a.1 < next.1) = true) (ho : Op.lookupswitch.offset ps.toList dflt x.toInt = off) (ht : (pc : Int) + off = (tgt : Int)) (k : G E M R Post tgt L st h ac as) : G E M R Post pc L (.int x :: st) h ac as := by
  intro p e s m args below meth c H locs cells slots ls C hH hS hL h1 h2
  exact lv_lookup C.1 C.2.1 hd hp ho ht (k p e s m args below meth c H locs cells slots ls C hH hS hL h1 h2)
theorem G_tableOut (tgt : Nat) {dflt lo hi : Int} {offs : Array Int} {len : Nat} {x : Int32} (hd : decode M.2.2.1 pc = .ok (.tableswitch dflt lo hi offs, len)) (hx : x.toInt < lo ∨ hi < x.toInt) (ht : (pc : Int) + dflt = (tgt : Int)) (k : G E M R Post tgt L st h ac as) : G E M R Post pc L (.int x :: st) h ac as := by
  intro p e s m args below meth c H locs cells slots ls C hH hS hL h1 h2
  exact lv_tableOut C.1 C.2.1 hd hx ht (k p e s m args below meth c H locs cells slots ls C hH hS hL h1 h2)
theorem G_tableIn (tgt : Nat) {dflt lo hi : Int} {offs : Array Int} {len : Nat} {x : Int32} {off : Int} (hd : decode M.2.2.1 pc = .ok (.tableswitch dflt lo hi offs, len)) (h1 : ¬ x.toInt < lo) (h2 : ¬ hi < x.toInt) (ho : offs[(x.toInt - lo).toNat]? = some off) (ht : (pc : Int) + off = (tgt : Int)) (k : G E M R Post tgt L st h ac as) : G E M R Post pc L (.int x :: st) h ac as := by
  intro p e s m args below meth c H locs cells slots ls C hH hS hL hh1 hh2
  exact lv_tableIn C.1 C.2.1 hd h1 h2 ho ht (k p e s m args below meth c H locs cells slots ls C hH hS hL hh1 hh2)
/-! ===== the end ===== -/
theorem QQ_end {s t : State} {H : Heap} {locs : List Loc} {v : Option Value} (hKK : KK E s) (hH : HH E s h H) (hS : va_S (eA E) s.heap H locs) (hP : Post v h) (ht : t.heap = H) (hW : s.WarmedH t.vm) {args : Array Value} : QQ E Post args s (.returned v) t :=
  ⟨v, h, rfl, hP, hKK.moved hW, by rw [ht]; exact hH.moved hW.alike, hS.F ht⟩
theorem G_iret {x : Int32} {ty : FieldType} (hr : M.2.2.2.2 = some ty) (hn : narrow ty (.int x) = .int x) (hP : Post (some (.int x)) h) (hd : decode M.2.2.1 pc = .ok (.ireturn, 1)) : G E M R Post pc L [.int x] h ac as := by
  intro p e s m args below meth c H locs cells slots ls C hH hS hL h1 h2
  refine W.widen (k := R.cells) (n := R.slots) (by omega) (by omega) ?_
  exact W.zret C.1 C.2.1 (C.2.2.2.2.2.1.trans hr) hn (fun t ht hW => QQ_end C.2.2.2.2.2.2.2.2.1 hH hS hP ht hW) hS.2.2 hd C.2.2.2.2.2.2.1
theorem G_ret (hr : M.2.2.2.2 = none) (hP : Post none h) (hd : decode M.2.2.1 pc = .ok (.return_, 1)) : G E M R Post pc L [] h ac as := by
  intro p e s m args below meth c H locs cells slots ls C hH hS hL h1 h2
  refine W.widen (k := R.cells) (n := R.slots) (by omega) (by omega) ?_
  exact W.vret C.1 C.2.1 (C.2.2.2.2.2.1.trans hr) (fun t ht hW => QQ_end C.2.2.2.2.2.2.2.2.1 hH hS hP ht hW) hS.2.2 hd C.2.2.2.2.2.2.1
theorem G_aret {x : Value} {nm : String} (hr : M.2.2.2.2 = some (.object nm)) (hx : x = .null ∨ ∃ a, x = .ref a) (hP : Post (some x) h) (hd : decode M.2.2.1 pc = .ok (.areturn, 1)) : G E M R Post pc L [x] h ac as := by
  intro p e s m args below meth c H locs cells slots ls C hH hS hL h1 h2
  refine W.widen (k := R.cells) (n := R.slots) (by omega) (by omega) ?_
  exact W.aret C.1 C.2.1 (C.2.2.2.2.2.1.trans hr) (Or.inl ⟨nm, rfl⟩) hx (fun t ht hW => QQ_end C.2.2.2.2.2.2.2.2.1 hH hS hP ht hW) hS.2.2 hd C.2.2.2.2.2.2.1
end RULES

/-! LAW: rows over one run of the law, its start and its script known -/
def GT (p : Program) (l : Launch) (e : Env) (s : State) (m : MethodId) (args : Array Value) (below : List Frame) (meth : Method) (c : Code) (Q : State → Prop) (D : va_G) (A : Nat → Prop) (ad0 : Nat → Nat) (N : Nat) (M : mj_M) (pc : Nat) (L : mj_L) (st : List Value) (w : mj_W) (k n : Nat) : Prop :=
  ∀ (ad : Nat → Nat) (cy : Nat → ClassId) (H : Heap) (locs : List Loc) (ls : Array Slot), mj_rel true N ad0 ad w → mj_P D A ad cy w s H → va_S A s.heap H locs → mj_l ad ls M.2.1 L →
    W p l e M.2.2.2.1 s m args below meth c H locs k n Q (F0 m pc ls (st.map (mj_v ad)))
section MJT
variable {p : Program} {l : Launch} {e : Env} {s : State} {m : MethodId} {args : Array Value} {below : List Frame} {meth : Method} {c : Code} {Q : State → Prop} {D : va_G} {A : Nat → Prop} {ad0 : Nat → Nat} {N : Nat} {cc : ByteArray} {M : mj_M} {pc : Nat} {L : mj_L} {st rest : List Value} {w w1 w' : mj_W} {k n : Nat} {y : MethodName} {ws : List Cond} {rm : Room} {as : List Value} {v : Option Value} {idx na : Nat}
theorem T_iadd (F : mj_F l cc M D A p s m args meth c) {x y : Int32} (hd : decode cc pc = .ok (.iadd, 1)) (kk : GT p l e s m args below meth c Q D A ad0 N M (pc + 1) L (.int (x + y) :: st) w k n) : GT p l e s m args below meth c Q D A ad0 N M pc L (.int y :: .int x :: st) w k n := by
  intro ad cy H locs ls r P S hl
  exact lv_iadd F.1 F.2.1 hd (kk ad cy H locs ls r P S hl)
theorem T_isub (F : mj_F l cc M D A p s m args meth c) {x y : Int32} (hd : decode cc pc = .ok (.isub, 1)) (kk : GT p l e s m args below meth c Q D A ad0 N M (pc + 1) L (.int (x - y) :: st) w k n) : GT p l e s m args below meth c Q D A ad0 N M pc L (.int y :: .int x :: st) w k n := by
  intro ad cy H locs ls r P S hl
  exact lv_isub F.1 F.2.1 hd (kk ad cy H locs ls r P S hl)
theorem T_imul (F : mj_F l cc M D A p s m args meth c) {x y : Int32} (hd : decode cc pc = .ok (.imul, 1)) (kk : GT p l e s m args below meth c Q D A ad0 N M (pc + 1) L (.int (x * y) :: st) w k n) : GT p l e s m args below meth c Q D A ad0 N M pc L (.int y :: .int x :: st) w k n := by
  intro ad cy H locs ls r P S hl
  exact lv_imul F.1 F.2.1 hd (kk ad cy H locs ls r P S hl)
theorem T_iand (F : mj_F l cc M D A p s m args meth c) {x y : Int32} (hd : decode cc pc = .ok (.iand, 1)) (kk : GT p l e s m args below meth c Q D A ad0 N M (pc + 1) L (.int (x &&& y) :: st) w k n) : GT p l e s m args below meth c Q D A ad0 N M pc L (.int y :: .int x :: st) w k n := by
  intro ad cy H locs ls r P S hl
  exact lv_iand F.1 F.2.1 hd (kk ad cy H locs ls r P S hl)
theorem T_irem (F : mj_F l cc M D A p s m args meth c) {x y : Int32} (hd : decode cc pc = .ok (.irem, 1)) (hne : ¬ y = 0) (kk : GT p l e s m args below meth c Q D A ad0 N M (pc + 1) L (.int (x - x / y * y) :: st) w k n) : GT p l e s m args below meth c Q D A ad0 N M pc L (.int y :: .int x :: st) w k n := by
  intro ad cy H locs ls r P S hl
  exact lv_irem F.1 F.2.1 hd hne (kk ad cy H locs ls r P S hl)
theorem T_ishr (F : mj_F l cc M D A p s m args meth c) {x y : Int32} (hd : decode cc pc = .ok (.ishr, 1)) (kk : GT p l e s m args below meth c Q D A ad0 N M (pc + 1) L (.int (x >>> (y &&& 31)) :: st) w k n) : GT p l e s m args below meth c Q D A ad0 N M pc L (.int y :: .int x :: st) w k n := by
  intro ad cy H locs ls r P S hl
  exact lv_ishr F.1 F.2.1 hd (kk ad cy H locs ls r P S hl)
/-- a helper with a table of its own is called -/
theorem T_i2l (F : mj_F l cc M D A p s m args meth c) {x : Int32} (hd : decode cc pc = .ok (.i2l, 1)) (kk : GT p l e s m args below meth c Q D A ad0 N M (pc + 1) L (.long x.toInt64 :: st) w k n) : GT p l e s m args below meth c Q D A ad0 N M pc L (.int x :: st) w k n := by
  intro ad cy H locs ls r P S hl
  exact lv_i2l F.1 F.2.1 hd rfl (kk ad cy H locs ls r P S hl)
theorem T_lcmp (F : mj_F l cc M D A p s m args meth c) {x y : Int64} (hd : decode cc pc = .ok (.lcmp, 1)) (kk : GT p l e s m args below meth c Q D A ad0 N M (pc + 1) L (.int (lg_cmp x y) :: st) w k n) : GT p l e s m args below meth c Q D A ad0 N M pc L (.long y :: .long x :: st) w k n := by
  intro ad cy H locs ls r P S hl
  exact W.lcmp F.1 F.2.1 hd (kk ad cy H locs ls r P S hl)
theorem T_iconst (F : mj_F l cc M D A p s m args meth c) {i : Int} {v : Int32} (hd : decode cc pc = .ok (.iconst i, 1)) (hv : Int32.ofInt i = v) (kk : GT p l e s m args below meth c Q D A ad0 N M (pc + 1) L (.int v :: st) w k n) : GT p l e s m args below meth c Q D A ad0 N M pc L st w k n := by
  intro ad cy H locs ls r P S hl
  exact lv_iconst F.1 F.2.1 hd hv (kk ad cy H locs ls r P S hl)
theorem T_bipush (F : mj_F l cc M D A p s m args meth c) {i : Int} {v : Int32} (hd : decode cc pc = .ok (.bipush i, 2)) (hv : (Int8.ofInt i).toInt32 = v) (kk : GT p l e s m args below meth c Q D A ad0 N M (pc + 2) L (.int v :: st) w k n) : GT p l e s m args below meth c Q D A ad0 N M pc L st w k n := by
  intro ad cy H locs ls r P S hl
  exact lv_bipush F.1 F.2.1 hd hv (kk ad cy H locs ls r P S hl)
theorem T_sipush (F : mj_F l cc M D A p s m args meth c) {i : Int} {v : Int32} (hd : decode cc pc = .ok (.sipush i, 3)) (hv : (Int16.ofInt i).toInt32 = v) (kk : GT p l e s m args below meth c Q D A ad0 N M (pc + 3) L (.int v :: st) w k n) : GT p l e s m args below meth c Q D A ad0 N M pc L st w k n := by
  intro ad cy H locs ls r P S hl
  exact lv_sipush F.1 F.2.1 hd hv (kk ad cy H locs ls r P S hl)
theorem T_ldc (F : mj_F l cc M D A p s m args meth c) {i : Nat} {v : Int32} (hd : decode cc pc = .ok (.ldc i, 2)) (hc : Cond.constant M.1 i v ∈ M.2.2.1) (kk : GT p l e s m args below meth c Q D A ad0 N M (pc + 2) L (.int v :: st) w k n) : GT p l e s m args below meth c Q D A ad0 N M pc L st w k n := by
  intro ad cy H locs ls r P S hl
  exact lv_ldc F.1 F.2.1 F.2.2.2.1 (F.2.2.2.2.1 _ hc) hd (kk ad cy H locs ls r P S hl)
theorem T_iload (F : mj_F l cc M D A p s m args meth c) {i : Nat} {x : Int32} (hd : decode cc pc = .ok (.iload i, 2)) (hi : L[i]? = some (some (.int x))) (kk : GT p l e s m args below meth c Q D A ad0 N M (pc + 2) L (.int x :: st) w k n) : GT p l e s m args below meth c Q D A ad0 N M pc L st w k n := by
  intro ad cy H locs ls r P S hl
  exact lv_iload F.1 F.2.1 hd (hl.get hi) (kk ad cy H locs ls r P S hl)
theorem T_iload_n (F : mj_F l cc M D A p s m args meth c) {i : Fin 4} {x : Int32} (hd : decode cc pc = .ok (.iload_n i, 1)) (hi : L[(i : Nat)]? = some (some (.int x))) (kk : GT p l e s m args below meth c Q D A ad0 N M (pc + 1) L (.int x :: st) w k n) : GT p l e s m args below meth c Q D A ad0 N M pc L st w k n := by
  intro ad cy H locs ls r P S hl
  exact lv_iload_n F.1 F.2.1 hd rfl (hl.get hi) (kk ad cy H locs ls r P S hl)
theorem T_aload (F : mj_F l cc M D A p s m args meth c) {i : Nat} {x : Nat} (hd : decode cc pc = .ok (.aload i, 2)) (hi : L[i]? = some (some (.ref x))) (kk : GT p l e s m args below meth c Q D A ad0 N M (pc + 2) L (.ref x :: st) w k n) : GT p l e s m args below meth c Q D A ad0 N M pc L st w k n := by
  intro ad cy H locs ls r P S hl
  exact lv_aload F.1 F.2.1 hd (hl.get hi) (kk ad cy H locs ls r P S hl)
theorem T_aload_n (F : mj_F l cc M D A p s m args meth c) {i : Fin 4} {x : Nat} (hd : decode cc pc = .ok (.aload_n i, 1)) (hi : L[(i : Nat)]? = some (some (.ref x))) (kk : GT p l e s m args below meth c Q D A ad0 N M (pc + 1) L (.ref x :: st) w k n) : GT p l e s m args below meth c Q D A ad0 N M pc L st w k n := by
  intro ad cy H locs ls r P S hl
  exact lv_aload_n F.1 F.2.1 hd rfl (hl.get hi) (kk ad cy H locs ls r P S hl)
theorem T_lload (F : mj_F l cc M D A p s m args meth c) {i : Nat} {x : Int64} (hd : decode cc pc = .ok (.lload i, 2)) (hi : L[i]? = some (some (.long x))) (kk : GT p l e s m args below meth c Q D A ad0 N M (pc + 2) L (.long x :: st) w k n) : GT p l e s m args below meth c Q D A ad0 N M pc L st w k n := by
  intro ad cy H locs ls r P S hl
  exact lv_lload F.1 F.2.1 hd (hl.get hi) (kk ad cy H locs ls r P S hl)
theorem T_istore (F : mj_F l cc M D A p s m args meth c) {i : Nat} {x : Int32} {L' : mj_L} (hd : decode cc pc = .ok (.istore i, 2)) (hi : Nat.ble (i + 1) L.length = true) (hL : mj_st L i (.int x) = L') (kk : GT p l e s m args below meth c Q D A ad0 N M (pc + 2) L' st w k n) : GT p l e s m args below meth c Q D A ad0 N M pc L (.int x :: st) w k n := by
  intro ad cy H locs ls r P S hl
  subst hL
  exact lv_istore F.1 F.2.1 hd hl.2 (by rw [← hl.1]; exact Nat.le_of_ble_eq_true hi) rfl (fun ls' hl' => kk ad cy H locs ls' r P S (mj_set1 hl.1 hl' rfl))
theorem T_astore (F : mj_F l cc M D A p s m args meth c) {i : Nat} {x : Nat} {L' : mj_L} (hd : decode cc pc = .ok (.astore i, 2)) (hi : Nat.ble (i + 1) L.length = true) (hL : mj_st L i (.ref x) = L') (kk : GT p l e s m args below meth c Q D A ad0 N M (pc + 2) L' st w k n) : GT p l e s m args below meth c Q D A ad0 N M pc L (.ref x :: st) w k n := by
  intro ad cy H locs ls r P S hl
  subst hL
  exact lv_astore F.1 F.2.1 hd hl.2 (by rw [← hl.1]; exact Nat.le_of_ble_eq_true hi) rfl (fun ls' hl' => kk ad cy H locs ls' r P S (mj_set1 hl.1 hl' rfl))
theorem T_astore_n (F : mj_F l cc M D A p s m args meth c) {i : Fin 4} {x : Nat} {L' : mj_L} (hd : decode cc pc = .ok (.astore_n i, 1)) (hi : Nat.ble ((i : Nat) + 1) L.length = true) (hL : mj_st L (i : Nat) (.ref x) = L') (kk : GT p l e s m args below meth c Q D A ad0 N M (pc + 1) L' st w k n) : GT p l e s m args below meth c Q D A ad0 N M pc L (.ref x :: st) w k n := by
  intro ad cy H locs ls r P S hl
  subst hL
  exact lv_astore_n F.1 F.2.1 hd rfl hl.2 (by rw [← hl.1]; exact Nat.le_of_ble_eq_true hi) rfl (fun ls' hl' => kk ad cy H locs ls' r P S (mj_set1 hl.1 hl' rfl))
theorem T_lstore (F : mj_F l cc M D A p s m args meth c) {i : Nat} {x : Int64} {L' : mj_L} (hd : decode cc pc = .ok (.lstore i, 2)) (hi : Nat.ble (i + 2) L.length = true) (hL : mj_st2 L i (.long x) = L') (kk : GT p l e s m args below meth c Q D A ad0 N M (pc + 2) L' st w k n) : GT p l e s m args below meth c Q D A ad0 N M pc L (.long x :: st) w k n := by
  intro ad cy H locs ls r P S hl
  subst hL
  exact lv_lstore F.1 F.2.1 hd hl.2 (by rw [← hl.1]; exact Nat.le_of_ble_eq_true hi) rfl (fun ls' hl' => kk ad cy H locs ls' r P S (mj_set2 hl.1 hl' rfl))
theorem T_iinc (F : mj_F l cc M D A p s m args meth c) {i : Nat} {d : Int} {x v : Int32} {L' : mj_L} (hd : decode cc pc = .ok (.iinc i d, 3)) (hi : L[i]? = some (some (.int x))) (hv : x + Int32.ofInt d = v) (hL : mj_st L i (.int v) = L') (kk : GT p l e s m args below meth c Q D A ad0 N M (pc + 3) L' st w k n) : GT p l e s m args below meth c Q D A ad0 N M pc L st w k n := by
  intro ad cy H locs ls r P S hl
  subst hL
  obtain ⟨z, hz⟩ := List.getElem?_of_mem (mj_lv_mem.mpr ⟨Value.int x, hi, rfl⟩ : (i, Value.int x) ∈ mj_lv ad L)
  exact lv_iinc (k := z) F.1 F.2.1 hd hl.2 hz hv (by rw [← hl.1]; exact (List.getElem?_eq_some_iff.mp hi).1) rfl (fun ls' hl' => kk ad cy H locs ls' r P S (mj_set1 hl.1 hl' rfl))
theorem T_dup (F : mj_F l cc M D A p s m args meth c) {v : Value} (hd : decode cc pc = .ok (.dup, 1)) (hv : v.category = 1) (kk : GT p l e s m args below meth c Q D A ad0 N M (pc + 1) L (v :: v :: st) w k n) : GT p l e s m args below meth c Q D A ad0 N M pc L (v :: st) w k n := by
  intro ad cy H locs ls r P S hl
  exact lv_dup F.1 F.2.1 hd ((mj_cat ad v).trans hv) (kk ad cy H locs ls r P S hl)
theorem T_icmp_eq (F : mj_F l cc M D A p s m args meth c) {x y : Int32} {off : Int} (tgt : Nat) (hd : decode cc pc = .ok (.if_icmp .eq off, 3)) (ht : (pc : Int) + off = (tgt : Int)) (kt : x = y → GT p l e s m args below meth c Q D A ad0 N M tgt L st w k n) (kf : ¬ x = y → GT p l e s m args below meth c Q D A ad0 N M (pc + 3) L st w k n) : GT p l e s m args below meth c Q D A ad0 N M pc L (.int y :: .int x :: st) w k n := by
  intro ad cy H locs ls r P S hl
  exact lv_icmp_eq F.1 F.2.1 hd ht (fun q => kt q ad cy H locs ls r P S hl) (fun q => kf q ad cy H locs ls r P S hl)
theorem T_icmp_ne (F : mj_F l cc M D A p s m args meth c) {x y : Int32} {off : Int} (tgt : Nat) (hd : decode cc pc = .ok (.if_icmp .ne off, 3)) (ht : (pc : Int) + off = (tgt : Int)) (kt : ¬ x = y → GT p l e s m args below meth c Q D A ad0 N M tgt L st w k n) (kf : x = y → GT p l e s m args below meth c Q D A ad0 N M (pc + 3) L st w k n) : GT p l e s m args below meth c Q D A ad0 N M pc L (.int y :: .int x :: st) w k n := by
  intro ad cy H locs ls r P S hl
  exact lv_icmp_ne F.1 F.2.1 hd ht (fun q => kt q ad cy H locs ls r P S hl) (fun q => kf q ad cy H locs ls r P S hl)
theorem T_icmp_lt (F : mj_F l cc M D A p s m args meth c) {x y : Int32} {off : Int} (tgt : Nat) (hd : decode cc pc = .ok (.if_icmp .lt off, 3)) (ht : (pc : Int) + off = (tgt : Int)) (kt : x < y → GT p l e s m args below meth c Q D A ad0 N M tgt L st w k n) (kf : ¬ x < y → GT p l e s m args below meth c Q D A ad0 N M (pc + 3) L st w k n) : GT p l e s m args below meth c Q D A ad0 N M pc L (.int y :: .int x :: st) w k n := by
  intro ad cy H locs ls r P S hl
  exact lv_icmp_lt F.1 F.2.1 hd ht (fun q => kt q ad cy H locs ls r P S hl) (fun q => kf q ad cy H locs ls r P S hl)
theorem T_icmp_ge (F : mj_F l cc M D A p s m args meth c) {x y : Int32} {off : Int} (tgt : Nat) (hd : decode cc pc = .ok (.if_icmp .ge off, 3)) (ht : (pc : Int) + off = (tgt : Int)) (kt : y ≤ x → GT p l e s m args below meth c Q D A ad0 N M tgt L st w k n) (kf : ¬ y ≤ x → GT p l e s m args below meth c Q D A ad0 N M (pc + 3) L st w k n) : GT p l e s m args below meth c Q D A ad0 N M pc L (.int y :: .int x :: st) w k n := by
  intro ad cy H locs ls r P S hl
  exact lv_icmp_ge F.1 F.2.1 hd ht (fun q => kt q ad cy H locs ls r P S hl) (fun q => kf q ad cy H locs ls r P S hl)
theorem T_icmp_gt (F : mj_F l cc M D A p s m args meth c) {x y : Int32} {off : Int} (tgt : Nat) (hd : decode cc pc = .ok (.if_icmp .gt off, 3)) (ht : (pc : Int) + off = (tgt : Int)) (kt : y < x → GT p l e s m args below meth c Q D A ad0 N M tgt L st w k n) (kf : ¬ y < x → GT p l e s m args below meth c Q D A ad0 N M (pc + 3) L st w k n) : GT p l e s m args below meth c Q D A ad0 N M pc L (.int y :: .int x :: st) w k n := by
  intro ad cy H locs ls r P S hl
  exact lv_icmp_gt F.1 F.2.1 hd ht (fun q => kt q ad cy H locs ls r P S hl) (fun q => kf q ad cy H locs ls r P S hl)
theorem T_icmp_le (F : mj_F l cc M D A p s m args meth c) {x y : Int32} {off : Int} (tgt : Nat) (hd : decode cc pc = .ok (.if_icmp .le off, 3)) (ht : (pc : Int) + off = (tgt : Int)) (kt : x ≤ y → GT p l e s m args below meth c Q D A ad0 N M tgt L st w k n) (kf : ¬ x ≤ y → GT p l e s m args below meth c Q D A ad0 N M (pc + 3) L st w k n) : GT p l e s m args below meth c Q D A ad0 N M pc L (.int y :: .int x :: st) w k n := by
  intro ad cy H locs ls r P S hl
  exact lv_icmp_le F.1 F.2.1 hd ht (fun q => kt q ad cy H locs ls r P S hl) (fun q => kf q ad cy H locs ls r P S hl)
theorem T_if_eq (F : mj_F l cc M D A p s m args meth c) {x : Int32} {off : Int} (tgt : Nat) (hd : decode cc pc = .ok (.ifCond .eq off, 3)) (ht : (pc : Int) + off = (tgt : Int)) (kt : x = 0 → GT p l e s m args below meth c Q D A ad0 N M tgt L st w k n) (kf : ¬ x = 0 → GT p l e s m args below meth c Q D A ad0 N M (pc + 3) L st w k n) : GT p l e s m args below meth c Q D A ad0 N M pc L (.int x :: st) w k n := by
  intro ad cy H locs ls r P S hl
  exact lv_if_eq F.1 F.2.1 hd ht (fun q => kt q ad cy H locs ls r P S hl) (fun q => kf q ad cy H locs ls r P S hl)
theorem T_if_ne (F : mj_F l cc M D A p s m args meth c) {x : Int32} {off : Int} (tgt : Nat) (hd : decode cc pc = .ok (.ifCond .ne off, 3)) (ht : (pc : Int) + off = (tgt : Int)) (kt : ¬ x = 0 → GT p l e s m args below meth c Q D A ad0 N M tgt L st w k n) (kf : x = 0 → GT p l e s m args below meth c Q D A ad0 N M (pc + 3) L st w k n) : GT p l e s m args below meth c Q D A ad0 N M pc L (.int x :: st) w k n := by
  intro ad cy H locs ls r P S hl
  exact lv_if_ne F.1 F.2.1 hd ht (fun q => kt q ad cy H locs ls r P S hl) (fun q => kf q ad cy H locs ls r P S hl)
theorem T_if_lt (F : mj_F l cc M D A p s m args meth c) {x : Int32} {off : Int} (tgt : Nat) (hd : decode cc pc = .ok (.ifCond .lt off, 3)) (ht : (pc : Int) + off = (tgt : Int)) (kt : x < 0 → GT p l e s m args below meth c Q D A ad0 N M tgt L st w k n) (kf : ¬ x < 0 → GT p l e s m args below meth c Q D A ad0 N M (pc + 3) L st w k n) : GT p l e s m args below meth c Q D A ad0 N M pc L (.int x :: st) w k n := by
  intro ad cy H locs ls r P S hl
  exact lv_if_lt F.1 F.2.1 hd ht (fun q => kt q ad cy H locs ls r P S hl) (fun q => kf q ad cy H locs ls r P S hl)
theorem T_if_ge (F : mj_F l cc M D A p s m args meth c) {x : Int32} {off : Int} (tgt : Nat) (hd : decode cc pc = .ok (.ifCond .ge off, 3)) (ht : (pc : Int) + off = (tgt : Int)) (kt : 0 ≤ x → GT p l e s m args below meth c Q D A ad0 N M tgt L st w k n) (kf : ¬ 0 ≤ x → GT p l e s m args below meth c Q D A ad0 N M (pc + 3) L st w k n) : GT p l e s m args below meth c Q D A ad0 N M pc L (.int x :: st) w k n := by
  intro ad cy H locs ls r P S hl
  exact lv_if_ge F.1 F.2.1 hd ht (fun q => kt q ad cy H locs ls r P S hl) (fun q => kf q ad cy H locs ls r P S hl)
theorem T_if_gt (F : mj_F l cc M D A p s m args meth c) {x : Int32} {off : Int} (tgt : Nat) (hd : decode cc pc = .ok (.ifCond .gt off, 3)) (ht : (pc : Int) + off = (tgt : Int)) (kt : 0 < x → GT p l e s m args below meth c Q D A ad0 N M tgt L st w k n) (kf : ¬ 0 < x → GT p l e s m args below meth c Q D A ad0 N M (pc + 3) L st w k n) : GT p l e s m args below meth c Q D A ad0 N M pc L (.int x :: st) w k n := by
  intro ad cy H locs ls r P S hl
  exact lv_if_gt F.1 F.2.1 hd ht (fun q => kt q ad cy H locs ls r P S hl) (fun q => kf q ad cy H locs ls r P S hl)
theorem T_if_le (F : mj_F l cc M D A p s m args meth c) {x : Int32} {off : Int} (tgt : Nat) (hd : decode cc pc = .ok (.ifCond .le off, 3)) (ht : (pc : Int) + off = (tgt : Int)) (kt : x ≤ 0 → GT p l e s m args below meth c Q D A ad0 N M tgt L st w k n) (kf : ¬ x ≤ 0 → GT p l e s m args below meth c Q D A ad0 N M (pc + 3) L st w k n) : GT p l e s m args below meth c Q D A ad0 N M pc L (.int x :: st) w k n := by
  intro ad cy H locs ls r P S hl
  exact lv_if_le F.1 F.2.1 hd ht (fun q => kt q ad cy H locs ls r P S hl) (fun q => kf q ad cy H locs ls r P S hl)
theorem T_goto (F : mj_F l cc M D A p s m args meth c) {off : Int} (tgt : Nat) (hd : decode cc pc = .ok (.goto off, 3)) (ht : (pc : Int) + off = (tgt : Int)) (kk : GT p l e s m args below meth c Q D A ad0 N M tgt L st w k n) : GT p l e s m args below meth c Q D A ad0 N M pc L st w k n := by
  intro ad cy H locs ls r P S hl
  exact lv_goto F.1 F.2.1 hd ht (kk ad cy H locs ls r P S hl)
theorem T_eqi (F : mj_F l cc M D A p s m args meth c) {x y : Int32} (h : x = y) (kk : GT p l e s m args below meth c Q D A ad0 N M pc L (.int y :: st) w k n) : GT p l e s m args below meth c Q D A ad0 N M pc L (.int x :: st) w k n := by subst h; exact kk
theorem T_iaddN (F : mj_F l cc M D A p s m args meth c) {a1 c1 s1 : Nat} (hd : decode cc pc = .ok (.iadd, 1)) (hs : a1 + c1 = s1) (kk : GT p l e s m args below meth c Q D A ad0 N M (pc + 1) L (.int (nI s1) :: st) w k n) : GT p l e s m args below meth c Q D A ad0 N M pc L (.int (nI c1) :: .int (nI a1) :: st) w k n := T_iadd F hd (T_eqi F (by rw [nI_add, hs]) kk)
theorem T_imulN (F : mj_F l cc M D A p s m args meth c) {a1 c1 s1 : Nat} (hd : decode cc pc = .ok (.imul, 1)) (hs : a1 * c1 = s1) (kk : GT p l e s m args below meth c Q D A ad0 N M (pc + 1) L (.int (nI s1) :: st) w k n) : GT p l e s m args below meth c Q D A ad0 N M pc L (.int (nI c1) :: .int (nI a1) :: st) w k n := T_imul F hd (T_eqi F (by rw [pk_mul, hs]) kk)
theorem T_isubN (F : mj_F l cc M D A p s m args meth c) {a1 c1 s1 : Nat} (hd : decode cc pc = .ok (.isub, 1)) (hs : a1 = s1 + c1) (kk : GT p l e s m args below meth c Q D A ad0 N M (pc + 1) L (.int (nI s1) :: st) w k n) : GT p l e s m args below meth c Q D A ad0 N M pc L (.int (nI c1) :: .int (nI a1) :: st) w k n := T_isub F hd (T_eqi F (by rw [pk_sub (by omega)]; congr 1; omega) kk)
theorem T_iincN (F : mj_F l cc M D A p s m args meth c) {i a1 s1 : Nat} {L' : mj_L} (hd : decode cc pc = .ok (.iinc i 1, 3)) (hi : L[i]? = some (some (.int (nI a1)))) (hs : a1 + 1 = s1) (hL : mj_st L i (.int (nI s1)) = L') (kk : GT p l e s m args below meth c Q D A ad0 N M (pc + 3) L' st w k n) : GT p l e s m args below meth c Q D A ad0 N M pc L st w k n := T_iinc F hd hi (by rw [← hs]; exact nI_1 a1) hL kk
theorem T_icmp_eqN (F : mj_F l cc M D A p s m args meth c) {a1 c1 : Nat} {off : Int} (tgt : Nat) (hd : decode cc pc = .ok (.if_icmp .eq off, 3)) (ht : (pc : Int) + off = (tgt : Int)) (ha : a1 < 2147483648 ∧ c1 < 2147483648) (kt : a1 = c1 → GT p l e s m args below meth c Q D A ad0 N M tgt L st w k n) (kf : ¬ a1 = c1 → GT p l e s m args below meth c Q D A ad0 N M (pc + 3) L st w k n) : GT p l e s m args below meth c Q D A ad0 N M pc L (.int (nI c1) :: .int (nI a1) :: st) w k n := T_icmp_eq F tgt hd ht (fun q => kt ((nI_eq ha.1 ha.2).mp q)) (fun q => kf (fun z => q ((nI_eq ha.1 ha.2).mpr z)))
theorem T_icmp_neN (F : mj_F l cc M D A p s m args meth c) {a1 c1 : Nat} {off : Int} (tgt : Nat) (hd : decode cc pc = .ok (.if_icmp .ne off, 3)) (ht : (pc : Int) + off = (tgt : Int)) (ha : a1 < 2147483648 ∧ c1 < 2147483648) (kt : ¬ a1 = c1 → GT p l e s m args below meth c Q D A ad0 N M tgt L st w k n) (kf : a1 = c1 → GT p l e s m args below meth c Q D A ad0 N M (pc + 3) L st w k n) : GT p l e s m args below meth c Q D A ad0 N M pc L (.int (nI c1) :: .int (nI a1) :: st) w k n := T_icmp_ne F tgt hd ht (fun q => kt (fun z => q ((nI_eq ha.1 ha.2).mpr z))) (fun q => kf ((nI_eq ha.1 ha.2).mp q))
theorem T_icmp_ltN (F : mj_F l cc M D A p s m args meth c) {a1 c1 : Nat} {off : Int} (tgt : Nat) (hd : decode cc pc = .ok (.if_icmp .lt off, 3)) (ht : (pc : Int) + off = (tgt : Int)) (ha : a1 < 2147483648 ∧ c1 < 2147483648) (kt : a1 < c1 → GT p l e s m args below meth c Q D A ad0 N M tgt L st w k n) (kf : c1 ≤ a1 → GT p l e s m args below meth c Q D A ad0 N M (pc + 3) L st w k n) : GT p l e s m args below meth c Q D A ad0 N M pc L (.int (nI c1) :: .int (nI a1) :: st) w k n := T_icmp_lt F tgt hd ht (fun q => kt ((nI_ltI ha.1 ha.2).mp q)) (fun q => kf (by have z : ¬ _ := fun z => q ((nI_ltI ha.1 ha.2).mpr z); omega))
theorem T_icmp_geN (F : mj_F l cc M D A p s m args meth c) {a1 c1 : Nat} {off : Int} (tgt : Nat) (hd : decode cc pc = .ok (.if_icmp .ge off, 3)) (ht : (pc : Int) + off = (tgt : Int)) (ha : a1 < 2147483648 ∧ c1 < 2147483648) (kt : c1 ≤ a1 → GT p l e s m args below meth c Q D A ad0 N M tgt L st w k n) (kf : a1 < c1 → GT p l e s m args below meth c Q D A ad0 N M (pc + 3) L st w k n) : GT p l e s m args below meth c Q D A ad0 N M pc L (.int (nI c1) :: .int (nI a1) :: st) w k n := T_icmp_ge F tgt hd ht (fun q => kt ((nI_leI ha.2 ha.1).mp q)) (fun q => kf (by have z : ¬ _ := fun z => q ((nI_leI ha.2 ha.1).mpr z); omega))
theorem T_icmp_gtN (F : mj_F l cc M D A p s m args meth c) {a1 c1 : Nat} {off : Int} (tgt : Nat) (hd : decode cc pc = .ok (.if_icmp .gt off, 3)) (ht : (pc : Int) + off = (tgt : Int)) (ha : a1 < 2147483648 ∧ c1 < 2147483648) (kt : c1 < a1 → GT p l e s m args below meth c Q D A ad0 N M tgt L st w k n) (kf : a1 ≤ c1 → GT p l e s m args below meth c Q D A ad0 N M (pc + 3) L st w k n) : GT p l e s m args below meth c Q D A ad0 N M pc L (.int (nI c1) :: .int (nI a1) :: st) w k n := T_icmp_gt F tgt hd ht (fun q => kt ((nI_ltI ha.2 ha.1).mp q)) (fun q => kf (by have z : ¬ _ := fun z => q ((nI_ltI ha.2 ha.1).mpr z); omega))
theorem T_icmp_leN (F : mj_F l cc M D A p s m args meth c) {a1 c1 : Nat} {off : Int} (tgt : Nat) (hd : decode cc pc = .ok (.if_icmp .le off, 3)) (ht : (pc : Int) + off = (tgt : Int)) (ha : a1 < 2147483648 ∧ c1 < 2147483648) (kt : a1 ≤ c1 → GT p l e s m args below meth c Q D A ad0 N M tgt L st w k n) (kf : c1 < a1 → GT p l e s m args below meth c Q D A ad0 N M (pc + 3) L st w k n) : GT p l e s m args below meth c Q D A ad0 N M pc L (.int (nI c1) :: .int (nI a1) :: st) w k n := T_icmp_le F tgt hd ht (fun q => kt ((nI_leI ha.1 ha.2).mp q)) (fun q => kf (by have z : ¬ _ := fun z => q ((nI_leI ha.1 ha.2).mpr z); omega))
theorem T_if_ltN (F : mj_F l cc M D A p s m args meth c) {a1 : Nat} {off : Int} (tgt : Nat) (hd : decode cc pc = .ok (.ifCond .lt off, 3)) (ht : (pc : Int) + off = (tgt : Int)) (ha : a1 < 2147483648) (kf : GT p l e s m args below meth c Q D A ad0 N M (pc + 3) L st w k n) : GT p l e s m args below meth c Q D A ad0 N M pc L (.int (nI a1) :: st) w k n := T_if_lt F tgt hd ht (fun q => absurd q (nI_pos ha)) (fun _ => kf)
theorem T_if_geN (F : mj_F l cc M D A p s m args meth c) {a1 : Nat} {off : Int} (tgt : Nat) (hd : decode cc pc = .ok (.ifCond .ge off, 3)) (ht : (pc : Int) + off = (tgt : Int)) (ha : a1 < 2147483648) (kt : GT p l e s m args below meth c Q D A ad0 N M tgt L st w k n) : GT p l e s m args below meth c Q D A ad0 N M pc L (.int (nI a1) :: st) w k n := T_if_ge F tgt hd ht (fun _ => kt) (fun q => absurd (nI_pos' ha) q)
theorem T_if_eqN (F : mj_F l cc M D A p s m args meth c) {a1 : Nat} {off : Int} (tgt : Nat) (hd : decode cc pc = .ok (.ifCond .eq off, 3)) (ht : (pc : Int) + off = (tgt : Int)) (ha : a1 < 2147483648) (kt : a1 = 0 → GT p l e s m args below meth c Q D A ad0 N M tgt L st w k n) (kf : 0 < a1 → GT p l e s m args below meth c Q D A ad0 N M (pc + 3) L st w k n) : GT p l e s m args below meth c Q D A ad0 N M pc L (.int (nI a1) :: st) w k n := T_if_eq F tgt hd ht (fun q => kt ((nI_eq (b := 0) ha (by omega)).mp q)) (fun q => kf (by have z : ¬ a1 = 0 := fun z => q ((nI_eq (b := 0) ha (by omega)).mpr z); omega))
theorem T_if_neN (F : mj_F l cc M D A p s m args meth c) {a1 : Nat} {off : Int} (tgt : Nat) (hd : decode cc pc = .ok (.ifCond .ne off, 3)) (ht : (pc : Int) + off = (tgt : Int)) (ha : a1 < 2147483648) (kt : 0 < a1 → GT p l e s m args below meth c Q D A ad0 N M tgt L st w k n) (kf : a1 = 0 → GT p l e s m args below meth c Q D A ad0 N M (pc + 3) L st w k n) : GT p l e s m args below meth c Q D A ad0 N M pc L (.int (nI a1) :: st) w k n := T_if_ne F tgt hd ht (fun q => kt (by have z : ¬ a1 = 0 := fun z => q ((nI_eq (b := 0) ha (by omega)).mpr z); omega)) (fun q => kf ((nI_eq (b := 0) ha (by omega)).mp q))
theorem T_callS (F : mj_F l cc M D A p s m args meth c) (hd : decode cc pc = .ok (.invokestatic idx, 3)) (hcw : mj_cwS M idx y ws rm na) (h0 : rm.cells = 0 ∧ rm.slots = 0) (hk0 : k ≤ M.2.2.2.1.cells ∧ n ≤ M.2.2.2.1.slots) (hM : MC l y ws rm false as w v w1) (hn : as.length = na) (hst : st = as.reverse ++ rest) (hcat : (rest.map fun v => v.category).sum ≤ 8) (kk : GT p l e s m args below meth c Q D A ad0 N M (pc + 3) L (v.toList ++ rest) w1 k n) : GT p l e s m args below meth c Q D A ad0 N M pc L st w k n := by
  intro ad cy H locs ls r P S hl
  obtain ⟨bytes, maxL, ret, tl, hg, hws, hdd, hR⟩ := hcw
  subst hst
  refine mj_after (va_runS (As := as.map (mj_v ad)) (rest := rest.map (mj_v ad)) ⟨F.1, F.2.1, F.2.2.1, F.2.2.2.1, mj_hts F⟩ (hM r.2.2.2 D ad cy H.size) (va_cwS na (mj_hts F) hg hws rfl rfl hdd hR) ⟨mj_blind, mj_pre F P S⟩ rfl (by rw [List.length_map]; exact hn) hl.2.1 (by simp) (lv_room (by rw [mj_cats]; exact hcat)) hd (by rw [h0.1, h0.2]; exact hk0)) P S (mj_hA F) (fun ad1 cy1 H1 locs1 hrel hP1 hS1 => ?_)
  have ea : ad1 = ad := hrel.1 rfl
  subst ea
  rw [mj_tl, h0.1, h0.2]
  exact kk ad1 cy1 H1 locs1 ls (r.next hrel (fun _ => rfl)) hP1 hS1 hl
theorem T_new (F : mj_F l cc M D A p s m args meth c) {ci N1 : Nat} {C : String} {T : u_T} {fs : List Value} {ty : Nat → FieldType} (hd : decode cc pc = .ok (.new idx, 3)) (hcl : vwCl[ci]? = some (C, T, N1)) (hin : ∀ x ∈ u_ws C T N1, x ∈ M.2.2.1) (hty : ∀ k, k < N1 → parseFieldDescriptor (T k).2.2.1 = some (ty k)) (hws : Cond.classLink M.1 idx C ∈ M.2.2.1 ∧ Cond.instantiable C N1 ∈ M.2.2.1 ∧ Cond.initialized C ∈ M.2.2.1) (hfs : ∀ j, j < N1 → defaultValue (ty j) = vp_V fs j) (href : fs.all mj_nr = true) (hw : mj_wfb w.length w = true) (hl4 : w.length < 4000) (hlo : mj_losb w.length L st = true) (hk : k + 1 ≤ M.2.2.2.1.cells ∧ n + N1 ≤ M.2.2.2.1.slots) (kk : GT p l e s m args below meth c Q D A ad0 N M (pc + 3) L (.ref w.length :: st) (w ++ [.inr (ci, fs)]) (k + 1) (n + N1)) : GT p l e s m args below meth c Q D A ad0 N M pc L st w k n := by
  intro ad cy H locs ls r P S hl
  refine va_new (D := D) (ci := ci) F.1 F.2.1 (mj_hts F) hin ty hty F.2.2.2.1 (mj_hts F _ hws.1) (mj_hts F _ hws.2.1) (mj_hts F _ hws.2.2) (mj_hK F) P.1 P.2.1 S (mj_hA F) hcl hfs hk.1 hk.2 hd (fun q H1 hP hD hS => ?_)
  have ha := mj_ag (ad := ad) (q := q) hl4
  have e1 : mj_w (mj_up ad w.length q) (mj_up cy w.length 0) (w ++ [.inr (ci, fs)]) = mj_w ad cy w ++ [(q, .inr (ci, fs))] := by
    rw [mj_w_app, mj_w_re hw ha (fun k hk => mj_up_n (by omega))]
    refine congrArg (fun z => mj_w ad cy w ++ [z]) ?_
    show (mj_up ad w.length q w.length, Sum.inr (ci, fs.map (mj_v (mj_up ad w.length q)))) = (q, Sum.inr (ci, fs))
    rw [mj_up_s]
    refine congrArg (fun z => (q, Sum.inr (ci, z))) ?_
    refine (List.map_congr_left (fun v hv => ?_)).trans (List.map_id fs)
    have h0 := List.all_eq_true.mp href v hv
    cases v with
    | ref k0 => cases h0
    | _ => rfl
  have kk' := kk (mj_up ad w.length q) (mj_up cy w.length 0) H1 locs ls (r.grow hl4) ⟨by rw [e1]; exact hP, by rw [e1]; exact hD, P.2.2.app (fun a h => by cases h)⟩ hS (hl.re ha hlo)
  have e2 : (Value.ref w.length :: st).map (mj_v (mj_up ad w.length q)) = .ref q :: st.map (mj_v ad) := by
    rw [List.map_cons, mj_vs_lo ha (mj_los2 hlo)]
    show Value.ref (mj_up ad w.length q w.length) :: _ = _
    rw [mj_up_s]
  rw [e2] at kk'
  exact kk'
theorem T_newa (F : mj_F l cc M D A p s m args meth c) {atype : ArrayType} {ty : FieldType} {x : Int32} {N1 : Nat} {a0 : vp_A} (hd : decode cc pc = .ok (.newarray atype, 2)) (hty : newarray.typeOf atype = ty) (harr : Cond.arrayClass (newarray.typeOf atype) ∈ M.2.2.1) (ha0 : ∀ cA : ClassId, vp_cell cA a0 = arrV cA N1 (fun _ => defaultValue ty)) (hx : ¬ x < 0 ∧ x.toNatClampNeg = N1) (hby : Nat.ble (N1 * componentBytes ty) 536870912 = true) (hw : mj_wfb w.length w = true) (hl4 : w.length < 4000) (hlo : mj_losb w.length L st = true) (hk : k + 1 ≤ M.2.2.2.1.cells ∧ n + N1 ≤ M.2.2.2.1.slots) (kk : GT p l e s m args below meth c Q D A ad0 N M (pc + 2) L (.ref w.length :: st) (w ++ [.inl (ty, a0)]) (k + 1) (n + N1)) : GT p l e s m args below meth c Q D A ad0 N M pc L (.int x :: st) w k n := by
  intro ad cy H locs ls r P S hl
  refine va_newa (D := D) (tys := []) (a0 := a0) F.1 F.2.1 (mj_hts F _ harr) hty (mj_hK F) P.1 P.2.1 S (mj_hA F) ha0 hx.1 hx.2 (Nat.le_of_ble_eq_true hby) hk.1 hk.2 hd (fun q cA H1 hK hP hD hS => ?_)
  have ha := mj_ag (ad := ad) (q := q) hl4
  have e1 : mj_w (mj_up ad w.length q) (mj_up cy w.length cA) (w ++ [.inl (ty, a0)]) = mj_w ad cy w ++ [(q, .inl (cA, a0))] := by
    rw [mj_w_app, mj_w_re hw ha (fun k hk => mj_up_n (by omega))]
    refine congrArg (fun z => mj_w ad cy w ++ [z]) ?_
    show (mj_up ad w.length q w.length, Sum.inl (mj_up cy w.length cA w.length, a0)) = (q, Sum.inl (cA, a0))
    rw [mj_up_s, mj_up_s]
  have hA := hK.2 0 (cA, ty) rfl
  have kk' := kk (mj_up ad w.length q) (mj_up cy w.length cA) H1 locs ls (r.grow hl4) ⟨by rw [e1]; exact hP, by rw [e1]; exact hD, P.2.2.app (fun a h => by cases h; exact hA)⟩ hS (hl.re ha hlo)
  have e2 : (Value.ref w.length :: st).map (mj_v (mj_up ad w.length q)) = .ref q :: st.map (mj_v ad) := by
    rw [List.map_cons, mj_vs_lo ha (mj_los2 hlo)]
    show Value.ref (mj_up ad w.length q w.length) :: _ = _
    rw [mj_up_s]
  rw [e2] at kk'
  exact kk'
theorem T_newK (F : mj_F l cc M D A p s m args meth c) (K : Nat) {ci N1 : Nat} {C : String} {T : u_T} {fs : List Value} {ty : Nat → FieldType} (hd : decode cc pc = .ok (.new idx, 3)) (hcl : vwCl[ci]? = some (C, T, N1)) (hin : ∀ x ∈ u_ws C T N1, x ∈ M.2.2.1) (hty : ∀ k, k < N1 → parseFieldDescriptor (T k).2.2.1 = some (ty k)) (hws : Cond.classLink M.1 idx C ∈ M.2.2.1 ∧ Cond.instantiable C N1 ∈ M.2.2.1 ∧ Cond.initialized C ∈ M.2.2.1) (hfs : ∀ j, j < N1 → defaultValue (ty j) = vp_V fs j) (href : fs.all mj_nr = true) (hK : w.length = K) (hw : mj_wfb K w = true) (hl4 : Nat.blt K 4000 = true) (hlo : mj_losb K L st = true) (hk : k + 1 ≤ M.2.2.2.1.cells ∧ n + N1 ≤ M.2.2.2.1.slots) (hw' : w ++ [.inr (ci, fs)] = w') (kk : GT p l e s m args below meth c Q D A ad0 N M (pc + 3) L (.ref K :: st) w' (k + 1) (n + N1)) : GT p l e s m args below meth c Q D A ad0 N M pc L st w k n := by
  subst hK; subst hw'
  exact T_new F hd hcl hin hty hws hfs href hw (Nat.le_of_ble_eq_true hl4) hlo hk kk
theorem T_newaK (F : mj_F l cc M D A p s m args meth c) (K : Nat) {atype : ArrayType} {ty : FieldType} {x : Int32} {N1 : Nat} {a0 : vp_A} (hd : decode cc pc = .ok (.newarray atype, 2)) (hty : newarray.typeOf atype = ty) (harr : Cond.arrayClass (newarray.typeOf atype) ∈ M.2.2.1) (ha0 : ∀ cA : ClassId, vp_cell cA a0 = arrV cA N1 (fun _ => defaultValue ty)) (hx : ¬ x < 0 ∧ x.toNatClampNeg = N1) (hby : Nat.ble (N1 * componentBytes ty) 536870912 = true) (hK : w.length = K) (hw : mj_wfb K w = true) (hl4 : K < 4000) (hlo : mj_losb K L st = true) (hk : k + 1 ≤ M.2.2.2.1.cells ∧ n + N1 ≤ M.2.2.2.1.slots) (hw' : w ++ [.inl (ty, a0)] = w') (kk : GT p l e s m args below meth c Q D A ad0 N M (pc + 2) L (.ref K :: st) w' (k + 1) (n + N1)) : GT p l e s m args below meth c Q D A ad0 N M pc L (.int x :: st) w k n := by
  subst hK; subst hw'
  exact T_newa F hd hty harr ha0 hx hby hw hl4 hlo hk kk
/-- the script: a number, its length -/
theorem T_scr (F : mj_F l cc M D A p s m args meth c) {a Ls j : Nat} {xs : Nat → Int32} (hX : va_X a Ls xs s s.heap) (hbl : a < s.heap.size) (hbA : ¬ A a) (hb0 : ad0 4000 = a) (hj : j < Ls ∧ Ls < 2147483648) (hd : decode cc pc = .ok (.iaload, 1)) (kk : GT p l e s m args below meth c Q D A ad0 N M (pc + 1) L (.int (xs j) :: st) w k n) : GT p l e s m args below meth c Q D A ad0 N M pc L (.int (nI j) :: .ref 4000 :: st) w k n := by
  intro ad cy H locs ls r P S hl
  have ea : ad 4000 = a := (r.2.1 4000 (Or.inr (Nat.le_refl _))).trans hb0
  have k1 := kk ad cy H locs ls r P S hl
  show W p l e M.2.2.2.1 s m args below meth c H locs k n Q (F0 m pc ls (.int (nI j) :: .ref (ad 4000) :: st.map (mj_v ad)))
  rw [ea]
  refine va_sld F.1 F.2.1 hX hbl hbA S (vp_in_nI hj.1 hj.2) hd ?_
  rw [nI_clamp (by omega)]
  exact k1
theorem T_slen (F : mj_F l cc M D A p s m args meth c) {a Ls : Nat} {xs : Nat → Int32} (hX : va_X a Ls xs s s.heap) (hbl : a < s.heap.size) (hbA : ¬ A a) (hb0 : ad0 4000 = a) (hd : decode cc pc = .ok (.arraylength, 1)) (kk : GT p l e s m args below meth c Q D A ad0 N M (pc + 1) L (.int (nI Ls) :: st) w k n) : GT p l e s m args below meth c Q D A ad0 N M pc L (.ref 4000 :: st) w k n := by
  intro ad cy H locs ls r P S hl
  have ea : ad 4000 = a := (r.2.1 4000 (Or.inr (Nat.le_refl _))).trans hb0
  have k1 := kk ad cy H locs ls r P S hl
  show W p l e M.2.2.2.1 s m args below meth c H locs k n Q (F0 m pc ls (.ref (ad 4000) :: st.map (mj_v ad)))
  rw [ea]
  exact va_slen F.1 F.2.1 hX hbl hbA S hd k1
theorem mj_preE {ex : List Cond} (F : mj_F l cc M D A p s m args meth c) (hE : ∀ U : State, s.WarmedH U.vm → ∀ q ∈ ex, q.before #[] U = true) {ad : Nat → Nat} {cy : Nat → ClassId} {H : Heap} {locs : List Loc} (P : mj_P D A ad cy w s H) (S : va_S A s.heap H locs) : ∀ U : State, U.heap = H → s.WarmedH U.vm → mj_Pe ex D ad cy w H.size as (as.map (mj_v ad)).toArray U := fun U hU hW => ⟨mj_pre F P S U hU hW, hE U hW⟩
/-- a helper is called -/
theorem T_callSE {hh : List (Nat × Nat × Nat × Nat)} {ex : List Cond} (F : mj_F l cc M D A p s m args meth c) (hE : ∀ U : State, s.WarmedH U.vm → ∀ q ∈ ex, q.before #[] U = true) (hex : ∀ q ∈ ex, mj_vmw q) (hd : decode cc pc = .ok (.invokestatic idx, 3)) (hcw : mj_cwSW M idx y hh ws rm na) (hk0 : k + rm.cells ≤ M.2.2.2.1.cells ∧ n + rm.slots ≤ M.2.2.2.1.slots) (hM : MCE l y ws rm ex false as w v w1) (hn : as.length = na) (hst : st = as.reverse ++ rest) (hcat : Nat.ble (rest.map fun v => v.category).sum 8 = true) (kk : GT p l e s m args below meth c Q D A ad0 N M (pc + 3) L (v.toList ++ rest) w1 (k + rm.cells) (n + rm.slots)) : GT p l e s m args below meth c Q D A ad0 N M pc L st w k n := by
  intro ad cy H locs ls r P S hl
  obtain ⟨bytes, maxL, ret, tl, hg, hws, hdd, hR⟩ := hcw
  subst hst
  refine mj_after (vx_runSW (As := as.map (mj_v ad)) (rest := rest.map (mj_v ad)) ⟨F.1, F.2.1, F.2.2.1, F.2.2.2.1, mj_hts F⟩ (hM r.2.2.2 D ad cy H.size) (vx_cwSW na (mj_hts F) hg hws rfl rfl hdd hR) ⟨mj_blindE hex, mj_preE F hE P S⟩ rfl (by rw [List.length_map]; exact hn) hl.2.1 (by simp) (lv_room (by rw [mj_cats]; exact Nat.le_of_ble_eq_true hcat)) hd hk0) P S (mj_hA F) (fun ad1 cy1 H1 locs1 hrel hP1 hS1 => ?_)
  have ea : ad1 = ad := hrel.1 rfl
  subst ea
  rw [mj_tl]
  exact kk ad1 cy1 H1 locs1 ls (r.next hrel (fun _ => rfl)) hP1 hS1 hl
theorem T_callSEi {x : Int32} {hh : List (Nat × Nat × Nat × Nat)} {ex : List Cond} (F : mj_F l cc M D A p s m args meth c) (hE : ∀ U : State, s.WarmedH U.vm → ∀ q ∈ ex, q.before #[] U = true) (hex : ∀ q ∈ ex, mj_vmw q) (hd : decode cc pc = .ok (.invokestatic idx, 3)) (hcw : mj_cwSW M idx y hh ws rm na) (hk0 : k + rm.cells ≤ M.2.2.2.1.cells ∧ n + rm.slots ≤ M.2.2.2.1.slots) (hM : MCE l y ws rm ex false as w (some (.int x)) w1) (hn : as.length = na) (hst : st = as.reverse ++ rest) (hcat : Nat.ble (rest.map fun v => v.category).sum 8 = true) (kk : GT p l e s m args below meth c Q D A ad0 N M (pc + 3) L (.int x :: rest) w1 (k + rm.cells) (n + rm.slots)) : GT p l e s m args below meth c Q D A ad0 N M pc L st w k n := T_callSE F hE hex hd hcw hk0 hM hn hst hcat kk
/-- a constructor that asks more words -/
theorem T_callIE {o : Nat} {ex : List Cond} (F : mj_F l cc M D A p s m args meth c) (hE : ∀ U : State, s.WarmedH U.vm → ∀ q ∈ ex, q.before #[] U = true) (hex : ∀ q ∈ ex, mj_vmw q) (hd : decode cc pc = .ok (.invokespecial idx, 3)) (hcw : mj_cwI M idx y ws rm na) (hk0 : k + rm.cells ≤ M.2.2.2.1.cells ∧ n + rm.slots ≤ M.2.2.2.1.slots) (hM : MCE l y ws rm ex true (.ref o :: as) w none w1) (hn : as.length = na) (hst : st = as.reverse ++ .ref o :: rest) (hcat : Nat.ble (rest.map fun v => v.category).sum 8 = true) (hlo : mj_losb w.length L rest = true) (kk : GT p l e s m args below meth c Q D A ad0 N M (pc + 3) L rest w1 (k + rm.cells) (n + rm.slots)) : GT p l e s m args below meth c Q D A ad0 N M pc L st w k n := by
  intro ad cy H locs ls r P S hl
  obtain ⟨bytes, maxL, tl, hg, hws, hii, hnm, hdd, hR⟩ := hcw
  subst hst
  refine mj_after (b1 := true) (v := none) (va_runI (As := as.map (mj_v ad)) (rest := rest.map (mj_v ad)) (b := ad o) ⟨F.1, F.2.1, F.2.2.1, F.2.2.2.1, mj_hts F⟩ (hM r.2.2.2 D ad cy H.size) (cwI na (mj_hts F) hg hws rfl rfl (mj_hts F _ hii.1) (mj_hts F _ hii.2.1) (mj_hts F _ hii.2.2) hnm hdd hR) ⟨mj_blindE hex, mj_preE F hE P S⟩ rfl (by rw [List.length_map]; exact hn) hl.2.1 (by simp [mj_v]) (lv_room (by rw [mj_cats]; exact Nat.le_of_ble_eq_true hcat)) hd hk0) P S (mj_hA F) (fun ad1 cy1 H1 locs1 hrel hP1 hS1 => ?_)
  show W p l e M.2.2.2.1 s m args below meth c H1 locs1 (k + rm.cells) (n + rm.slots) Q (F0 m (pc + 3) ls (rest.map (mj_v ad)))
  rw [← mj_vs_lo hrel.2.1 (mj_los2 hlo)]
  exact kk ad1 cy1 H1 locs1 ls (r.next hrel (fun q => by cases q)) hP1 hS1 (hl.re hrel.2.1 hlo)
theorem T_callSi {x : Int32} (F : mj_F l cc M D A p s m args meth c) (hd : decode cc pc = .ok (.invokestatic idx, 3)) (hcw : mj_cwS M idx y ws rm na) (h0 : rm.cells = 0 ∧ rm.slots = 0) (hk0 : k ≤ M.2.2.2.1.cells ∧ n ≤ M.2.2.2.1.slots) (hM : MC l y ws rm false as w (some (.int x)) w1) (hn : as.length = na) (hst : st = as.reverse ++ rest) (hcat : Nat.ble (rest.map fun v => v.category).sum 8 = true) (kk : GT p l e s m args below meth c Q D A ad0 N M (pc + 3) L (.int x :: rest) w1 k n) : GT p l e s m args below meth c Q D A ad0 N M pc L st w k n := T_callS F hd hcw h0 hk0 hM hn hst (Nat.le_of_ble_eq_true hcat) kk
theorem T_callSv (F : mj_F l cc M D A p s m args meth c) (hd : decode cc pc = .ok (.invokestatic idx, 3)) (hcw : mj_cwS M idx y ws rm na) (h0 : rm.cells = 0 ∧ rm.slots = 0) (hk0 : k ≤ M.2.2.2.1.cells ∧ n ≤ M.2.2.2.1.slots) (hM : MC l y ws rm false as w none w1) (hn : as.length = na) (hst : st = as.reverse ++ rest) (hcat : Nat.ble (rest.map fun v => v.category).sum 8 = true) (kk : GT p l e s m args below meth c Q D A ad0 N M (pc + 3) L rest w1 k n) : GT p l e s m args below meth c Q D A ad0 N M pc L st w k n := T_callS F hd hcw h0 hk0 hM hn hst (Nat.le_of_ble_eq_true hcat) kk
/-- a method without a table that asks more words -/
theorem T_callSP {u : Value} {ex : List Cond} (F : mj_F l cc M D A p s m args meth c) (hE : ∀ U : State, s.WarmedH U.vm → ∀ q ∈ ex, q.before #[] U = true) (hex : ∀ q ∈ ex, mj_vmw q) (hd : decode cc pc = .ok (.invokestatic idx, 3)) (hcw : mj_cwS M idx y ws rm na) {kc ns : Nat} (h0 : rm.cells = kc ∧ rm.slots = ns) (hk0 : k + kc ≤ M.2.2.2.1.cells ∧ n + ns ≤ M.2.2.2.1.slots) (hM : MCE l y ws rm ex false as w (some u) w1) (hn : as.length = na) (hst : st = as.reverse ++ rest) (hcat : Nat.ble (rest.map fun v => v.category).sum 8 = true) (kk : GT p l e s m args below meth c Q D A ad0 N M (pc + 3) L (u :: rest) w1 (k + kc) (n + ns)) : GT p l e s m args below meth c Q D A ad0 N M pc L st w k n := by
  intro ad cy H locs ls r P S hl
  obtain ⟨bytes, maxL, ret, tl, hg, hws, hdd, hR⟩ := hcw
  subst hst
  obtain ⟨rfl, rfl⟩ := h0
  refine mj_after (va_runS (As := as.map (mj_v ad)) (rest := rest.map (mj_v ad)) ⟨F.1, F.2.1, F.2.2.1, F.2.2.2.1, mj_hts F⟩ (hM r.2.2.2 D ad cy H.size) (va_cwS na (mj_hts F) hg hws rfl rfl hdd hR) ⟨mj_blindE hex, mj_preE F hE P S⟩ rfl (by rw [List.length_map]; exact hn) hl.2.1 (by simp) (lv_room (by rw [mj_cats]; exact Nat.le_of_ble_eq_true hcat)) hd hk0) P S (mj_hA F) (fun ad1 cy1 H1 locs1 hrel hP1 hS1 => ?_)
  have ea : ad1 = ad := hrel.1 rfl
  subst ea
  rw [mj_tl]
  exact kk ad1 cy1 H1 locs1 ls (r.next hrel (fun _ => rfl)) hP1 hS1 hl
theorem T_callSW0 {x : Int32} {hh : List (Nat × Nat × Nat × Nat)} {ex : List Cond} (F : mj_F l cc M D A p s m args meth c) (hE : ∀ U : State, s.WarmedH U.vm → ∀ q ∈ ex, q.before #[] U = true) (hex : ∀ q ∈ ex, mj_vmw q) (hd : decode cc pc = .ok (.invokestatic idx, 3)) (hcw : mj_cwSW M idx y hh ws rm na) (h0 : rm.cells = 0 ∧ rm.slots = 0) (hk0 : k ≤ M.2.2.2.1.cells ∧ n ≤ M.2.2.2.1.slots) (hM : MCE l y ws rm ex false as w (some (.int x)) w1) (hn : as.length = na) (hst : st = as.reverse ++ rest) (hcat : Nat.ble (rest.map fun v => v.category).sum 8 = true) (kk : GT p l e s m args below meth c Q D A ad0 N M (pc + 3) L (.int x :: rest) w1 k n) : GT p l e s m args below meth c Q D A ad0 N M pc L st w k n := T_callSE F hE hex hd hcw (by rw [h0.1, h0.2]; exact hk0) hM hn hst hcat (by rw [h0.1, h0.2]; exact kk)
/-- what the locals hold from the i-th on is forgotten -/
def fgt (i : Nat) (L : mj_L) : mj_L := L.take i ++ List.replicate (L.length - i) none
theorem T_forget (i : Nat) {L' : mj_L} (hL : fgt i L = L') (kk : GT p l e s m args below meth c Q D A ad0 N M pc L' st w k n) : GT p l e s m args below meth c Q D A ad0 N M pc L st w k n := by
  intro ad cy H locs ls r P S hl
  refine kk ad cy H locs ls r P S ⟨?_, hl.2.1, hl.2.2.1, fun q hq => hl.2.2.2 q ?_⟩
  · rw [← hL, ← hl.1]
    simp only [fgt, List.length_append, List.length_take, List.length_replicate]
    omega
  · obtain ⟨j, x⟩ := q
    obtain ⟨v, hv, rfl⟩ := mj_lv_mem.mp hq
    refine mj_lv_mem.mpr ⟨v, ?_, rfl⟩
    rw [← hL, fgt, List.getElem?_append] at hv
    split at hv
    · rw [List.getElem?_take] at hv
      split at hv
      · exact hv
      · cases hv
    · rw [List.getElem?_replicate] at hv
      split at hv <;> cases hv
/-- fewer rooms are taken than are counted -/
theorem T_widen {k1 n1 : Nat} (hk : k ≤ k1) (hn : n ≤ n1) (kk : GT p l e s m args below meth c Q D A ad0 N M pc L st w k1 n1) : GT p l e s m args below meth c Q D A ad0 N M pc L st w k n := fun ad cy H locs ls r P S hl => W.widen hk hn (kk ad cy H locs ls r P S hl)
end MJT
/-! LAW: a number of the script, or one made of its place -/
abbrev rmL_cell : Room := { frames := 0, cells := 0, slots := 0, locals := 0 }
abbrev ML_cell : mj_M := (RL, 2, wsL_cell, rmL_cell, false, none)
def cv (xs : Nat → Int32) (Ls j : Nat) : Int32 := if j < Ls then xs j else 43541 * (nI j + 9) + 3037719
def mj_Ps (a Ls : Nat) (xs : Nat → Int32) (D : va_G) (ad : Nat → Nat) (cy : Nat → ClassId) (w : mj_W) (sz : Nat) (as : List Value) : Array Value → State → Prop := fun arr U => mj_Pc D ad cy w sz as arr U ∧ ad 4000 = a ∧ a < sz ∧ ¬ va_A (mj_w ad cy w) sz a ∧ va_X a Ls xs U U.heap
theorem mj_blindS {a Ls : Nat} {xs : Nat → Int32} {D : va_G} {ad : Nat → Nat} {cy : Nat → ClassId} {w : mj_W} {sz : Nat} {as : List Value} : FrameBlind (mj_Ps a Ls xs D ad cy w sz as) := by
  intro arr U g mk q
  exact ⟨mj_blind arr U g mk q.1, q.2.1, q.2.2.1, q.2.2.2.1, va_X.moved (u := U) (U := U.calling g mk arr) (Vm.Alike.refl U.vm) q.2.2.2.2⟩
theorem cell_met {l : Launch} {a Ls j sz : Nat} {xs : Nat → Int32} {D : va_G} {ad : Nat → Nat} {cy : Nat → ClassId} {w : mj_W} (hw4 : w.length ≤ 4000) (hLs : Ls ≤ 260) (hj : j < 1000) : Met l yL_cell wsL_cell rmL_cell (mj_Ps a Ls xs D ad cy w sz [.ref 4000, .int (nI j)]) (mj_Qc D ad cy w sz true (some (.int (cv xs Ls j))) w) rmL_cell.cells rmL_cell.slots (va_A (mj_w ad cy w) sz) := by
  refine mj_ofW (cc := cL_cell) (maxL := 2) (ret := some .int) (plainFor_of_name (by decide)) rfl ?_
  intro p e s m args below meth c s₁ B hml hv
  obtain ⟨⟨rfl, hsz, hP, hK, hD, hT, hX⟩, had, hasz, hna, hXs⟩ := hv
  have hts := atoms_spec (ws := wsL_cell) B.pre
  subst hsz
  rw [lg_entry_eq]
  have hl := lv_entry (([.ref 4000, .int (nI j)] : List Value).map (mj_v ad)) (n := 2) (Nat.le_of_ble_eq_true rfl)
  have F : mj_F l cL_cell ML_cell D (va_A (mj_w ad cy w) s.heap.size) p s m (([.ref 4000, .int (nI j)] : List Value).map (mj_v ad)).toArray meth c := ⟨B.exec, B.bytes, hml, findClass_of_methodNamed B.named, hts, hK, fun q h => Or.inr h, hX, (fun q => by cases q), (fun t q => by cases q)⟩
  have E : ∀ L : mj_L, GT p l e s m (([.ref 4000, .int (nI j)] : List Value).map (mj_v ad)).toArray below meth c (MQ below (mj_Qc D ad cy w s.heap.size true (some (.int (cv xs Ls j))) w) (([.ref 4000, .int (nI j)] : List Value).map (mj_v ad)).toArray s rmL_cell.cells rmL_cell.slots (va_A (mj_w ad cy w) s.heap.size)) D (va_A (mj_w ad cy w) s.heap.size) ad w.length ML_cell 22 L [.int (cv xs Ls j)] w 0 0 := by
    intro L ad1 cy1 H1 locs1 ls1 hrel hP1 hS1 hl1
    have post : ∀ t : State, t.heap = H1 → s.WarmedH t.vm → mj_Qc D ad cy w s.heap.size true (some (.int (cv xs Ls j))) w (([.ref 4000, .int (nI j)] : List Value).map (mj_v ad)).toArray s (.returned ((some (Value.int (cv xs Ls j))).map (mj_v ad1))) t := fun t ht hW => ⟨⟨ad1, cy1, hrel, rfl, by rw [ht]; exact hP1.1, hP1.2.1, hP1.2.2.moved hW.alike⟩, hS1.F ht⟩
    exact W.zret B.exec B.bytes B.returns rfl post hS1.2.2 dL_cell_22 B.notSynchronized
  have G : GT p l e s m (([.ref 4000, .int (nI j)] : List Value).map (mj_v ad)).toArray below meth c (MQ below (mj_Qc D ad cy w s.heap.size true (some (.int (cv xs Ls j))) w) (([.ref 4000, .int (nI j)] : List Value).map (mj_v ad)).toArray s rmL_cell.cells rmL_cell.slots (va_A (mj_w ad cy w) s.heap.size)) D (va_A (mj_w ad cy w) s.heap.size) ad w.length ML_cell 0 [some (.ref 4000), some (.int (nI j))] [] w 0 0 := by
    refine T_iload_n F dL_cell_0 rfl ?_
    refine T_aload_n F dL_cell_1 rfl ?_
    refine T_slen F hXs hasz hna had dL_cell_2 ?_
    refine T_icmp_geN F (a1 := j) (c1 := Ls) 12 dL_cell_3 (by decide) (by omega) (fun c3 => ?_) (fun c3 => ?_)
    · refine T_ldc F (v := 43541) dL_cell_12 (by decide +kernel) ?_
      refine T_iload_n F dL_cell_14 rfl ?_
      refine T_bipush F (v := 9) dL_cell_15 (by decide) ?_
      refine T_iadd F dL_cell_17 ?_
      refine T_imul F dL_cell_18 ?_
      refine T_ldc F (v := 3037719) dL_cell_19 (by decide +kernel) ?_
      refine T_iadd F dL_cell_21 ?_
      refine T_eqi F (y := cv xs Ls j) (by rw [cv, if_neg (Nat.not_lt.mpr c3)]) ?_
      exact E _
    · refine T_aload_n F dL_cell_6 rfl ?_
      refine T_iload_n F dL_cell_7 rfl ?_
      refine T_scr F hXs hasz hna had (j := j) ⟨c3, by omega⟩ dL_cell_8 ?_
      refine T_goto F 22 dL_cell_9 (by decide) ?_
      refine T_eqi F (y := cv xs Ls j) (by rw [cv, if_pos c3]) ?_
      exact E _
  refine G ad cy s.heap [] _ ⟨fun q => (by cases q), fun _ _ => rfl, Nat.le_refl _, hw4⟩ ⟨hP, hD.self, hT⟩ va_S.rf ⟨rfl, hl.1, hl.2.1, ?_⟩
  rintro ⟨i, x⟩ hq
  obtain ⟨u, hu, rfl⟩ := mj_lv_mem.mp hq
  match i, hu with
  | 0, hu => cases hu; exact hl.2.2 (0, mj_v ad (.ref 4000)) List.mem_cons_self
  | 1, hu => cases hu; exact hl.2.2 (1, mj_v ad (.int (nI j))) (List.mem_cons_of_mem _ List.mem_cons_self)
  | i + 2, hu => cases hu
section MJV
variable {p : Program} {l : Launch} {e : Env} {s : State} {m : MethodId} {args : Array Value} {below : List Frame} {meth : Method} {c : Code} {Q : State → Prop} {D : va_G} {A : Nat → Prop} {ad0 : Nat → Nat} {N : Nat} {cc : ByteArray} {M : mj_M} {pc : Nat} {L : mj_L} {rest : List Value} {w : mj_W} {k n idx : Nat}
theorem T_cell (F : mj_F l cc M D A p s m args meth c) {a Ls j : Nat} {xs : Nat → Int32} (hX : va_X a Ls xs s s.heap) (hbl : a < s.heap.size) (hbA : ¬ A a) (hb0 : ad0 4000 = a) (hLs : Ls ≤ 260) (hj : j < 1000) (hd : decode cc pc = .ok (.invokestatic idx, 3)) (hcw : mj_cwS M idx yL_cell wsL_cell rmL_cell 2) (hk0 : k ≤ M.2.2.2.1.cells ∧ n ≤ M.2.2.2.1.slots) (hcat : Nat.ble (rest.map fun v => v.category).sum 8 = true) (hlo : mj_losb w.length L rest = true) (kk : GT p l e s m args below meth c Q D A ad0 N M (pc + 3) L (.int (cv xs Ls j) :: rest) w k n) : GT p l e s m args below meth c Q D A ad0 N M pc L (.int (nI j) :: .ref 4000 :: rest) w k n := by
  intro ad cy H locs ls r P S hl
  obtain ⟨bytes, maxL, ret, tl, hg, hws, hdd, hR⟩ := hcw
  have ea : ad 4000 = a := (r.2.1 4000 (Or.inr (Nat.le_refl _))).trans hb0
  have hA1 := mj_free P S (mj_hA F)
  have hH : H[a]? = s.heap[a]? := S.2.1 a hbl hbA
  refine mj_after (b1 := true) (v := some (.int (cv xs Ls j))) (va_runS (As := ([.ref 4000, .int (nI j)] : List Value).map (mj_v ad)) (rest := rest.map (mj_v ad)) ⟨F.1, F.2.1, F.2.2.1, F.2.2.2.1, mj_hts F⟩ (cell_met (a := a) (Ls := Ls) (xs := xs) (j := j) r.2.2.2 hLs hj) (va_cwS 2 (mj_hts F) hg hws rfl rfl hdd hR) ⟨mj_blindS, fun U hU hW => ⟨mj_pre F P S U hU hW, ea, Nat.lt_of_lt_of_le hbl S.1, fun q => hbA (hA1 a q), by rw [hU]; exact (hX.kept hH).moved hW.alike⟩⟩ rfl rfl hl.2.1 (by simp [mj_v]) (lv_room (by rw [mj_cats]; exact Nat.le_of_ble_eq_true hcat)) hd hk0) P S (mj_hA F) (fun ad1 cy1 H1 locs1 hrel hP1 hS1 => ?_)
  show W p l e M.2.2.2.1 s m args below meth c H1 locs1 (k + 0) (n + 0) Q (F0 m (pc + 3) ls (.int (cv xs Ls j) :: rest.map (mj_v ad)))
  rw [← mj_vs_lo hrel.2.1 (mj_los2 hlo)]
  exact kk ad1 cy1 H1 locs1 ls (r.next hrel (fun q => by cases q)) hP1 hS1 (hl.re hrel.2.1 hlo)
end MJV

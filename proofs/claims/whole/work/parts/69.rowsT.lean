/-! LAW: rows over one run of the law, its start and its script known -/
def GT (p : Program) (l : Launch) (e : Env) (s : State) (m : MethodId) (args : Array Value) (below : List Frame) (meth : Method) (c : Code) (Q : State → Prop) (D : va_G) (A : Nat → Prop) (ad0 : Nat → Nat) (N : Nat) (M : mj_M) (pc : Nat) (L : mj_L) (st : List Value) (w : mj_W) (k n : Nat) : Prop :=
  ∀ (ad : Nat → Nat) (cy : Nat → ClassId) (H : Heap) (locs : List Loc) (ls : Array Slot), mj_rel true N ad0 ad w → mj_P D A ad cy w s H → va_S A s.heap H locs → mj_l ad ls M.2.1 L →
    W p l e M.2.2.2.1 s m args below meth c H locs k n Q (F0 m pc ls (st.map (mj_v ad)))
section MJT
variable {p : Program} {l : Launch} {e : Env} {s : State} {m : MethodId} {args : Array Value} {below : List Frame} {meth : Method} {c : Code} {Q : State → Prop} {D : va_G} {A : Nat → Prop} {ad0 : Nat → Nat} {N : Nat} {cc : ByteArray} {M : mj_M} {pc : Nat} {L : mj_L} {st rest : List Value} {w w1 w' : mj_W} {k n : Nat} {y : MethodName} {ws : List Cond} {rm : Room} {as : List Value} {v : Option Value} {idx na : Nat}
theorem T_iadd (F : mj_F l cc M D A p s m args meth c) {x y : Int32} (hd : decode cc pc = .ok (.iadd, 1)) (kk : GT p l e s m args below meth c Q D A ad0 N M (pc + 1) L (.int (x + y) :: st) w k n) : GT p l e s m args below meth c Q D A ad0 N M pc L (.int y :: .int x :: st) w k n := by
  intro ad cy H locs ls r P S hl
  exact lv_iadd F.1 F.2.1 hd (kk ad cy H locs ls r P S hl)
theorem T_isub (F : mj_F l cc M D A p s m args meth c) {x y : Int32} (hd : decode cc pc = .ok (.isub, 1)) (kk : GT p l e s m args below meth c Q D A ad0 N M (pc + 1) L (.int (x - y) :: st) w k n) : GT p l e s m args below meth c Q D A ad0 N M pc L (.int y :: .int x :: st) w k n := by
  intro ad cy H locs ls r P S hl
  exact lv_isub F.1 F.2.1 hd (kk ad cy H locs ls r P S hl)
theorem T_iand (F : mj_F l cc M D A p s m args meth c) {x y : Int32} (hd : decode cc pc = .ok (.iand, 1)) (kk : GT p l e s m args below meth c Q D A ad0 N M (pc + 1) L (.int (x &&& y) :: st) w k n) : GT p l e s m args below meth c Q D A ad0 N M pc L (.int y :: .int x :: st) w k n := by
  intro ad cy H locs ls r P S hl
  exact lv_iand F.1 F.2.1 hd (kk ad cy H locs ls r P S hl)
theorem T_i2l (F : mj_F l cc M D A p s m args meth c) {x : Int32} (hd : decode cc pc = .ok (.i2l, 1)) (kk : GT p l e s m args below meth c Q D A ad0 N M (pc + 1) L (.long x.toInt64 :: st) w k n) : GT p l e s m args below meth c Q D A ad0 N M pc L (.int x :: st) w k n := by
  intro ad cy H locs ls r P S hl
  exact lv_i2l F.1 F.2.1 hd rfl (kk ad cy H locs ls r P S hl)
theorem T_lcmp (F : mj_F l cc M D A p s m args meth c) {x y : Int64} (hd : decode cc pc = .ok (.lcmp, 1)) (kk : GT p l e s m args below meth c Q D A ad0 N M (pc + 1) L (.int (lg_cmp x y) :: st) w k n) : GT p l e s m args below meth c Q D A ad0 N M pc L (.long y :: .long x :: st) w k n := by
  intro ad cy H locs ls r P S hl
  exact W.lcmp F.1 F.2.1 hd (kk ad cy H locs ls r P S hl)
theorem T_iconst (F : mj_F l cc M D A p s m args meth c) {i : Int} {v : Int32} (hd : decode cc pc = .ok (.iconst i, 1)) (hv : Int32.ofInt i = v) (kk : GT p l e s m args below meth c Q D A ad0 N M (pc + 1) L (.int v :: st) w k n) : GT p l e s m args below meth c Q D A ad0 N M pc L st w k n := by
  intro ad cy H locs ls r P S hl
  exact lv_iconst F.1 F.2.1 hd hv (kk ad cy H locs ls r P S hl)
theorem T_bipush (F : mj_F l cc M D A p s m args meth c) {i : Int} {v : Int32} (hd : decode cc pc = .ok (.bipush i, 2)) (hv : (Int8.ofInt i).toInt32 = v) (kk : GT p l e s m args below meth c Q D A ad0 N M (pc + 2) L (.int v :: st) w k n) : GT p l e s m args below meth c Q D A ad0 N M pc L st w k n := by
  intro ad cy H locs ls r P S hl
  exact lv_bipush F.1 F.2.1 hd hv (kk ad cy H locs ls r P S hl)
theorem T_iload (F : mj_F l cc M D A p s m args meth c) {i : Nat} {x : Int32} (hd : decode cc pc = .ok (.iload i, 2)) (hi : L[i]? = some (some (.int x))) (kk : GT p l e s m args below meth c Q D A ad0 N M (pc + 2) L (.int x :: st) w k n) : GT p l e s m args below meth c Q D A ad0 N M pc L st w k n := by
  intro ad cy H locs ls r P S hl
  exact lv_iload F.1 F.2.1 hd (hl.get hi) (kk ad cy H locs ls r P S hl)
theorem T_aload_n (F : mj_F l cc M D A p s m args meth c) {i : Fin 4} {x : Nat} (hd : decode cc pc = .ok (.aload_n i, 1)) (hi : L[(i : Nat)]? = some (some (.ref x))) (kk : GT p l e s m args below meth c Q D A ad0 N M (pc + 1) L (.ref x :: st) w k n) : GT p l e s m args below meth c Q D A ad0 N M pc L st w k n := by
  intro ad cy H locs ls r P S hl
  exact lv_aload_n F.1 F.2.1 hd rfl (hl.get hi) (kk ad cy H locs ls r P S hl)
theorem T_istore (F : mj_F l cc M D A p s m args meth c) {i : Nat} {x : Int32} {L' : mj_L} (hd : decode cc pc = .ok (.istore i, 2)) (hi : Nat.ble (i + 1) L.length = true) (hL : mj_st L i (.int x) = L') (kk : GT p l e s m args below meth c Q D A ad0 N M (pc + 2) L' st w k n) : GT p l e s m args below meth c Q D A ad0 N M pc L (.int x :: st) w k n := by
  intro ad cy H locs ls r P S hl
  subst hL
  exact lv_istore F.1 F.2.1 hd hl.2 (by rw [← hl.1]; exact Nat.le_of_ble_eq_true hi) rfl (fun ls' hl' => kk ad cy H locs ls' r P S (mj_set1 hl.1 hl' rfl))
theorem T_astore_n (F : mj_F l cc M D A p s m args meth c) {i : Fin 4} {x : Nat} {L' : mj_L} (hd : decode cc pc = .ok (.astore_n i, 1)) (hi : Nat.ble ((i : Nat) + 1) L.length = true) (hL : mj_st L (i : Nat) (.ref x) = L') (kk : GT p l e s m args below meth c Q D A ad0 N M (pc + 1) L' st w k n) : GT p l e s m args below meth c Q D A ad0 N M pc L (.ref x :: st) w k n := by
  intro ad cy H locs ls r P S hl
  subst hL
  exact lv_astore_n F.1 F.2.1 hd rfl hl.2 (by rw [← hl.1]; exact Nat.le_of_ble_eq_true hi) rfl (fun ls' hl' => kk ad cy H locs ls' r P S (mj_set1 hl.1 hl' rfl))
theorem T_dstore (F : mj_F l cc M D A p s m args meth c) {i : Nat} {x : UInt64} {L' : mj_L} (hd : decode cc pc = .ok (.dstore i, 2)) (hi : Nat.ble (i + 2) L.length = true) (hL : mj_st2 L i (.double x) = L') (kk : GT p l e s m args below meth c Q D A ad0 N M (pc + 2) L' st w k n) : GT p l e s m args below meth c Q D A ad0 N M pc L (.double x :: st) w k n := by
  intro ad cy H locs ls r P S hl
  subst hL
  exact lv_dstore F.1 F.2.1 hd hl.2 (by rw [← hl.1]; exact Nat.le_of_ble_eq_true hi) rfl (fun ls' hl' => kk ad cy H locs ls' r P S (mj_set2 hl.1 hl' rfl))
theorem T_dload (F : mj_F l cc M D A p s m args meth c) {i : Nat} {x : UInt64} (hd : decode cc pc = .ok (.dload i, 2)) (hi : L[i]? = some (some (.double x))) (kk : GT p l e s m args below meth c Q D A ad0 N M (pc + 2) L (.double x :: st) w k n) : GT p l e s m args below meth c Q D A ad0 N M pc L st w k n := by
  intro ad cy H locs ls r P S hl
  exact lv_dload F.1 F.2.1 hd (hl.get hi) (kk ad cy H locs ls r P S hl)
theorem T_dcmp (F : mj_F l cc M D A p s m args meth c) {x y : UInt64} {op : CmpOp} (hd : decode cc pc = .ok (.dcmp op, 1)) (kk : GT p l e s m args below meth c Q D A ad0 N M (pc + 1) L (.int (Op.cmpValue (FP.dcmp x y) op) :: st) w k n) : GT p l e s m args below meth c Q D A ad0 N M pc L (.double y :: .double x :: st) w k n := by
  intro ad cy H locs ls r P S hl
  exact lv_dcmp F.1 F.2.1 hd (kk ad cy H locs ls r P S hl)
theorem T_iinc (F : mj_F l cc M D A p s m args meth c) {i : Nat} {d : Int} {x v : Int32} {L' : mj_L} (hd : decode cc pc = .ok (.iinc i d, 3)) (hi : L[i]? = some (some (.int x))) (hv : x + Int32.ofInt d = v) (hL : mj_st L i (.int v) = L') (kk : GT p l e s m args below meth c Q D A ad0 N M (pc + 3) L' st w k n) : GT p l e s m args below meth c Q D A ad0 N M pc L st w k n := by
  intro ad cy H locs ls r P S hl
  subst hL
  obtain ⟨z, hz⟩ := List.getElem?_of_mem (mj_lv_mem.mpr ⟨Value.int x, hi, rfl⟩ : (i, Value.int x) ∈ mj_lv ad L)
  exact lv_iinc (k := z) F.1 F.2.1 hd hl.2 hz hv (by rw [← hl.1]; exact (List.getElem?_eq_some_iff.mp hi).1) rfl (fun ls' hl' => kk ad cy H locs ls' r P S (mj_set1 hl.1 hl' rfl))
theorem T_dup (F : mj_F l cc M D A p s m args meth c) {v : Value} (hd : decode cc pc = .ok (.dup, 1)) (hv : v.category = 1) (kk : GT p l e s m args below meth c Q D A ad0 N M (pc + 1) L (v :: v :: st) w k n) : GT p l e s m args below meth c Q D A ad0 N M pc L (v :: st) w k n := by
  intro ad cy H locs ls r P S hl
  exact lv_dup F.1 F.2.1 hd ((mj_cat ad v).trans hv) (kk ad cy H locs ls r P S hl)
theorem T_icmp_eq (F : mj_F l cc M D A p s m args meth c) {x y : Int32} {off : Int} (tgt : Nat) (hd : decode cc pc = .ok (.if_icmp .eq off, 3)) (ht : (pc : Int) + off = (tgt : Int)) (kt : x = y → GT p l e s m args below meth c Q D A ad0 N M tgt L st w k n) (kf : ¬ x = y → GT p l e s m args below meth c Q D A ad0 N M (pc + 3) L st w k n) : GT p l e s m args below meth c Q D A ad0 N M pc L (.int y :: .int x :: st) w k n := by
  intro ad cy H locs ls r P S hl
  exact lv_icmp_eq F.1 F.2.1 hd ht (fun q => kt q ad cy H locs ls r P S hl) (fun q => kf q ad cy H locs ls r P S hl)
theorem T_icmp_gt (F : mj_F l cc M D A p s m args meth c) {x y : Int32} {off : Int} (tgt : Nat) (hd : decode cc pc = .ok (.if_icmp .gt off, 3)) (ht : (pc : Int) + off = (tgt : Int)) (kt : y < x → GT p l e s m args below meth c Q D A ad0 N M tgt L st w k n) (kf : ¬ y < x → GT p l e s m args below meth c Q D A ad0 N M (pc + 3) L st w k n) : GT p l e s m args below meth c Q D A ad0 N M pc L (.int y :: .int x :: st) w k n := by
  intro ad cy H locs ls r P S hl
  exact lv_icmp_gt F.1 F.2.1 hd ht (fun q => kt q ad cy H locs ls r P S hl) (fun q => kf q ad cy H locs ls r P S hl)
theorem T_if_eq (F : mj_F l cc M D A p s m args meth c) {x : Int32} {off : Int} (tgt : Nat) (hd : decode cc pc = .ok (.ifCond .eq off, 3)) (ht : (pc : Int) + off = (tgt : Int)) (kt : x = 0 → GT p l e s m args below meth c Q D A ad0 N M tgt L st w k n) (kf : ¬ x = 0 → GT p l e s m args below meth c Q D A ad0 N M (pc + 3) L st w k n) : GT p l e s m args below meth c Q D A ad0 N M pc L (.int x :: st) w k n := by
  intro ad cy H locs ls r P S hl
  exact lv_if_eq F.1 F.2.1 hd ht (fun q => kt q ad cy H locs ls r P S hl) (fun q => kf q ad cy H locs ls r P S hl)
theorem T_if_ne (F : mj_F l cc M D A p s m args meth c) {x : Int32} {off : Int} (tgt : Nat) (hd : decode cc pc = .ok (.ifCond .ne off, 3)) (ht : (pc : Int) + off = (tgt : Int)) (kt : ¬ x = 0 → GT p l e s m args below meth c Q D A ad0 N M tgt L st w k n) (kf : x = 0 → GT p l e s m args below meth c Q D A ad0 N M (pc + 3) L st w k n) : GT p l e s m args below meth c Q D A ad0 N M pc L (.int x :: st) w k n := by
  intro ad cy H locs ls r P S hl
  exact lv_if_ne F.1 F.2.1 hd ht (fun q => kt q ad cy H locs ls r P S hl) (fun q => kf q ad cy H locs ls r P S hl)
theorem T_goto (F : mj_F l cc M D A p s m args meth c) {off : Int} (tgt : Nat) (hd : decode cc pc = .ok (.goto off, 3)) (ht : (pc : Int) + off = (tgt : Int)) (kk : GT p l e s m args below meth c Q D A ad0 N M tgt L st w k n) : GT p l e s m args below meth c Q D A ad0 N M pc L st w k n := by
  intro ad cy H locs ls r P S hl
  exact lv_goto F.1 F.2.1 hd ht (kk ad cy H locs ls r P S hl)
theorem T_tabIn (F : mj_F l cc M D A p s m args meth c) {dflt lo hi : Int} {offs : Array Int} {len : Nat} {x : Int32} {off : Int} (tgt : Nat) (hd : decode cc pc = .ok (.tableswitch dflt lo hi offs, len)) (h1 : ¬ x.toInt < lo) (h2 : ¬ hi < x.toInt) (ho : offs[(x.toInt - lo).toNat]? = some off) (ht : (pc : Int) + off = (tgt : Int)) (kk : GT p l e s m args below meth c Q D A ad0 N M tgt L st w k n) : GT p l e s m args below meth c Q D A ad0 N M pc L (.int x :: st) w k n := by
  intro ad cy H locs ls r P S hl
  exact lv_tableIn F.1 F.2.1 hd h1 h2 ho ht (kk ad cy H locs ls r P S hl)
theorem T_tabOut (F : mj_F l cc M D A p s m args meth c) {dflt lo hi : Int} {offs : Array Int} {len : Nat} {x : Int32} (tgt : Nat) (hd : decode cc pc = .ok (.tableswitch dflt lo hi offs, len)) (h : x.toInt < lo ∨ hi < x.toInt) (ht : (pc : Int) + dflt = (tgt : Int)) (kk : GT p l e s m args below meth c Q D A ad0 N M tgt L st w k n) : GT p l e s m args below meth c Q D A ad0 N M pc L (.int x :: st) w k n := by
  intro ad cy H locs ls r P S hl
  exact lv_tableOut F.1 F.2.1 hd h ht (kk ad cy H locs ls r P S hl)
theorem T_eqi (F : mj_F l cc M D A p s m args meth c) {x y : Int32} (h : x = y) (kk : GT p l e s m args below meth c Q D A ad0 N M pc L (.int y :: st) w k n) : GT p l e s m args below meth c Q D A ad0 N M pc L (.int x :: st) w k n := by subst h; exact kk
theorem T_iaddN (F : mj_F l cc M D A p s m args meth c) {a1 c1 s1 : Nat} (hd : decode cc pc = .ok (.iadd, 1)) (hs : a1 + c1 = s1) (kk : GT p l e s m args below meth c Q D A ad0 N M (pc + 1) L (.int (nI s1) :: st) w k n) : GT p l e s m args below meth c Q D A ad0 N M pc L (.int (nI c1) :: .int (nI a1) :: st) w k n := T_iadd F hd (T_eqi F (by rw [nI_add, hs]) kk)
theorem T_lald (F : mj_F l cc M D A p s m args meth c) {o nn : Nat} {f : Nat → Int64} {i : Int32} (hd : decode cc pc = .ok (.laload, 1)) (hw : w[o]? = some (.inl (.long, (nn, .inr (.inl f))))) (hi : vp_in i nn) (kk : GT p l e s m args below meth c Q D A ad0 N M (pc + 1) L (.long (f i.toNatClampNeg) :: st) w k n) : GT p l e s m args below meth c Q D A ad0 N M pc L (.int i :: .ref o :: st) w k n := by
  intro ad cy H locs ls r P S hl
  exact va_lald F.1 F.2.1 (mj_K1 (mj_hK F) (P.2.2 o _ hw)) P.1 o 0 (mj_w_get hw) rfl hi hd (kk ad cy H locs ls r P S hl)
theorem T_callV (F : mj_F l cc M D A p s m args meth c) {C : String} {T : u_T} {N1 ci o : Nat} {fs : List Value} (hd : decode cc pc = .ok (.invokevirtual idx, 3)) (hcw : mj_cwV M idx C y ws rm na) (h0 : rm.cells = 0 ∧ rm.slots = 0) (hk0 : k ≤ M.2.2.2.1.cells ∧ n ≤ M.2.2.2.1.slots) (hM : MC l y ws rm false (.ref o :: as) w v w1) (hn : as.length = na) (hcl : vwCl[ci]? = some (C, T, N1)) (hw : w[o]? = some (.inr (ci, fs))) (hst : st = as.reverse ++ .ref o :: rest) (hcat : (rest.map fun v => v.category).sum ≤ 8) (kk : GT p l e s m args below meth c Q D A ad0 N M (pc + 3) L (v.toList ++ rest) w1 k n) : GT p l e s m args below meth c Q D A ad0 N M pc L st w k n := by
  intro ad cy H locs ls r P S hl
  obtain ⟨bytes, maxL, ret, tl, hg, hws, hdd, hR⟩ := hcw
  subst hst
  refine mj_after (va_runV (As := as.map (mj_v ad)) (rest := rest.map (mj_v ad)) (b := ad o) ⟨F.1, F.2.1, F.2.2.1, F.2.2.2.1, mj_hts F⟩ (hM r.2.2.2 D ad cy H.size) (cwV na (mj_hts F) hg hws rfl rfl hdd hR) ⟨mj_blind, va_recv (mj_hK F) P.1 hcl (mj_w_get hw), mj_pre F P S⟩ rfl (by rw [List.length_map]; exact hn) hl.2.1 (by simp [mj_v]) (lv_room (by rw [mj_cats]; exact hcat)) hd (by rw [h0.1, h0.2]; exact hk0)) P S (mj_hA F) (fun ad1 cy1 H1 locs1 hrel hP1 hS1 => ?_)
  have ea : ad1 = ad := hrel.1 rfl
  subst ea
  rw [mj_tl, h0.1, h0.2]
  exact kk ad1 cy1 H1 locs1 ls (r.next hrel (fun _ => rfl)) hP1 hS1 hl
theorem T_new (F : mj_F l cc M D A p s m args meth c) {ci N1 : Nat} {C : String} {T : u_T} {fs : List Value} {ty : Nat → FieldType} (hd : decode cc pc = .ok (.new idx, 3)) (hcl : vwCl[ci]? = some (C, T, N1)) (hin : ∀ x ∈ u_ws C T N1, x ∈ M.2.2.1) (hty : ∀ k, k < N1 → parseFieldDescriptor (T k).2.2.1 = some (ty k)) (hws : Cond.classLink M.1 idx C ∈ M.2.2.1 ∧ Cond.instantiable C N1 ∈ M.2.2.1 ∧ Cond.initialized C ∈ M.2.2.1) (hfs : ∀ j, j < N1 → defaultValue (ty j) = vp_V fs j) (href : fs.all mj_nr = true) (hw : mj_wfb w.length w = true) (hl4 : w.length < 4000) (hlo : mj_losb w.length L st = true) (hk : k + 1 ≤ M.2.2.2.1.cells ∧ n + N1 ≤ M.2.2.2.1.slots) (kk : GT p l e s m args below meth c Q D A ad0 N M (pc + 3) L (.ref w.length :: st) (w ++ [.inr (ci, fs)]) (k + 1) (n + N1)) : GT p l e s m args below meth c Q D A ad0 N M pc L st w k n := by
  intro ad cy H locs ls r P S hl
  refine va_new (D := D) (ci := ci) F.1 F.2.1 (mj_hts F) hin ty hty F.2.2.2.1 (mj_hts F _ hws.1) (mj_hts F _ hws.2.1) (mj_hts F _ hws.2.2) (mj_hK F) P.1 P.2.1 S (mj_hA F) hcl hfs hk.1 hk.2 hd (fun q H1 hP hD hS => ?_)
  have ha := mj_ag (ad := ad) (q := q) hl4
  have e1 : mj_w (mj_up ad w.length q) (mj_up cy w.length 0) (w ++ [.inr (ci, fs)]) = mj_w ad cy w ++ [(q, .inr (ci, fs))] := by
    rw [mj_w_app, mj_w_re hw ha (fun k hk => mj_up_n (by omega))]
    refine congrArg (fun z => mj_w ad cy w ++ [z]) ?_
    show (mj_up ad w.length q w.length, Sum.inr (ci, fs.map (mj_v (mj_up ad w.length q)))) = (q, Sum.inr (ci, fs))
    rw [mj_up_s]
    refine congrArg (fun z => (q, Sum.inr (ci, z))) ?_
    refine (List.map_congr_left (fun v hv => ?_)).trans (List.map_id fs)
    have h0 := List.all_eq_true.mp href v hv
    cases v with
    | ref k0 => cases h0
    | _ => rfl
  have kk' := kk (mj_up ad w.length q) (mj_up cy w.length 0) H1 locs ls (r.grow hl4) ⟨by rw [e1]; exact hP, by rw [e1]; exact hD, P.2.2.app (fun a h => by cases h)⟩ hS (hl.re ha hlo)
  have e2 : (Value.ref w.length :: st).map (mj_v (mj_up ad w.length q)) = .ref q :: st.map (mj_v ad) := by
    rw [List.map_cons, mj_vs_lo ha (mj_los2 hlo)]
    show Value.ref (mj_up ad w.length q w.length) :: _ = _
    rw [mj_up_s]
  rw [e2] at kk'
  exact kk'
theorem T_newa (F : mj_F l cc M D A p s m args meth c) {atype : ArrayType} {ty : FieldType} {x : Int32} {N1 : Nat} {a0 : vp_A} (hd : decode cc pc = .ok (.newarray atype, 2)) (hty : newarray.typeOf atype = ty) (harr : Cond.arrayClass (newarray.typeOf atype) ∈ M.2.2.1) (ha0 : ∀ cA : ClassId, vp_cell cA a0 = arrV cA N1 (fun _ => defaultValue ty)) (hx : ¬ x < 0 ∧ x.toNatClampNeg = N1) (hby : Nat.ble (N1 * componentBytes ty) 536870912 = true) (hw : mj_wfb w.length w = true) (hl4 : w.length < 4000) (hlo : mj_losb w.length L st = true) (hk : k + 1 ≤ M.2.2.2.1.cells ∧ n + N1 ≤ M.2.2.2.1.slots) (kk : GT p l e s m args below meth c Q D A ad0 N M (pc + 2) L (.ref w.length :: st) (w ++ [.inl (ty, a0)]) (k + 1) (n + N1)) : GT p l e s m args below meth c Q D A ad0 N M pc L (.int x :: st) w k n := by
  intro ad cy H locs ls r P S hl
  refine va_newa (D := D) (tys := []) (a0 := a0) F.1 F.2.1 (mj_hts F _ harr) hty (mj_hK F) P.1 P.2.1 S (mj_hA F) ha0 hx.1 hx.2 (Nat.le_of_ble_eq_true hby) hk.1 hk.2 hd (fun q cA H1 hK hP hD hS => ?_)
  have ha := mj_ag (ad := ad) (q := q) hl4
  have e1 : mj_w (mj_up ad w.length q) (mj_up cy w.length cA) (w ++ [.inl (ty, a0)]) = mj_w ad cy w ++ [(q, .inl (cA, a0))] := by
    rw [mj_w_app, mj_w_re hw ha (fun k hk => mj_up_n (by omega))]
    refine congrArg (fun z => mj_w ad cy w ++ [z]) ?_
    show (mj_up ad w.length q w.length, Sum.inl (mj_up cy w.length cA w.length, a0)) = (q, Sum.inl (cA, a0))
    rw [mj_up_s, mj_up_s]
  have hA := hK.2 0 (cA, ty) rfl
  have kk' := kk (mj_up ad w.length q) (mj_up cy w.length cA) H1 locs ls (r.grow hl4) ⟨by rw [e1]; exact hP, by rw [e1]; exact hD, P.2.2.app (fun a h => by cases h; exact hA)⟩ hS (hl.re ha hlo)
  have e2 : (Value.ref w.length :: st).map (mj_v (mj_up ad w.length q)) = .ref q :: st.map (mj_v ad) := by
    rw [List.map_cons, mj_vs_lo ha (mj_los2 hlo)]
    show Value.ref (mj_up ad w.length q w.length) :: _ = _
    rw [mj_up_s]
  rw [e2] at kk'
  exact kk'
theorem T_callI (F : mj_F l cc M D A p s m args meth c) {o : Nat} (hd : decode cc pc = .ok (.invokespecial idx, 3)) (hcw : mj_cwI M idx y ws rm na) (hk0 : k + rm.cells ≤ M.2.2.2.1.cells ∧ n + rm.slots ≤ M.2.2.2.1.slots) (hM : MC l y ws rm true (.ref o :: as) w none w1) (hn : as.length = na) (hst : st = as.reverse ++ .ref o :: rest) (hcat : Nat.ble (rest.map fun v => v.category).sum 8 = true) (hlo : mj_losb w.length L rest = true) (kk : GT p l e s m args below meth c Q D A ad0 N M (pc + 3) L rest w1 (k + rm.cells) (n + rm.slots)) : GT p l e s m args below meth c Q D A ad0 N M pc L st w k n := by
  intro ad cy H locs ls r P S hl
  obtain ⟨bytes, maxL, tl, hg, hws, hii, hnm, hdd, hR⟩ := hcw
  subst hst
  refine mj_after (b1 := true) (v := none) (va_runI (As := as.map (mj_v ad)) (rest := rest.map (mj_v ad)) (b := ad o) ⟨F.1, F.2.1, F.2.2.1, F.2.2.2.1, mj_hts F⟩ (hM r.2.2.2 D ad cy H.size) (cwI na (mj_hts F) hg hws rfl rfl (mj_hts F _ hii.1) (mj_hts F _ hii.2.1) (mj_hts F _ hii.2.2) hnm hdd hR) ⟨mj_blind, mj_pre F P S⟩ rfl (by rw [List.length_map]; exact hn) hl.2.1 (by simp [mj_v]) (lv_room (by rw [mj_cats]; exact Nat.le_of_ble_eq_true hcat)) hd hk0) P S (mj_hA F) (fun ad1 cy1 H1 locs1 hrel hP1 hS1 => ?_)
  show W p l e M.2.2.2.1 s m args below meth c H1 locs1 (k + rm.cells) (n + rm.slots) Q (F0 m (pc + 3) ls (rest.map (mj_v ad)))
  rw [← mj_vs_lo hrel.2.1 (mj_los2 hlo)]
  exact kk ad1 cy1 H1 locs1 ls (r.next hrel (fun q => by cases q)) hP1 hS1 (hl.re hrel.2.1 hlo)
theorem T_newK (F : mj_F l cc M D A p s m args meth c) (K : Nat) {ci N1 : Nat} {C : String} {T : u_T} {fs : List Value} {ty : Nat → FieldType} (hd : decode cc pc = .ok (.new idx, 3)) (hcl : vwCl[ci]? = some (C, T, N1)) (hin : ∀ x ∈ u_ws C T N1, x ∈ M.2.2.1) (hty : ∀ k, k < N1 → parseFieldDescriptor (T k).2.2.1 = some (ty k)) (hws : Cond.classLink M.1 idx C ∈ M.2.2.1 ∧ Cond.instantiable C N1 ∈ M.2.2.1 ∧ Cond.initialized C ∈ M.2.2.1) (hfs : ∀ j, j < N1 → defaultValue (ty j) = vp_V fs j) (href : fs.all mj_nr = true) (hK : w.length = K) (hw : mj_wfb K w = true) (hl4 : Nat.blt K 4000 = true) (hlo : mj_losb K L st = true) (hk : k + 1 ≤ M.2.2.2.1.cells ∧ n + N1 ≤ M.2.2.2.1.slots) (hw' : w ++ [.inr (ci, fs)] = w') (kk : GT p l e s m args below meth c Q D A ad0 N M (pc + 3) L (.ref K :: st) w' (k + 1) (n + N1)) : GT p l e s m args below meth c Q D A ad0 N M pc L st w k n := by
  subst hK; subst hw'
  exact T_new F hd hcl hin hty hws hfs href hw (Nat.le_of_ble_eq_true hl4) hlo hk kk
theorem T_newaK (F : mj_F l cc M D A p s m args meth c) (K : Nat) {atype : ArrayType} {ty : FieldType} {x : Int32} {N1 : Nat} {a0 : vp_A} (hd : decode cc pc = .ok (.newarray atype, 2)) (hty : newarray.typeOf atype = ty) (harr : Cond.arrayClass (newarray.typeOf atype) ∈ M.2.2.1) (ha0 : ∀ cA : ClassId, vp_cell cA a0 = arrV cA N1 (fun _ => defaultValue ty)) (hx : ¬ x < 0 ∧ x.toNatClampNeg = N1) (hby : Nat.ble (N1 * componentBytes ty) 536870912 = true) (hK : w.length = K) (hw : mj_wfb K w = true) (hl4 : K < 4000) (hlo : mj_losb K L st = true) (hk : k + 1 ≤ M.2.2.2.1.cells ∧ n + N1 ≤ M.2.2.2.1.slots) (hw' : w ++ [.inl (ty, a0)] = w') (kk : GT p l e s m args below meth c Q D A ad0 N M (pc + 2) L (.ref K :: st) w' (k + 1) (n + N1)) : GT p l e s m args below meth c Q D A ad0 N M pc L (.int x :: st) w k n := by
  subst hK; subst hw'
  exact T_newa F hd hty harr ha0 hx hby hw hl4 hlo hk kk
theorem T_lald0 (F : mj_F l cc M D A p s m args meth c) {o nn : Nat} {f : Nat → Int64} (hd : decode cc pc = .ok (.laload, 1)) (hw : w[o]? = some (.inl (.long, (nn, .inr (.inl f))))) (hn : 0 < nn ∧ nn < 2147483648) (kk : GT p l e s m args below meth c Q D A ad0 N M (pc + 1) L (.long (f 0) :: st) w k n) : GT p l e s m args below meth c Q D A ad0 N M pc L (.int 0 :: .ref o :: st) w k n := T_lald F hd hw (show vp_in (nI 0) nn from vp_in_nI hn.1 hn.2) kk
/-- the script: a number, its length -/
theorem T_scr (F : mj_F l cc M D A p s m args meth c) {a Ls j : Nat} {xs : Nat → Int32} (hX : va_X a Ls xs s s.heap) (hbl : a < s.heap.size) (hbA : ¬ A a) (hb0 : ad0 4000 = a) (hj : j < Ls ∧ Ls < 2147483648) (hd : decode cc pc = .ok (.iaload, 1)) (kk : GT p l e s m args below meth c Q D A ad0 N M (pc + 1) L (.int (xs j) :: st) w k n) : GT p l e s m args below meth c Q D A ad0 N M pc L (.int (nI j) :: .ref 4000 :: st) w k n := by
  intro ad cy H locs ls r P S hl
  have ea : ad 4000 = a := (r.2.1 4000 (Or.inr (Nat.le_refl _))).trans hb0
  have k1 := kk ad cy H locs ls r P S hl
  show W p l e M.2.2.2.1 s m args below meth c H locs k n Q (F0 m pc ls (.int (nI j) :: .ref (ad 4000) :: st.map (mj_v ad)))
  rw [ea]
  refine va_sld F.1 F.2.1 hX hbl hbA S (vp_in_nI hj.1 hj.2) hd ?_
  rw [nI_clamp (by omega)]
  exact k1
theorem T_slen (F : mj_F l cc M D A p s m args meth c) {a Ls : Nat} {xs : Nat → Int32} (hX : va_X a Ls xs s s.heap) (hbl : a < s.heap.size) (hbA : ¬ A a) (hb0 : ad0 4000 = a) (hd : decode cc pc = .ok (.arraylength, 1)) (kk : GT p l e s m args below meth c Q D A ad0 N M (pc + 1) L (.int (nI Ls) :: st) w k n) : GT p l e s m args below meth c Q D A ad0 N M pc L (.ref 4000 :: st) w k n := by
  intro ad cy H locs ls r P S hl
  have ea : ad 4000 = a := (r.2.1 4000 (Or.inr (Nat.le_refl _))).trans hb0
  have k1 := kk ad cy H locs ls r P S hl
  show W p l e M.2.2.2.1 s m args below meth c H locs k n Q (F0 m pc ls (.ref (ad 4000) :: st.map (mj_v ad)))
  rw [ea]
  exact va_slen F.1 F.2.1 hX hbl hbA S hd k1
def mj_cwSW (M : mj_M) (idx : Nat) (y : MethodName) (hh : List (Nat × Nat × Nat × Nat)) (ws : List Cond) (rm : Room) (na : Nat) : Prop := ∃ (bytes : ByteArray) (maxL : Nat) (ret : Option FieldType) (tl : List Cond), GoodIn M.2.2.1 (va_wsS M.1 idx y ws) ∧ ws = Cond.codeWith y bytes maxL ret hh :: tl ∧ (y.cls ≠ "java/lang/invoke/MethodHandle" ∧ y.cls ≠ "java/lang/invoke/VarHandle" ∧ (parseMethodDescriptor y.desc).map (fun d => d.parameters.length) = some na) ∧ (rm.frames + 1 ≤ M.2.2.2.1.frames ∧ 8 + (maxL + 11) + rm.locals ≤ M.2.2.2.1.locals)
theorem mj_preE {ex : List Cond} (F : mj_F l cc M D A p s m args meth c) (hE : ∀ U : State, s.WarmedH U.vm → ∀ q ∈ ex, q.before #[] U = true) {ad : Nat → Nat} {cy : Nat → ClassId} {H : Heap} {locs : List Loc} (P : mj_P D A ad cy w s H) (S : va_S A s.heap H locs) : ∀ U : State, U.heap = H → s.WarmedH U.vm → mj_Pe ex D ad cy w H.size as (as.map (mj_v ad)).toArray U := fun U hU hW => ⟨mj_pre F P S U hU hW, hE U hW⟩
/-- a helper is called -/
theorem T_callSE {hh : List (Nat × Nat × Nat × Nat)} {ex : List Cond} (F : mj_F l cc M D A p s m args meth c) (hE : ∀ U : State, s.WarmedH U.vm → ∀ q ∈ ex, q.before #[] U = true) (hex : ∀ q ∈ ex, mj_vmw q) (hd : decode cc pc = .ok (.invokestatic idx, 3)) (hcw : mj_cwSW M idx y hh ws rm na) (hk0 : k + rm.cells ≤ M.2.2.2.1.cells ∧ n + rm.slots ≤ M.2.2.2.1.slots) (hM : MCE l y ws rm ex false as w v w1) (hn : as.length = na) (hst : st = as.reverse ++ rest) (hcat : Nat.ble (rest.map fun v => v.category).sum 8 = true) (kk : GT p l e s m args below meth c Q D A ad0 N M (pc + 3) L (v.toList ++ rest) w1 (k + rm.cells) (n + rm.slots)) : GT p l e s m args below meth c Q D A ad0 N M pc L st w k n := by
  intro ad cy H locs ls r P S hl
  obtain ⟨bytes, maxL, ret, tl, hg, hws, hdd, hR⟩ := hcw
  subst hst
  refine mj_after (vx_runSW (As := as.map (mj_v ad)) (rest := rest.map (mj_v ad)) ⟨F.1, F.2.1, F.2.2.1, F.2.2.2.1, mj_hts F⟩ (hM r.2.2.2 D ad cy H.size) (vx_cwSW na (mj_hts F) hg hws rfl rfl hdd hR) ⟨mj_blindE hex, mj_preE F hE P S⟩ rfl (by rw [List.length_map]; exact hn) hl.2.1 (by simp) (lv_room (by rw [mj_cats]; exact Nat.le_of_ble_eq_true hcat)) hd hk0) P S (mj_hA F) (fun ad1 cy1 H1 locs1 hrel hP1 hS1 => ?_)
  have ea : ad1 = ad := hrel.1 rfl
  subst ea
  rw [mj_tl]
  exact kk ad1 cy1 H1 locs1 ls (r.next hrel (fun _ => rfl)) hP1 hS1 hl
theorem T_callSEi {x : Int32} {hh : List (Nat × Nat × Nat × Nat)} {ex : List Cond} (F : mj_F l cc M D A p s m args meth c) (hE : ∀ U : State, s.WarmedH U.vm → ∀ q ∈ ex, q.before #[] U = true) (hex : ∀ q ∈ ex, mj_vmw q) (hd : decode cc pc = .ok (.invokestatic idx, 3)) (hcw : mj_cwSW M idx y hh ws rm na) (hk0 : k + rm.cells ≤ M.2.2.2.1.cells ∧ n + rm.slots ≤ M.2.2.2.1.slots) (hM : MCE l y ws rm ex false as w (some (.int x)) w1) (hn : as.length = na) (hst : st = as.reverse ++ rest) (hcat : Nat.ble (rest.map fun v => v.category).sum 8 = true) (kk : GT p l e s m args below meth c Q D A ad0 N M (pc + 3) L (.int x :: rest) w1 (k + rm.cells) (n + rm.slots)) : GT p l e s m args below meth c Q D A ad0 N M pc L st w k n := T_callSE F hE hex hd hcw hk0 hM hn hst hcat kk
/-- a constructor that asks more words -/
theorem T_callIE {o : Nat} {ex : List Cond} (F : mj_F l cc M D A p s m args meth c) (hE : ∀ U : State, s.WarmedH U.vm → ∀ q ∈ ex, q.before #[] U = true) (hex : ∀ q ∈ ex, mj_vmw q) (hd : decode cc pc = .ok (.invokespecial idx, 3)) (hcw : mj_cwI M idx y ws rm na) (hk0 : k + rm.cells ≤ M.2.2.2.1.cells ∧ n + rm.slots ≤ M.2.2.2.1.slots) (hM : MCE l y ws rm ex true (.ref o :: as) w none w1) (hn : as.length = na) (hst : st = as.reverse ++ .ref o :: rest) (hcat : Nat.ble (rest.map fun v => v.category).sum 8 = true) (hlo : mj_losb w.length L rest = true) (kk : GT p l e s m args below meth c Q D A ad0 N M (pc + 3) L rest w1 (k + rm.cells) (n + rm.slots)) : GT p l e s m args below meth c Q D A ad0 N M pc L st w k n := by
  intro ad cy H locs ls r P S hl
  obtain ⟨bytes, maxL, tl, hg, hws, hii, hnm, hdd, hR⟩ := hcw
  subst hst
  refine mj_after (b1 := true) (v := none) (va_runI (As := as.map (mj_v ad)) (rest := rest.map (mj_v ad)) (b := ad o) ⟨F.1, F.2.1, F.2.2.1, F.2.2.2.1, mj_hts F⟩ (hM r.2.2.2 D ad cy H.size) (cwI na (mj_hts F) hg hws rfl rfl (mj_hts F _ hii.1) (mj_hts F _ hii.2.1) (mj_hts F _ hii.2.2) hnm hdd hR) ⟨mj_blindE hex, mj_preE F hE P S⟩ rfl (by rw [List.length_map]; exact hn) hl.2.1 (by simp [mj_v]) (lv_room (by rw [mj_cats]; exact Nat.le_of_ble_eq_true hcat)) hd hk0) P S (mj_hA F) (fun ad1 cy1 H1 locs1 hrel hP1 hS1 => ?_)
  show W p l e M.2.2.2.1 s m args below meth c H1 locs1 (k + rm.cells) (n + rm.slots) Q (F0 m (pc + 3) ls (rest.map (mj_v ad)))
  rw [← mj_vs_lo hrel.2.1 (mj_los2 hlo)]
  exact kk ad1 cy1 H1 locs1 ls (r.next hrel (fun q => by cases q)) hP1 hS1 (hl.re hrel.2.1 hlo)
/-- a method of an object is called: its answer is v -/
theorem T_callM {u : Value} {C : String} {T : u_T} {N1 ci o : Nat} {fs : List Value} (F : mj_F l cc M D A p s m args meth c) (hd : decode cc pc = .ok (.invokevirtual idx, 3)) (hcw : mj_cwV M idx C y ws rm na) (h0 : rm.cells = 0 ∧ rm.slots = 0) (hk0 : k ≤ M.2.2.2.1.cells ∧ n ≤ M.2.2.2.1.slots) (hM : MC l y ws rm false (.ref o :: as) w (some u) w1) (hn : as.length = na) (hcl : vwCl[ci]? = some (C, T, N1)) (hw : w[o]? = some (.inr (ci, fs))) (hst : st = as.reverse ++ .ref o :: rest) (hcat : Nat.ble (rest.map fun v => v.category).sum 8 = true) (kk : GT p l e s m args below meth c Q D A ad0 N M (pc + 3) L (u :: rest) w1 k n) : GT p l e s m args below meth c Q D A ad0 N M pc L st w k n := T_callV F hd hcw h0 hk0 hM hn hcl hw hst (Nat.le_of_ble_eq_true hcat) kk
/-- fewer rooms are taken than are counted -/
theorem T_widen {k1 n1 : Nat} (hk : k ≤ k1) (hn : n ≤ n1) (kk : GT p l e s m args below meth c Q D A ad0 N M pc L st w k1 n1) : GT p l e s m args below meth c Q D A ad0 N M pc L st w k n := fun ad cy H locs ls r P S hl => W.widen hk hn (kk ad cy H locs ls r P S hl)
end MJT

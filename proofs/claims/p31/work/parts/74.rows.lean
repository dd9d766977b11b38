/-! HELPERS of the law: a call, and what it throws told by a number -/
abbrev xIO : String := "java/lang/IndexOutOfBoundsException"
abbrev xIA : String := "java/lang/IllegalArgumentException"
abbrev xIS : String := "java/lang/IllegalStateException"
abbrev ctN : List Cond := [.castable xIO xIO, .castable xIA xIA, .castable xIS xIS, .not (.castable xIA xIO), .not (.castable xIS xIO), .not (.castable xIS xIA)]
theorem ctN_vm : ∀ q ∈ ctN, mj_vmw q := List.forall_mem_cons.mpr ⟨mj_vmw_t rfl, List.forall_mem_cons.mpr ⟨mj_vmw_t rfl, List.forall_mem_cons.mpr ⟨mj_vmw_t rfl, List.forall_mem_cons.mpr ⟨mj_vmw_n, List.forall_mem_cons.mpr ⟨mj_vmw_n, List.forall_mem_cons.mpr ⟨mj_vmw_n, fun _ h => absurd h List.not_mem_nil⟩⟩⟩⟩⟩⟩
def mj_fr (L : mj_L) (i : Nat) : Bool := (match L[i]? with
  | some none => true
  | _ => false) && (match i with
  | 0 => true
  | j + 1 => match L[j]? with
    | some (some u) => u.category != 2
    | _ => true)
theorem mj_keep {ad : Nat → Nat} {ls' : Array Slot} {nl i : Nat} {L : mj_L} {v : Value} (hL : L.length = nl) (h : lv_has ls' nl ((i, v) :: (mj_lv ad L).filter (fun q => !(q.1 == i) && !(q.1 + 1 == i && q.2.category == 2)))) (hf : mj_fr L i = true) : mj_l ad ls' nl L := by
  obtain ⟨h1, h2⟩ := Bool.and_eq_true_iff.mp hf
  refine ⟨hL, h.1, h.2.1, ?_⟩
  rintro ⟨j, x⟩ hq
  refine h.2.2 (j, x) (List.mem_cons_of_mem _ (List.mem_filter.mpr ⟨hq, ?_⟩))
  obtain ⟨u, hu, rfl⟩ := mj_lv_mem.mp hq
  have e1 : (j == i) = false := by
    rw [beq_eq_false_iff_ne]
    intro e
    subst e
    rw [hu] at h1
    cases h1
  have e2 : (j + 1 == i && (mj_v ad u).category == 2) = false := by
    rw [mj_cat]
    by_cases hji : j + 1 = i
    · subst hji
      have h3 : (u.category != 2) = true := by
        have h4 := h2
        simp only [hu] at h4
        exact h4
      simp only [bne_iff_ne, ne_eq] at h3
      simp [h3]
    · simp [hji]
  simp only [e1, e2]
  rfl
section HC
variable {l : Launch} {cc : ByteArray} {M : mj_M} {b : Bool} {X : mj_R} {pc : Nat} {L : mj_L} {st rest : List Value} {w w1 : mj_W} {k n : Nat} {y : MethodName} {ws : List Cond} {rm : Room} {as : List Value} {idx na : Nat} {Ex : String}
theorem G_callVC {C : String} {T : u_T} {N1 ci o : Nat} {fs : List Value} (hd : decode cc pc = .ok (.invokevirtual idx, 3)) (hcw : mj_cwV M idx C y ws rm na) (hk0 : k + rm.cells ≤ M.2.2.2.1.cells ∧ n + rm.slots ≤ M.2.2.2.1.slots) (hM : MCX l y ws rm (.ref o :: as) w Ex w1) (hn : as.length = na) (hcl : vwCl[ci]? = some (C, T, N1)) (hw : w[o]? = some (.inr (ci, fs))) (hst : st = as.reverse ++ .ref o :: rest) (hcat : Nat.ble (rest.map fun v => v.category).sum 8 = true)
    {tb : List ExceptionTableEntry} (htb : M.2.2.2.2.2 = some tb) (pre : List ExceptionTableEntry) (x : ExceptionTableEntry) (suf : List ExceptionTableEntry) (hsplit : tb = pre ++ x :: suf) (hpass : ∀ z ∈ pre, ∃ nm : String, z.catchType ≠ 0 ∧ Cond.classLink M.1 z.catchType nm ∈ M.2.2.1 ∧ Cond.not (.castable Ex nm) ∈ M.2.2.1) (hx : covers x pc = true ∧ x.catchType ≠ 0) {nm : String} (hlink : Cond.classLink M.1 x.catchType nm ∈ M.2.2.1) (hcast : Cond.castable Ex nm ∈ M.2.2.1)
    {i q2 : Nat} (hda : (decode cc x.handlerPc = .ok (.astore i, 2) ∧ q2 = x.handlerPc + 2) ∨ (∃ j : Fin 4, decode cc x.handlerPc = .ok (.astore_n j, 1) ∧ (j : Nat) = i ∧ q2 = x.handlerPc + 1)) (hfr : mj_fr L i = true) (kk : GG l cc M b X q2 L [] w1 (k + rm.cells) (n + rm.slots)) : GG l cc M b X pc L st w k n := by
  intro p e s m args below meth c Q D A ad0 N F E ad cy H locs ls r P S hl
  obtain ⟨bytes, maxL, ret, tl, hg, hws, hdd, hR⟩ := hcw
  subst hst
  have hr : vx_Run p l e M.2.2.2.1 s m args below meth c H locs k n rm.cells rm.slots (F0 m pc ls ((as.reverse ++ .ref o :: rest).map (mj_v ad))) (rest.map (mj_v ad)) (fun _ _ _ => False) (mj_Xc D ad cy w H.size Ex w1) (va_A (mj_w ad cy w) H.size) := vx_runV (As := as.map (mj_v ad)) (rest := rest.map (mj_v ad)) (b := ad o) ⟨F.1, F.2.1, F.2.2.1, F.2.2.2.1, mj_hts F⟩ (hM r.2.2.2 D ad cy H.size) (cwV na (mj_hts F) hg hws rfl rfl hdd hR) ⟨mj_blind, va_recv (mj_hK F) P.1 hcl (mj_w_get hw), mj_pre F P S⟩ (g := F0 m pc ls ((as.reverse ++ .ref o :: rest).map (mj_v ad))) rfl (by rw [List.length_map]; exact hn) hl.2.1 (by simp [mj_v]) (lv_room (by rw [mj_cats]; exact Nat.le_of_ble_eq_true hcat)) hd hk0
  have htab : c.exceptionTable.toList = tb := F.2.2.2.2.2.2.2.2.2 tb htb
  have hil : i < L.length := by
    have h1 := (Bool.and_eq_true_iff.mp hfr).1
    cases h2 : L[i]? with
    | none => rw [h2] at h1; cases h1
    | some o => exact (List.getElem?_eq_some_iff.mp h2).1
  intro T0 hT X0
  have hA1 := mj_free P S (mj_hA F)
  rcases hr T0 hT X0 with ⟨v, st₀, t, T', L1, h0, X', hL, e1, e2, hF, st⟩ | ⟨q, st₀, t, T', L1, E', ce, h0, X', hL, e1, e2, ⟨rfl, ⟨ad1, cy1, hrel, hPp, hDd, hTt⟩, hz, hk'⟩, hce, hcv, hcl2, st⟩
  · exact hF.elim
  · rw [h0] at hz hk'
    have ea : ad1 = ad := hrel.1 rfl
    subst ea
    have hP1 : mj_P D A ad1 cy1 w1 s T'.heap := ⟨by rw [e1]; exact hPp, hDd.weaken (fun k0 q0 _ h => hA1 _ h), hTt.moved (by rw [← e2]; exact X'.warmed.alike.symm)⟩
    have hS1 : va_S A s.heap T'.heap (locs ++ L1) := ⟨Nat.le_trans S.1 (by rw [e1]; exact hz), fun q0 h1 h2 => by rw [e1, hk' q0 (Nat.lt_of_lt_of_le h1 S.1) (fun z => h2 (hA1 q0 z))]; exact S.2.1 q0 h1 h2, fun q0 hq => by
        rcases List.mem_append.mp hq with h | h
        · exact S.2.2 q0 h
        · exact hA1 _ (hL q0 h)⟩
    have go : ∀ ls' : Array Slot, lv_has ls' M.2.1 ((i, .ref q) :: (mj_lv ad1 L).filter (fun q => !(q.1 == i) && !(q.1 + 1 == i && q.2.category == 2))) → W p l e M.2.2.2.1 s m args below meth c T'.heap (locs ++ L1) (k + rm.cells) (n + rm.slots) Q (F0 m q2 ls' []) := fun ls' hl' => kk p e s m args below meth c Q D A ad0 N F E ad1 cy1 T'.heap (locs ++ L1) ls' (r.next hrel (fun _ => rfl)) hP1 hS1 (mj_keep hl.1 hl' hfr)
    have W1 : vx_W p l e M.2.2.2.1 s m args below meth c T'.heap (locs ++ L1) (k + rm.cells) (n + rm.slots) Q (F0 m pc ls (rest.map (mj_v ad1))) q := vx_catch F.2.2.2.1 pre x suf (htab.trans hsplit) (fun z hz => by
        obtain ⟨nm1, g1, g2, g3⟩ := hpass z hz
        exact Or.inr ⟨g1, nm1, mj_hts F _ g2, va_Nc.of (mj_hts F _ g3)⟩) hx.1 hx.2 (mj_hts F _ hlink) (mj_hts F _ hcast) (by rw [e1]; exact hce) hcv hcl2 (by
        rcases hda with ⟨d1, rfl⟩ | ⟨j, d1, d2, rfl⟩
        · exact lv_astore F.1 F.2.1 d1 hl.2 (by rw [← hl.1]; exact hil) rfl go
        · exact lv_astore_n F.1 F.2.1 d1 d2 hl.2 (by rw [← hl.1]; exact hil) rfl go)
    obtain ⟨t2, a1, b1⟩ := W1 T' rfl X'
    exact ⟨t2, st.trans a1, b1⟩
theorem mj_ofWH {y : MethodName} {ws ws' : List Cond} {rm : Room} {Pc : Array Value → State → Prop} {Qc : Array Value → State → Outcome → State → Prop} {mc ms : Nat} {free : Addr → Prop} {cc : ByteArray} {maxL : Nat} {ret : Option FieldType} {hh : List (Nat × Nat × Nat × Nat)}
    (hy : plainName y.cls = true) (hw : ws = Cond.codeWith y cc maxL ret hh :: ws')
    (body : ∀ p e s m args below meth c s₁, BodyLoose p l y (headSpec ws rm) cc maxL ret e s m args below meth c s₁ → c.maxLocals = maxL → c.exceptionTable.toList = tableOf hh → Pc args s →
      W p l e (headSpec ws rm).room s m args below meth c s.heap [] 0 0 (MQ below Qc args s mc ms free) (entryFrame m args maxL)) : Met l y ws rm Pc Qc mc ms free := by
  refine MetFree.of_bodyS (code := cc) (maxLocals := maxL) (ret := ret) hy ?_ ?_
  · intro args s m h hn
    obtain ⟨m9, meth, c, hn9, h1, h2, h3, h4, -, h5, h6, -⟩ := Cond.codeWith_spec (atoms_spec (ws := ws) h _ (by rw [hw]; exact List.mem_cons_self))
    cases hn.symm.trans hn9
    exact ⟨meth, c, h1, h2, h3, h4, h5, h6⟩
  · intro p e s m args below meth c s₁ B hml hP _
    have hh0 : s₁.heap = s.heap := by rw [B.state]; rfl
    have ht : c.exceptionTable.toList = tableOf hh := vx_table (x := y) (y := y) (bytes := cc) (maxL' := maxL) (ret' := ret) B (atoms_spec (ws := ws) B.pre _ (by rw [hw]; exact List.mem_cons_self))
    obtain ⟨t, a1, o, b1, b2, b3⟩ := body p e s m args below meth c s₁ B hml ht hP s₁ hh0 (Stand.of_body B)
    exact ⟨t, o, a1, b1, b2, ⟨b3.1, b3.2⟩⟩
theorem mj_MCEH {y : MethodName} {ws ws' ex : List Cond} {rm : Room} {as : List Value} {w w1 : mj_W} {x : Int32} {cc : ByteArray} {nl : Nat} {hh : List (Nat × Nat × Nat × Nat)} (hex : ∀ q ∈ ex, mj_vmw q) (hy : plainName y.cls = true) (hw : ws = Cond.codeWith y cc nl (some .int) hh :: ws') (hlen : (mj_sl as).length ≤ nl)
    (hG : GG l cc (y.cls, nl, ws ++ ex, rm, y.name == "<init>", some (tableOf hh)) false (.inl (some (.int x), w1)) 0 (mj_in as nl) [] w 0 0) : MCE l y ws rm ex false as w (some (.int x)) w1 := by
  intro hw4 D ad cy sz
  refine mj_ofWH (cc := cc) (maxL := nl) (ret := some .int) (hh := hh) hy hw ?_
  intro p e s m args below meth c s₁ B hml htb hv
  obtain ⟨⟨rfl, hsz, hP, hK, hD, hT, hX⟩, hE⟩ := hv
  have hts := atoms_spec (ws := ws) B.pre
  subst hsz
  rw [lg_entry_eq]
  have hlen' : (lg_sl (as.map (mj_v ad))).length ≤ nl := by rw [mj_sl_len]; exact hlen
  have hl := lv_entry (as.map (mj_v ad)) (n := nl) hlen'
  refine hG p e s m _ below meth c _ D (va_A (mj_w ad cy w) s.heap.size) ad w.length ⟨B.exec, B.bytes, hml, findClass_of_methodNamed B.named, fun q hq => (List.mem_append.mp hq).elim (hts q) (fun h => hex q h #[] _ s s rfl (hE q h)), hK, fun q h => Or.inr h, hX, fun q => ?_, fun t q => by cases q; exact htb⟩ ?_ ad cy s.heap [] _ ⟨fun _ => rfl, fun _ _ => rfl, Nat.le_refl _, hw4⟩ ⟨hP, hD.self, hT⟩ va_S.rf ⟨?_, hl.1, hl.2.1, ?_⟩
  · have q' : y.name = "<init>" := by simpa using q
    exact (name_of_methodNamed B.named B.method).1.trans q'
  · intro ad1 cy1 H1 locs1 ls1 pc1 k1 n1 hrel hP1 hS1 hk1 hn1 hret
    refine W.widen hk1 hn1 ?_
    have post : ∀ t : State, t.heap = H1 → s.WarmedH t.vm → mj_Qc D ad cy w s.heap.size false (some (.int x)) w1 (as.map (mj_v ad)).toArray s (.returned ((some (Value.int x)).map (mj_v ad1))) t := fun t ht hW => ⟨⟨ad1, cy1, hrel, rfl, by rw [ht]; exact hP1.1, hP1.2.1, hP1.2.2.moved hW.alike⟩, hS1.F ht⟩
    exact W.zret B.exec B.bytes B.returns rfl post hS1.2.2 hret B.notSynchronized
  · simp only [mj_in, List.length_append, List.length_replicate]; omega
  · rintro ⟨i, x⟩ hq
    obtain ⟨u, hu, rfl⟩ := mj_lv_mem.mp hq
    have h := mj_sl_mem ad _ as 0 i u hu
    rw [Nat.zero_add] at h
    exact hl.2.2 _ h
end HC
theorem ct_warm {args : Array Value} {s : State} (h : ∀ q ∈ ctN, q.before args s = true) : ∀ U : State, s.WarmedH U.vm → ∀ q ∈ ctN, q.before #[] U = true := by
  intro U hW
  refine List.forall_mem_cons.mpr ⟨?_, List.forall_mem_cons.mpr ⟨?_, List.forall_mem_cons.mpr ⟨?_, List.forall_mem_cons.mpr ⟨?_, List.forall_mem_cons.mpr ⟨?_, List.forall_mem_cons.mpr ⟨?_, fun _ h => absurd h List.not_mem_nil⟩⟩⟩⟩⟩⟩
  · exact va_Nw.warmC hW (va_Nw.of rfl (h (.castable xIO xIO) (by decide +kernel)))
  · exact va_Nw.warmC hW (va_Nw.of rfl (h (.castable xIA xIA) (by decide +kernel)))
  · exact va_Nw.warmC hW (va_Nw.of rfl (h (.castable xIS xIS) (by decide +kernel)))
  · exact mj_nc_word ((va_Nc.of (h (.not (.castable xIA xIO)) (by decide +kernel))).moved hW.alike)
  · exact mj_nc_word ((va_Nc.of (h (.not (.castable xIS xIO)) (by decide +kernel))).moved hW.alike)
  · exact mj_nc_word ((va_Nc.of (h (.not (.castable xIS xIA)) (by decide +kernel))).moved hW.alike)
def mj_cwSW (M : mj_M) (idx : Nat) (y : MethodName) (hh : List (Nat × Nat × Nat × Nat)) (ws : List Cond) (rm : Room) (na : Nat) : Prop := ∃ (bytes : ByteArray) (maxL : Nat) (ret : Option FieldType) (tl : List Cond), GoodIn M.2.2.1 (va_wsS M.1 idx y ws) ∧ ws = Cond.codeWith y bytes maxL ret hh :: tl ∧ (y.cls ≠ "java/lang/invoke/MethodHandle" ∧ y.cls ≠ "java/lang/invoke/VarHandle" ∧ (parseMethodDescriptor y.desc).map (fun d => d.parameters.length) = some na) ∧ (rm.frames + 1 ≤ M.2.2.2.1.frames ∧ 8 + (maxL + 11) + rm.locals ≤ M.2.2.2.1.locals)
section MJX
variable {l : Launch} {cc : ByteArray} {M : mj_M} {b : Bool} {X : mj_R} {pc : Nat} {L : mj_L} {st rest : List Value} {w w1 : mj_W} {k n : Nat} {y : MethodName} {ws : List Cond} {rm : Room} {as : List Value} {v : Option Value} {idx na : Nat}
theorem G_ldc {i : Nat} {v : Int32} (hd : decode cc pc = .ok (.ldc i, 2)) (hc : Cond.constant M.1 i v ∈ M.2.2.1) (kk : GG l cc M b X (pc + 2) L (.int v :: st) w k n) : GG l cc M b X pc L st w k n := by
  intro p e s m args below meth c Q D A ad0 N F E ad cy H locs ls r P S hl
  exact lv_ldc F.1 F.2.1 F.2.2.2.1 (F.2.2.2.2.1 _ hc) hd (kk p e s m args below meth c Q D A ad0 N F E ad cy H locs ls r P S hl)
theorem G_ishr {x y : Int32} (hd : decode cc pc = .ok (.ishr, 1)) (kk : GG l cc M b X (pc + 1) L (.int (x >>> (y &&& 31)) :: st) w k n) : GG l cc M b X pc L (.int y :: .int x :: st) w k n := by
  intro p e s m args below meth c Q D A ad0 N F E ad cy H locs ls r P S hl
  exact lv_ishr F.1 F.2.1 hd (kk p e s m args below meth c Q D A ad0 N F E ad cy H locs ls r P S hl)
/-- a helper with a table of its own is called -/
theorem G_callSW {hh : List (Nat × Nat × Nat × Nat)} (hc : ∀ q ∈ ctN, q ∈ M.2.2.1) (hd : decode cc pc = .ok (.invokestatic idx, 3)) (hcw : mj_cwSW M idx y hh ws rm na) (hk0 : k + rm.cells ≤ M.2.2.2.1.cells ∧ n + rm.slots ≤ M.2.2.2.1.slots) (hM : MCE l y ws rm ctN false as w v w1) (hn : as.length = na) (hst : st = as.reverse ++ rest) (hcat : Nat.ble (rest.map fun v => v.category).sum 8 = true) (kk : GG l cc M b X (pc + 3) L (v.toList ++ rest) w1 (k + rm.cells) (n + rm.slots)) : GG l cc M b X pc L st w k n := by
  intro p e s m args below meth c Q D A ad0 N F E ad cy H locs ls r P S hl
  obtain ⟨bytes, maxL, ret, tl, hg, hws, hdd, hR⟩ := hcw
  subst hst
  refine mj_after (vx_runSW (As := as.map (mj_v ad)) (rest := rest.map (mj_v ad)) ⟨F.1, F.2.1, F.2.2.1, F.2.2.2.1, mj_hts F⟩ (hM r.2.2.2 D ad cy H.size) (vx_cwSW na (mj_hts F) hg hws rfl rfl hdd hR) ⟨mj_blindE ctN_vm, fun U hU hW => ⟨mj_pre F P S U hU hW, ct_warm (fun q hq => mj_hts F q (hc q hq)) U hW⟩⟩ rfl (by rw [List.length_map]; exact hn) hl.2.1 (by simp) (lv_room (by rw [mj_cats]; exact Nat.le_of_ble_eq_true hcat)) hd hk0) P S (mj_hA F) (fun ad1 cy1 H1 locs1 hrel hP1 hS1 => ?_)
  have ea : ad1 = ad := hrel.1 rfl
  subst ea
  rw [mj_tl]
  exact kk p e s m args below meth c Q D A ad0 N F E ad1 cy1 H1 locs1 ls (r.next hrel (fun _ => rfl)) hP1 hS1 hl
/-- .. where it takes no room -/
theorem G_callSW0 {hh : List (Nat × Nat × Nat × Nat)} {x : Int32} (hc : ∀ q ∈ ctN, q ∈ M.2.2.1) (hd : decode cc pc = .ok (.invokestatic idx, 3)) (hcw : mj_cwSW M idx y hh ws rm na) (h0 : rm.cells = 0 ∧ rm.slots = 0) (hk0 : k ≤ M.2.2.2.1.cells ∧ n ≤ M.2.2.2.1.slots) (hM : MCE l y ws rm ctN false as w (some (.int x)) w1) (hn : as.length = na) (hst : st = as.reverse ++ rest) (hcat : Nat.ble (rest.map fun v => v.category).sum 8 = true) (kk : GG l cc M b X (pc + 3) L (.int x :: rest) w1 k n) : GG l cc M b X pc L st w k n := G_callSW hc hd hcw (by rw [h0.1, h0.2]; exact hk0) hM hn hst hcat (by rw [h0.1, h0.2]; exact kk)
/-- a method without a table that asks those words too -/
theorem G_callSP (hc : ∀ q ∈ ctN, q ∈ M.2.2.1) (hd : decode cc pc = .ok (.invokestatic idx, 3)) (hcw : mj_cwS M idx y ws rm na) (hk0 : k + rm.cells ≤ M.2.2.2.1.cells ∧ n + rm.slots ≤ M.2.2.2.1.slots) (hM : MCE l y ws rm ctN false as w v w1) (hn : as.length = na) (hst : st = as.reverse ++ rest) (hcat : Nat.ble (rest.map fun v => v.category).sum 8 = true) (kk : GG l cc M b X (pc + 3) L (v.toList ++ rest) w1 (k + rm.cells) (n + rm.slots)) : GG l cc M b X pc L st w k n := by
  intro p e s m args below meth c Q D A ad0 N F E ad cy H locs ls r P S hl
  obtain ⟨bytes, maxL, ret, tl, hg, hws, hdd, hR⟩ := hcw
  subst hst
  refine mj_after (va_runS (As := as.map (mj_v ad)) (rest := rest.map (mj_v ad)) ⟨F.1, F.2.1, F.2.2.1, F.2.2.2.1, mj_hts F⟩ (hM r.2.2.2 D ad cy H.size) (va_cwS na (mj_hts F) hg hws rfl rfl hdd hR) ⟨mj_blindE ctN_vm, fun U hU hW => ⟨mj_pre F P S U hU hW, ct_warm (fun q hq => mj_hts F q (hc q hq)) U hW⟩⟩ rfl (by rw [List.length_map]; exact hn) hl.2.1 (by simp) (lv_room (by rw [mj_cats]; exact Nat.le_of_ble_eq_true hcat)) hd hk0) P S (mj_hA F) (fun ad1 cy1 H1 locs1 hrel hP1 hS1 => ?_)
  have ea : ad1 = ad := hrel.1 rfl
  subst ea
  rw [mj_tl]
  exact kk p e s m args below meth c Q D A ad0 N F E ad1 cy1 H1 locs1 ls (r.next hrel (fun _ => rfl)) hP1 hS1 hl
theorem G_callSP0 {x : Int32} (hc : ∀ q ∈ ctN, q ∈ M.2.2.1) (hd : decode cc pc = .ok (.invokestatic idx, 3)) (hcw : mj_cwS M idx y ws rm na) (h0 : rm.cells = 0 ∧ rm.slots = 0) (hk0 : k ≤ M.2.2.2.1.cells ∧ n ≤ M.2.2.2.1.slots) (hM : MCE l y ws rm ctN false as w (some (.int x)) w1) (hn : as.length = na) (hst : st = as.reverse ++ rest) (hcat : Nat.ble (rest.map fun v => v.category).sum 8 = true) (kk : GG l cc M b X (pc + 3) L (.int x :: rest) w1 k n) : GG l cc M b X pc L st w k n := G_callSP hc hd hcw (by rw [h0.1, h0.2]; exact hk0) hM hn hst hcat (by rw [h0.1, h0.2]; exact kk)
end MJX
theorem X_i1 {x y : Int32} {w : mj_W} (h : x = y) : (Sum.inl (some (Value.int x), w) : mj_R) = .inl (some (.int y), w) := by rw [h]

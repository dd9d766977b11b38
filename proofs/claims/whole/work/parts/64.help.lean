/-! HELPERS of the law: a call, and what it throws told by a number -/
abbrev xIO : String := "java/lang/IndexOutOfBoundsException"
abbrev xIA : String := "java/lang/IllegalArgumentException"
abbrev xIS : String := "java/lang/IllegalStateException"
abbrev ctN : List Cond := [.castable xIO xIO, .castable xIA xIA, .castable xIS xIS, .not (.castable xIA xIO), .not (.castable xIS xIO), .not (.castable xIS xIA)]
theorem ctN_vm : ∀ q ∈ ctN, mj_vmw q := List.forall_mem_cons.mpr ⟨mj_vmw_t rfl, List.forall_mem_cons.mpr ⟨mj_vmw_t rfl, List.forall_mem_cons.mpr ⟨mj_vmw_t rfl, List.forall_mem_cons.mpr ⟨mj_vmw_n, List.forall_mem_cons.mpr ⟨mj_vmw_n, List.forall_mem_cons.mpr ⟨mj_vmw_n, fun _ h => absurd h List.not_mem_nil⟩⟩⟩⟩⟩⟩
def mj_fr (L : mj_L) (i : Nat) : Bool := (match L[i]? with
  | some none => true
  | _ => false) && (match i with
  | 0 => true
  | j + 1 => match L[j]? with
    | some (some u) => u.category != 2
    | _ => true)
theorem mj_keep {ad : Nat → Nat} {ls' : Array Slot} {nl i : Nat} {L : mj_L} {v : Value} (hL : L.length = nl) (h : lv_has ls' nl ((i, v) :: (mj_lv ad L).filter (fun q => !(q.1 == i) && !(q.1 + 1 == i && q.2.category == 2)))) (hf : mj_fr L i = true) : mj_l ad ls' nl L := by
  obtain ⟨h1, h2⟩ := Bool.and_eq_true_iff.mp hf
  refine ⟨hL, h.1, h.2.1, ?_⟩
  rintro ⟨j, x⟩ hq
  refine h.2.2 (j, x) (List.mem_cons_of_mem _ (List.mem_filter.mpr ⟨hq, ?_⟩))
  obtain ⟨u, hu, rfl⟩ := mj_lv_mem.mp hq
  have e1 : (j == i) = false := by
    rw [beq_eq_false_iff_ne]
    intro e
    subst e
    rw [hu] at h1
    cases h1
  have e2 : (j + 1 == i && (mj_v ad u).category == 2) = false := by
    rw [mj_cat]
    by_cases hji : j + 1 = i
    · subst hji
      have h3 : (u.category != 2) = true := by
        have h4 := h2
        simp only [hu] at h4
        exact h4
      simp only [bne_iff_ne, ne_eq] at h3
      simp [h3]
    · simp [hji]
  simp only [e1, e2]
  rfl
section HC
variable {l : Launch} {cc : ByteArray} {M : mj_M} {b : Bool} {X : mj_R} {pc : Nat} {L : mj_L} {st rest : List Value} {w w1 : mj_W} {k n : Nat} {y : MethodName} {ws : List Cond} {rm : Room} {as : List Value} {idx na : Nat} {Ex : String}
theorem G_callVC {C : String} {T : u_T} {N1 ci o : Nat} {fs : List Value} (hd : decode cc pc = .ok (.invokevirtual idx, 3)) (hcw : mj_cwV M idx C y ws rm na) (hk0 : k + rm.cells ≤ M.2.2.2.1.cells ∧ n + rm.slots ≤ M.2.2.2.1.slots) (hM : MCX l y ws rm (.ref o :: as) w Ex w1) (hn : as.length = na) (hcl : vwCl[ci]? = some (C, T, N1)) (hw : w[o]? = some (.inr (ci, fs))) (hst : st = as.reverse ++ .ref o :: rest) (hcat : Nat.ble (rest.map fun v => v.category).sum 8 = true)
    {tb : List ExceptionTableEntry} (htb : M.2.2.2.2.2 = some tb) (pre : List ExceptionTableEntry) (x : ExceptionTableEntry) (suf : List ExceptionTableEntry) (hsplit : tb = pre ++ x :: suf) (hpass : ∀ z ∈ pre, ∃ nm : String, z.catchType ≠ 0 ∧ Cond.classLink M.1 z.catchType nm ∈ M.2.2.1 ∧ Cond.not (.castable Ex nm) ∈ M.2.2.1) (hx : covers x pc = true ∧ x.catchType ≠ 0) {nm : String} (hlink : Cond.classLink M.1 x.catchType nm ∈ M.2.2.1) (hcast : Cond.castable Ex nm ∈ M.2.2.1)
    {i q2 : Nat} (hda : (decode cc x.handlerPc = .ok (.astore i, 2) ∧ q2 = x.handlerPc + 2) ∨ (∃ j : Fin 4, decode cc x.handlerPc = .ok (.astore_n j, 1) ∧ (j : Nat) = i ∧ q2 = x.handlerPc + 1)) (hfr : mj_fr L i = true) (kk : GG l cc M b X q2 L [] w1 (k + rm.cells) (n + rm.slots)) : GG l cc M b X pc L st w k n := by
  intro p e s m args below meth c Q D A ad0 N F E ad cy H locs ls r P S hl
  obtain ⟨bytes, maxL, ret, tl, hg, hws, hdd, hR⟩ := hcw
  subst hst
  have hr : vx_Run p l e M.2.2.2.1 s m args below meth c H locs k n rm.cells rm.slots (F0 m pc ls ((as.reverse ++ .ref o :: rest).map (mj_v ad))) (rest.map (mj_v ad)) (fun _ _ _ => False) (mj_Xc D ad cy w H.size Ex w1) (va_A (mj_w ad cy w) H.size) := vx_runV (As := as.map (mj_v ad)) (rest := rest.map (mj_v ad)) (b := ad o) ⟨F.1, F.2.1, F.2.2.1, F.2.2.2.1, mj_hts F⟩ (hM r.2.2.2 D ad cy H.size) (cwV na (mj_hts F) hg hws rfl rfl hdd hR) ⟨mj_blind, va_recv (mj_hK F) P.1 hcl (mj_w_get hw), mj_pre F P S⟩ (g := F0 m pc ls ((as.reverse ++ .ref o :: rest).map (mj_v ad))) rfl (by rw [List.length_map]; exact hn) hl.2.1 (by simp [mj_v]) (lv_room (by rw [mj_cats]; exact Nat.le_of_ble_eq_true hcat)) hd hk0
  have htab : c.exceptionTable.toList = tb := F.2.2.2.2.2.2.2.2.2 tb htb
  have hil : i < L.length := by
    have h1 := (Bool.and_eq_true_iff.mp hfr).1
    cases h2 : L[i]? with
    | none => rw [h2] at h1; cases h1
    | some o => exact (List.getElem?_eq_some_iff.mp h2).1
  intro T0 hT X0
  have hA1 := mj_free P S (mj_hA F)
  rcases hr T0 hT X0 with ⟨v, st₀, t, T', L1, h0, X', hL, e1, e2, hF, st⟩ | ⟨q, st₀, t, T', L1, E', ce, h0, X', hL, e1, e2, ⟨rfl, ⟨ad1, cy1, hrel, hPp, hDd, hTt⟩, hz, hk'⟩, hce, hcv, hcl2, st⟩
  · exact hF.elim
  · rw [h0] at hz hk'
    have ea : ad1 = ad := hrel.1 rfl
    subst ea
    have hP1 : mj_P D A ad1 cy1 w1 s T'.heap := ⟨by rw [e1]; exact hPp, hDd.weaken (fun k0 q0 _ h => hA1 _ h), hTt.moved (by rw [← e2]; exact X'.warmed.alike.symm)⟩
    have hS1 : va_S A s.heap T'.heap (locs ++ L1) := ⟨Nat.le_trans S.1 (by rw [e1]; exact hz), fun q0 h1 h2 => by rw [e1, hk' q0 (Nat.lt_of_lt_of_le h1 S.1) (fun z => h2 (hA1 q0 z))]; exact S.2.1 q0 h1 h2, fun q0 hq => by
        rcases List.mem_append.mp hq with h | h
        · exact S.2.2 q0 h
        · exact hA1 _ (hL q0 h)⟩
    have go : ∀ ls' : Array Slot, lv_has ls' M.2.1 ((i, .ref q) :: (mj_lv ad1 L).filter (fun q => !(q.1 == i) && !(q.1 + 1 == i && q.2.category == 2))) → W p l e M.2.2.2.1 s m args below meth c T'.heap (locs ++ L1) (k + rm.cells) (n + rm.slots) Q (F0 m q2 ls' []) := fun ls' hl' => kk p e s m args below meth c Q D A ad0 N F E ad1 cy1 T'.heap (locs ++ L1) ls' (r.next hrel (fun _ => rfl)) hP1 hS1 (mj_keep hl.1 hl' hfr)
    have W1 : vx_W p l e M.2.2.2.1 s m args below meth c T'.heap (locs ++ L1) (k + rm.cells) (n + rm.slots) Q (F0 m pc ls (rest.map (mj_v ad1))) q := vx_catch F.2.2.2.1 pre x suf (htab.trans hsplit) (fun z hz => by
        obtain ⟨nm1, g1, g2, g3⟩ := hpass z hz
        exact Or.inr ⟨g1, nm1, mj_hts F _ g2, va_Nc.of (mj_hts F _ g3)⟩) hx.1 hx.2 (mj_hts F _ hlink) (mj_hts F _ hcast) (by rw [e1]; exact hce) hcv hcl2 (by
        rcases hda with ⟨d1, rfl⟩ | ⟨j, d1, d2, rfl⟩
        · exact lv_astore F.1 F.2.1 d1 hl.2 (by rw [← hl.1]; exact hil) rfl go
        · exact lv_astore_n F.1 F.2.1 d1 d2 hl.2 (by rw [← hl.1]; exact hil) rfl go)
    obtain ⟨t2, a1, b1⟩ := W1 T' rfl X'
    exact ⟨t2, st.trans a1, b1⟩
theorem mj_ofWH {y : MethodName} {ws ws' : List Cond} {rm : Room} {Pc : Array Value → State → Prop} {Qc : Array Value → State → Outcome → State → Prop} {mc ms : Nat} {free : Addr → Prop} {cc : ByteArray} {maxL : Nat} {ret : Option FieldType} {hh : List (Nat × Nat × Nat × Nat)}
    (hy : plainName y.cls = true) (hw : ws = Cond.codeWith y cc maxL ret hh :: ws')
    (body : ∀ p e s m args below meth c s₁, BodyLoose p l y (headSpec ws rm) cc maxL ret e s m args below meth c s₁ → c.maxLocals = maxL → c.exceptionTable.toList = tableOf hh → Pc args s →
      W p l e (headSpec ws rm).room s m args below meth c s.heap [] 0 0 (MQ below Qc args s mc ms free) (entryFrame m args maxL)) : Met l y ws rm Pc Qc mc ms free := by
  refine MetFree.of_bodyS (code := cc) (maxLocals := maxL) (ret := ret) hy ?_ ?_
  · intro args s m h hn
    obtain ⟨m9, meth, c, hn9, h1, h2, h3, h4, -, h5, h6, -⟩ := Cond.codeWith_spec (atoms_spec (ws := ws) h _ (by rw [hw]; exact List.mem_cons_self))
    cases hn.symm.trans hn9
    exact ⟨meth, c, h1, h2, h3, h4, h5, h6⟩
  · intro p e s m args below meth c s₁ B hml hP _
    have hh0 : s₁.heap = s.heap := by rw [B.state]; rfl
    have ht : c.exceptionTable.toList = tableOf hh := vx_table (x := y) (y := y) (bytes := cc) (maxL' := maxL) (ret' := ret) B (atoms_spec (ws := ws) B.pre _ (by rw [hw]; exact List.mem_cons_self))
    obtain ⟨t, a1, o, b1, b2, b3⟩ := body p e s m args below meth c s₁ B hml ht hP s₁ hh0 (Stand.of_body B)
    exact ⟨t, o, a1, b1, b2, ⟨b3.1, b3.2⟩⟩
theorem mj_MCEH {y : MethodName} {ws ws' ex : List Cond} {rm : Room} {as : List Value} {w w1 : mj_W} {x : Int32} {cc : ByteArray} {nl : Nat} {hh : List (Nat × Nat × Nat × Nat)} (hex : ∀ q ∈ ex, mj_vmw q) (hy : plainName y.cls = true) (hw : ws = Cond.codeWith y cc nl (some .int) hh :: ws') (hlen : (mj_sl as).length ≤ nl)
    (hG : GG l cc (y.cls, nl, ws ++ ex, rm, y.name == "<init>", some (tableOf hh)) false (.inl (some (.int x), w1)) 0 (mj_in as nl) [] w 0 0) : MCE l y ws rm ex false as w (some (.int x)) w1 := by
  intro hw4 D ad cy sz
  refine mj_ofWH (cc := cc) (maxL := nl) (ret := some .int) (hh := hh) hy hw ?_
  intro p e s m args below meth c s₁ B hml htb hv
  obtain ⟨⟨rfl, hsz, hP, hK, hD, hT, hX⟩, hE⟩ := hv
  have hts := atoms_spec (ws := ws) B.pre
  subst hsz
  rw [lg_entry_eq]
  have hlen' : (lg_sl (as.map (mj_v ad))).length ≤ nl := by rw [mj_sl_len]; exact hlen
  have hl := lv_entry (as.map (mj_v ad)) (n := nl) hlen'
  refine hG p e s m _ below meth c _ D (va_A (mj_w ad cy w) s.heap.size) ad w.length ⟨B.exec, B.bytes, hml, findClass_of_methodNamed B.named, fun q hq => (List.mem_append.mp hq).elim (hts q) (fun h => hex q h #[] _ s s rfl (hE q h)), hK, fun q h => Or.inr h, hX, fun q => ?_, fun t q => by cases q; exact htb⟩ ?_ ad cy s.heap [] _ ⟨fun _ => rfl, fun _ _ => rfl, Nat.le_refl _, hw4⟩ ⟨hP, hD.self, hT⟩ va_S.rf ⟨?_, hl.1, hl.2.1, ?_⟩
  · have q' : y.name = "<init>" := by simpa using q
    exact (name_of_methodNamed B.named B.method).1.trans q'
  · intro ad1 cy1 H1 locs1 ls1 pc1 k1 n1 hrel hP1 hS1 hk1 hn1 hret
    refine W.widen hk1 hn1 ?_
    have post : ∀ t : State, t.heap = H1 → s.WarmedH t.vm → mj_Qc D ad cy w s.heap.size false (some (.int x)) w1 (as.map (mj_v ad)).toArray s (.returned ((some (Value.int x)).map (mj_v ad1))) t := fun t ht hW => ⟨⟨ad1, cy1, hrel, rfl, by rw [ht]; exact hP1.1, hP1.2.1, hP1.2.2.moved hW.alike⟩, hS1.F ht⟩
    exact W.zret B.exec B.bytes B.returns rfl post hS1.2.2 hret B.notSynchronized
  · simp only [mj_in, List.length_append, List.length_replicate]; omega
  · rintro ⟨i, x⟩ hq
    obtain ⟨u, hu, rfl⟩ := mj_lv_mem.mp hq
    have h := mj_sl_mem ad _ as 0 i u hu
    rw [Nat.zero_add] at h
    exact hl.2.2 _ h
end HC
abbrev rmL_append : Room := { frames := 9, cells := 1, slots := 6, locals := 163 }
abbrev ML_append : mj_M := (RL, 4, wsL_append ++ ctN, rmL_append, false, some (tableOf [(0, 9, 12, 15), (0, 9, 15, 28)]))
theorem kX3L_append : mj_cwV ML_append 44 RX3 yX3_append wsX3_append rmX3_append 1 := ⟨_, _, _, _, fun w h => ⟨List.mem_append_left _ (gL_append_X3_append w h).1, (gL_append_X3_append w h).2⟩, rfl, by decide +kernel, by decide⟩
theorem kT3L_append : mj_cwV ML_append 44 RX3 yX3_append wsX3_append rmT3_append 1 := ⟨_, _, _, _, fun w h => ⟨List.mem_append_left _ (gL_append_X3_append w h).1, (gL_append_X3_append w h).2⟩, rfl, by decide +kernel, by decide⟩
theorem lkL_append_15 : Cond.classLink RL 15 xIA ∈ wsL_append ++ ctN := List.mem_append_left _ (by decide +kernel)
theorem lkL_append_28 : Cond.classLink RL 28 xIS ∈ wsL_append ++ ctN := List.mem_append_left _ (by decide +kernel)
abbrev rmL_bankOf : Room := { frames := 9, cells := 1, slots := 6, locals := 164 }
abbrev ML_bankOf : mj_M := (RL, 5, wsL_bankOf ++ ctN, rmL_bankOf, false, some (tableOf [(0, 10, 13, 13), (0, 10, 17, 15)]))
theorem kX3L_bankOf : mj_cwV ML_bankOf 60 RX3 yX3_bankOf wsX3_bankOf rmX3_bankOf 2 := ⟨_, _, _, _, fun w h => ⟨List.mem_append_left _ (gL_bankOf_X3_bankOf w h).1, (gL_bankOf_X3_bankOf w h).2⟩, rfl, by decide +kernel, by decide⟩
theorem kT3L_bankOf : mj_cwV ML_bankOf 60 RX3 yX3_bankOf wsX3_bankOf rmT3_bankOf 2 := ⟨_, _, _, _, fun w h => ⟨List.mem_append_left _ (gL_bankOf_X3_bankOf w h).1, (gL_bankOf_X3_bankOf w h).2⟩, rfl, by decide +kernel, by decide⟩
theorem lkL_bankOf_13 : Cond.classLink RL 13 xIO ∈ wsL_bankOf ++ ctN := List.mem_append_left _ (by decide +kernel)
theorem lkL_bankOf_15 : Cond.classLink RL 15 xIA ∈ wsL_bankOf ++ ctN := List.mem_append_left _ (by decide +kernel)
abbrev rmL_bestBank : Room := { frames := 8, cells := 1, slots := 6, locals := 147 }
abbrev ML_bestBank : mj_M := (RL, 5, wsL_bestBank ++ ctN, rmL_bestBank, false, some (tableOf [(0, 10, 13, 13)]))
theorem kX3L_bestBank : mj_cwV ML_bestBank 84 RX3 yX3_bestBank wsX3_bestBank rmX3_bestBank 2 := ⟨_, _, _, _, fun w h => ⟨List.mem_append_left _ (gL_bestBank_X3_bestBank w h).1, (gL_bestBank_X3_bestBank w h).2⟩, rfl, by decide +kernel, by decide⟩
theorem kT3L_bestBank : mj_cwV ML_bestBank 84 RX3 yX3_bestBank wsX3_bestBank rmT3_bestBank 2 := ⟨_, _, _, _, fun w h => ⟨List.mem_append_left _ (gL_bestBank_X3_bestBank w h).1, (gL_bestBank_X3_bestBank w h).2⟩, rfl, by decide +kernel, by decide⟩
theorem lkL_bestBank_13 : Cond.classLink RL 13 xIO ∈ wsL_bestBank ++ ctN := List.mem_append_left _ (by decide +kernel)
abbrev rmL_count : Room := { frames := 9, cells := 1, slots := 6, locals := 163 }
abbrev ML_count : mj_M := (RL, 4, wsL_count ++ ctN, rmL_count, false, some (tableOf [(0, 9, 12, 15)]))
theorem kX3L_count : mj_cwV ML_count 72 RX3 yX3_count wsX3_count rmX3_count 1 := ⟨_, _, _, _, fun w h => ⟨List.mem_append_left _ (gL_count_X3_count w h).1, (gL_count_X3_count w h).2⟩, rfl, by decide +kernel, by decide⟩
theorem kT3L_count : mj_cwV ML_count 72 RX3 yX3_count wsX3_count rmT3_count 1 := ⟨_, _, _, _, fun w h => ⟨List.mem_append_left _ (gL_count_X3_count w h).1, (gL_count_X3_count w h).2⟩, rfl, by decide +kernel, by decide⟩
theorem lkL_count_15 : Cond.classLink RL 15 xIA ∈ wsL_count ++ ctN := List.mem_append_left _ (by decide +kernel)
abbrev rmL_cutter : Room := { frames := 9, cells := 1, slots := 6, locals := 164 }
abbrev ML_cutter : mj_M := (RL, 5, wsL_cutter ++ ctN, rmL_cutter, false, some (tableOf [(0, 10, 13, 13), (0, 10, 17, 15)]))
theorem kX3L_cutter : mj_cwV ML_cutter 66 RX3 yX3_cutter wsX3_cutter rmX3_cutter 2 := ⟨_, _, _, _, fun w h => ⟨List.mem_append_left _ (gL_cutter_X3_cutter w h).1, (gL_cutter_X3_cutter w h).2⟩, rfl, by decide +kernel, by decide⟩
theorem kT3L_cutter : mj_cwV ML_cutter 66 RX3 yX3_cutter wsX3_cutter rmT3_cutter 2 := ⟨_, _, _, _, fun w h => ⟨List.mem_append_left _ (gL_cutter_X3_cutter w h).1, (gL_cutter_X3_cutter w h).2⟩, rfl, by decide +kernel, by decide⟩
theorem lkL_cutter_13 : Cond.classLink RL 13 xIO ∈ wsL_cutter ++ ctN := List.mem_append_left _ (by decide +kernel)
theorem lkL_cutter_15 : Cond.classLink RL 15 xIA ∈ wsL_cutter ++ ctN := List.mem_append_left _ (by decide +kernel)
abbrev rmL_enoughIn : Room := { frames := 8, cells := 1, slots := 6, locals := 143 }
abbrev ML_enoughIn : mj_M := (RL, 4, wsL_enoughIn ++ ctN, rmL_enoughIn, false, some (tableOf [(0, 9, 12, 13)]))
theorem kX3L_enoughIn : mj_cwV ML_enoughIn 81 RX3 yX3_enoughIn wsX3_enoughIn rmX3_enoughIn 1 := ⟨_, _, _, _, fun w h => ⟨List.mem_append_left _ (gL_enoughIn_X3_enoughIn w h).1, (gL_enoughIn_X3_enoughIn w h).2⟩, rfl, by decide +kernel, by decide⟩
theorem kT3L_enoughIn : mj_cwV ML_enoughIn 81 RX3 yX3_enoughIn wsX3_enoughIn rmT3_enoughIn 1 := ⟨_, _, _, _, fun w h => ⟨List.mem_append_left _ (gL_enoughIn_X3_enoughIn w h).1, (gL_enoughIn_X3_enoughIn w h).2⟩, rfl, by decide +kernel, by decide⟩
theorem lkL_enoughIn_13 : Cond.classLink RL 13 xIO ∈ wsL_enoughIn ++ ctN := List.mem_append_left _ (by decide +kernel)
abbrev rmL_give : Room := { frames := 9, cells := 1, slots := 6, locals := 168 }
abbrev ML_give : mj_M := (RL, 7, wsL_give ++ ctN, rmL_give, false, some (tableOf [(0, 14, 17, 13), (0, 14, 21, 15), (0, 14, 25, 28)]))
theorem kX3L_give : mj_cwV ML_give 34 RX3 yX3_give wsX3_give rmX3_give 4 := ⟨_, _, _, _, fun w h => ⟨List.mem_append_left _ (gL_give_X3_give w h).1, (gL_give_X3_give w h).2⟩, rfl, by decide +kernel, by decide⟩
theorem kT3L_give : mj_cwV ML_give 34 RX3 yX3_give wsX3_give rmT3_give 4 := ⟨_, _, _, _, fun w h => ⟨List.mem_append_left _ (gL_give_X3_give w h).1, (gL_give_X3_give w h).2⟩, rfl, by decide +kernel, by decide⟩
theorem lkL_give_13 : Cond.classLink RL 13 xIO ∈ wsL_give ++ ctN := List.mem_append_left _ (by decide +kernel)
theorem lkL_give_15 : Cond.classLink RL 15 xIA ∈ wsL_give ++ ctN := List.mem_append_left _ (by decide +kernel)
theorem lkL_give_28 : Cond.classLink RL 28 xIS ∈ wsL_give ++ ctN := List.mem_append_left _ (by decide +kernel)
abbrev rmL_hearth : Room := { frames := 9, cells := 1, slots := 6, locals := 165 }
abbrev ML_hearth : mj_M := (RL, 6, wsL_hearth ++ ctN, rmL_hearth, false, some (tableOf [(0, 12, 15, 13), (0, 12, 19, 15)]))
theorem kX3L_hearth : mj_cwV ML_hearth 7 RX3 yX3_hearth wsX3_hearth rmX3_hearth 3 := ⟨_, _, _, _, fun w h => ⟨List.mem_append_left _ (gL_hearth_X3_hearth w h).1, (gL_hearth_X3_hearth w h).2⟩, rfl, by decide +kernel, by decide⟩
theorem kT3L_hearth : mj_cwV ML_hearth 7 RX3 yX3_hearth wsX3_hearth rmT3_hearth 3 := ⟨_, _, _, _, fun w h => ⟨List.mem_append_left _ (gL_hearth_X3_hearth w h).1, (gL_hearth_X3_hearth w h).2⟩, rfl, by decide +kernel, by decide⟩
theorem lkL_hearth_13 : Cond.classLink RL 13 xIO ∈ wsL_hearth ++ ctN := List.mem_append_left _ (by decide +kernel)
theorem lkL_hearth_15 : Cond.classLink RL 15 xIA ∈ wsL_hearth ++ ctN := List.mem_append_left _ (by decide +kernel)
abbrev rmL_hearthOf : Room := { frames := 9, cells := 1, slots := 6, locals := 164 }
abbrev ML_hearthOf : mj_M := (RL, 5, wsL_hearthOf ++ ctN, rmL_hearthOf, false, some (tableOf [(0, 10, 13, 13), (0, 10, 17, 15)]))
theorem kX3L_hearthOf : mj_cwV ML_hearthOf 57 RX3 yX3_hearthOf wsX3_hearthOf rmX3_hearthOf 2 := ⟨_, _, _, _, fun w h => ⟨List.mem_append_left _ (gL_hearthOf_X3_hearthOf w h).1, (gL_hearthOf_X3_hearthOf w h).2⟩, rfl, by decide +kernel, by decide⟩
theorem kT3L_hearthOf : mj_cwV ML_hearthOf 57 RX3 yX3_hearthOf wsX3_hearthOf rmT3_hearthOf 2 := ⟨_, _, _, _, fun w h => ⟨List.mem_append_left _ (gL_hearthOf_X3_hearthOf w h).1, (gL_hearthOf_X3_hearthOf w h).2⟩, rfl, by decide +kernel, by decide⟩
theorem lkL_hearthOf_13 : Cond.classLink RL 13 xIO ∈ wsL_hearthOf ++ ctN := List.mem_append_left _ (by decide +kernel)
theorem lkL_hearthOf_15 : Cond.classLink RL 15 xIA ∈ wsL_hearthOf ++ ctN := List.mem_append_left _ (by decide +kernel)
abbrev rmL_ifPassed : Room := { frames := 9, cells := 1, slots := 6, locals := 165 }
abbrev ML_ifPassed : mj_M := (RL, 5, wsL_ifPassed ++ ctN, rmL_ifPassed, false, some (tableOf [(0, 10, 13, 15)]))
theorem kX3L_ifPassed : mj_cwV ML_ifPassed 78 RX3 yX3_ifPassed wsX3_ifPassed rmX3_ifPassed 2 := ⟨_, _, _, _, fun w h => ⟨List.mem_append_left _ (gL_ifPassed_X3_ifPassed w h).1, (gL_ifPassed_X3_ifPassed w h).2⟩, rfl, by decide +kernel, by decide⟩
theorem kT3L_ifPassed : mj_cwV ML_ifPassed 78 RX3 yX3_ifPassed wsX3_ifPassed rmT3_ifPassed 2 := ⟨_, _, _, _, fun w h => ⟨List.mem_append_left _ (gL_ifPassed_X3_ifPassed w h).1, (gL_ifPassed_X3_ifPassed w h).2⟩, rfl, by decide +kernel, by decide⟩
theorem lkL_ifPassed_15 : Cond.classLink RL 15 xIA ∈ wsL_ifPassed ++ ctN := List.mem_append_left _ (by decide +kernel)
abbrev rmL_pass : Room := { frames := 9, cells := 1, slots := 6, locals := 163 }
abbrev ML_pass : mj_M := (RL, 4, wsL_pass ++ ctN, rmL_pass, false, some (tableOf [(0, 9, 12, 15)]))
theorem kX3L_pass : mj_cwV ML_pass 38 RX3 yX3_pass wsX3_pass rmX3_pass 1 := ⟨_, _, _, _, fun w h => ⟨List.mem_append_left _ (gL_pass_X3_pass w h).1, (gL_pass_X3_pass w h).2⟩, rfl, by decide +kernel, by decide⟩
theorem kT3L_pass : mj_cwV ML_pass 38 RX3 yX3_pass wsX3_pass rmT3_pass 1 := ⟨_, _, _, _, fun w h => ⟨List.mem_append_left _ (gL_pass_X3_pass w h).1, (gL_pass_X3_pass w h).2⟩, rfl, by decide +kernel, by decide⟩
theorem lkL_pass_15 : Cond.classLink RL 15 xIA ∈ wsL_pass ++ ctN := List.mem_append_left _ (by decide +kernel)
abbrev rmL_play : Room := { frames := 8, cells := 1, slots := 6, locals := 166 }
abbrev ML_play : mj_M := (RL, 3, wsL_play ++ ctN, rmL_play, false, some (tableOf [(0, 8, 11, 15)]))
theorem kX3L_play : mj_cwV ML_play 47 RX3 yX3_play wsX3_play rmX3_play 0 := ⟨_, _, _, _, fun w h => ⟨List.mem_append_left _ (gL_play_X3_play w h).1, (gL_play_X3_play w h).2⟩, rfl, by decide +kernel, by decide⟩
theorem kT3L_play : mj_cwV ML_play 47 RX3 yX3_play wsX3_play rmT3_play 0 := ⟨_, _, _, _, fun w h => ⟨List.mem_append_left _ (gL_play_X3_play w h).1, (gL_play_X3_play w h).2⟩, rfl, by decide +kernel, by decide⟩
theorem lkL_play_15 : Cond.classLink RL 15 xIA ∈ wsL_play ++ ctN := List.mem_append_left _ (by decide +kernel)
abbrev rmL_plot : Room := { frames := 9, cells := 1, slots := 6, locals := 165 }
abbrev ML_plot : mj_M := (RL, 6, wsL_plot ++ ctN, rmL_plot, false, some (tableOf [(0, 12, 15, 13), (0, 12, 19, 15)]))
theorem kX3L_plot : mj_cwV ML_plot 63 RX3 yX3_plot wsX3_plot rmX3_plot 3 := ⟨_, _, _, _, fun w h => ⟨List.mem_append_left _ (gL_plot_X3_plot w h).1, (gL_plot_X3_plot w h).2⟩, rfl, by decide +kernel, by decide⟩
theorem kT3L_plot : mj_cwV ML_plot 63 RX3 yX3_plot wsX3_plot rmT3_plot 3 := ⟨_, _, _, _, fun w h => ⟨List.mem_append_left _ (gL_plot_X3_plot w h).1, (gL_plot_X3_plot w h).2⟩, rfl, by decide +kernel, by decide⟩
theorem lkL_plot_13 : Cond.classLink RL 13 xIO ∈ wsL_plot ++ ctN := List.mem_append_left _ (by decide +kernel)
theorem lkL_plot_15 : Cond.classLink RL 15 xIA ∈ wsL_plot ++ ctN := List.mem_append_left _ (by decide +kernel)
abbrev rmL_rain : Room := { frames := 8, cells := 1, slots := 6, locals := 141 }
abbrev ML_rain : mj_M := (RL, 4, wsL_rain ++ ctN, rmL_rain, false, some (tableOf [(0, 9, 12, 15)]))
theorem kX3L_rain : mj_cwV ML_rain 69 RX3 yX3_rain wsX3_rain rmX3_rain 1 := ⟨_, _, _, _, fun w h => ⟨List.mem_append_left _ (gL_rain_X3_rain w h).1, (gL_rain_X3_rain w h).2⟩, rfl, by decide +kernel, by decide⟩
theorem kT3L_rain : mj_cwV ML_rain 69 RX3 yX3_rain wsX3_rain rmT3_rain 1 := ⟨_, _, _, _, fun w h => ⟨List.mem_append_left _ (gL_rain_X3_rain w h).1, (gL_rain_X3_rain w h).2⟩, rfl, by decide +kernel, by decide⟩
theorem lkL_rain_15 : Cond.classLink RL 15 xIA ∈ wsL_rain ++ ctN := List.mem_append_left _ (by decide +kernel)
abbrev rmL_rest : Room := { frames := 8, cells := 1, slots := 6, locals := 142 }
abbrev ML_rest : mj_M := (RL, 4, wsL_rest ++ ctN, rmL_rest, false, some (tableOf [(0, 9, 12, 13)]))
theorem kX3L_rest : mj_cwV ML_rest 30 RX3 yX3_rest wsX3_rest rmX3_rest 1 := ⟨_, _, _, _, fun w h => ⟨List.mem_append_left _ (gL_rest_X3_rest w h).1, (gL_rest_X3_rest w h).2⟩, rfl, by decide +kernel, by decide⟩
theorem kT3L_rest : mj_cwV ML_rest 30 RX3 yX3_rest wsX3_rest rmT3_rest 1 := ⟨_, _, _, _, fun w h => ⟨List.mem_append_left _ (gL_rest_X3_rest w h).1, (gL_rest_X3_rest w h).2⟩, rfl, by decide +kernel, by decide⟩
theorem lkL_rest_13 : Cond.classLink RL 13 xIO ∈ wsL_rest ++ ctN := List.mem_append_left _ (by decide +kernel)
abbrev rmL_restore : Room := { frames := 8, cells := 1, slots := 6, locals := 140 }
abbrev ML_restore : mj_M := (RL, 3, wsL_restore ++ ctN, rmL_restore, false, some (tableOf [(0, 8, 11, 28)]))
theorem kX3L_restore : mj_cwV ML_restore 54 RX3 yX3_restore wsX3_restore rmX3_restore 0 := ⟨_, _, _, _, fun w h => ⟨List.mem_append_left _ (gL_restore_X3_restore w h).1, (gL_restore_X3_restore w h).2⟩, rfl, by decide +kernel, by decide⟩
theorem kT3L_restore : mj_cwV ML_restore 54 RX3 yX3_restore wsX3_restore rmT3_restore 0 := ⟨_, _, _, _, fun w h => ⟨List.mem_append_left _ (gL_restore_X3_restore w h).1, (gL_restore_X3_restore w h).2⟩, rfl, by decide +kernel, by decide⟩
theorem lkL_restore_28 : Cond.classLink RL 28 xIS ∈ wsL_restore ++ ctN := List.mem_append_left _ (by decide +kernel)
abbrev rmL_set : Room := { frames := 9, cells := 1, slots := 6, locals := 164 }
abbrev ML_set : mj_M := (RL, 5, wsL_set ++ ctN, rmL_set, false, some (tableOf [(0, 10, 13, 13), (0, 10, 17, 15)]))
theorem kX3L_set : mj_cwV ML_set 41 RX3 yX3_set wsX3_set rmX3_set 2 := ⟨_, _, _, _, fun w h => ⟨List.mem_append_left _ (gL_set_X3_set w h).1, (gL_set_X3_set w h).2⟩, rfl, by decide +kernel, by decide⟩
theorem kT3L_set : mj_cwV ML_set 41 RX3 yX3_set wsX3_set rmT3_set 2 := ⟨_, _, _, _, fun w h => ⟨List.mem_append_left _ (gL_set_X3_set w h).1, (gL_set_X3_set w h).2⟩, rfl, by decide +kernel, by decide⟩
theorem lkL_set_13 : Cond.classLink RL 13 xIO ∈ wsL_set ++ ctN := List.mem_append_left _ (by decide +kernel)
theorem lkL_set_15 : Cond.classLink RL 15 xIA ∈ wsL_set ++ ctN := List.mem_append_left _ (by decide +kernel)
abbrev rmL_strength : Room := { frames := 9, cells := 1, slots := 6, locals := 164 }
abbrev ML_strength : mj_M := (RL, 5, wsL_strength ++ ctN, rmL_strength, false, some (tableOf [(0, 10, 13, 13), (0, 10, 17, 15)]))
theorem kX3L_strength : mj_cwV ML_strength 21 RX3 yX3_strength wsX3_strength rmX3_strength 2 := ⟨_, _, _, _, fun w h => ⟨List.mem_append_left _ (gL_strength_X3_strength w h).1, (gL_strength_X3_strength w h).2⟩, rfl, by decide +kernel, by decide⟩
theorem kT3L_strength : mj_cwV ML_strength 21 RX3 yX3_strength wsX3_strength rmT3_strength 2 := ⟨_, _, _, _, fun w h => ⟨List.mem_append_left _ (gL_strength_X3_strength w h).1, (gL_strength_X3_strength w h).2⟩, rfl, by decide +kernel, by decide⟩
theorem lkL_strength_13 : Cond.classLink RL 13 xIO ∈ wsL_strength ++ ctN := List.mem_append_left _ (by decide +kernel)
theorem lkL_strength_15 : Cond.classLink RL 15 xIA ∈ wsL_strength ++ ctN := List.mem_append_left _ (by decide +kernel)
abbrev rmL_track : Room := { frames := 9, cells := 1, slots := 6, locals := 164 }
abbrev ML_track : mj_M := (RL, 5, wsL_track ++ ctN, rmL_track, false, some (tableOf [(0, 10, 13, 13), (0, 10, 17, 15)]))
theorem kX3L_track : mj_cwV ML_track 17 RX3 yX3_track wsX3_track rmX3_track 2 := ⟨_, _, _, _, fun w h => ⟨List.mem_append_left _ (gL_track_X3_track w h).1, (gL_track_X3_track w h).2⟩, rfl, by decide +kernel, by decide⟩
theorem kT3L_track : mj_cwV ML_track 17 RX3 yX3_track wsX3_track rmT3_track 2 := ⟨_, _, _, _, fun w h => ⟨List.mem_append_left _ (gL_track_X3_track w h).1, (gL_track_X3_track w h).2⟩, rfl, by decide +kernel, by decide⟩
theorem lkL_track_13 : Cond.classLink RL 13 xIO ∈ wsL_track ++ ctN := List.mem_append_left _ (by decide +kernel)
theorem lkL_track_15 : Cond.classLink RL 15 xIA ∈ wsL_track ++ ctN := List.mem_append_left _ (by decide +kernel)
abbrev rmL_undo : Room := { frames := 8, cells := 1, slots := 6, locals := 140 }
abbrev ML_undo : mj_M := (RL, 3, wsL_undo ++ ctN, rmL_undo, false, some (tableOf [(0, 8, 11, 28)]))
theorem kX3L_undo : mj_cwV ML_undo 51 RX3 yX3_undo wsX3_undo rmX3_undo 0 := ⟨_, _, _, _, fun w h => ⟨List.mem_append_left _ (gL_undo_X3_undo w h).1, (gL_undo_X3_undo w h).2⟩, rfl, by decide +kernel, by decide⟩
theorem kT3L_undo : mj_cwV ML_undo 51 RX3 yX3_undo wsX3_undo rmT3_undo 0 := ⟨_, _, _, _, fun w h => ⟨List.mem_append_left _ (gL_undo_X3_undo w h).1, (gL_undo_X3_undo w h).2⟩, rfl, by decide +kernel, by decide⟩
theorem lkL_undo_28 : Cond.classLink RL 28 xIS ∈ wsL_undo ++ ctN := List.mem_append_left _ (by decide +kernel)
abbrev rmL_whyNot : Room := { frames := 8, cells := 1, slots := 6, locals := 144 }
abbrev ML_whyNot : mj_M := (RL, 6, wsL_whyNot ++ ctN, rmL_whyNot, false, some (tableOf [(0, 12, 15, 13)]))
theorem kX3L_whyNot : mj_cwV ML_whyNot 75 RX3 yX3_whyNot wsX3_whyNot rmX3_whyNot 3 := ⟨_, _, _, _, fun w h => ⟨List.mem_append_left _ (gL_whyNot_X3_whyNot w h).1, (gL_whyNot_X3_whyNot w h).2⟩, rfl, by decide +kernel, by decide⟩
theorem kT3L_whyNot : mj_cwV ML_whyNot 75 RX3 yX3_whyNot wsX3_whyNot rmT3_whyNot 3 := ⟨_, _, _, _, fun w h => ⟨List.mem_append_left _ (gL_whyNot_X3_whyNot w h).1, (gL_whyNot_X3_whyNot w h).2⟩, rfl, by decide +kernel, by decide⟩
theorem lkL_whyNot_13 : Cond.classLink RL 13 xIO ∈ wsL_whyNot ++ ctN := List.mem_append_left _ (by decide +kernel)
abbrev rmL_work : Room := { frames := 8, cells := 1, slots := 6, locals := 144 }
abbrev ML_work : mj_M := (RL, 6, wsL_work ++ ctN, rmL_work, false, some (tableOf [(0, 12, 15, 13), (0, 12, 19, 28)]))
theorem kX3L_work : mj_cwV ML_work 24 RX3 yX3_work wsX3_work rmX3_work 3 := ⟨_, _, _, _, fun w h => ⟨List.mem_append_left _ (gL_work_X3_work w h).1, (gL_work_X3_work w h).2⟩, rfl, by decide +kernel, by decide⟩
theorem kT3L_work : mj_cwV ML_work 24 RX3 yX3_work wsX3_work rmT3_work 3 := ⟨_, _, _, _, fun w h => ⟨List.mem_append_left _ (gL_work_X3_work w h).1, (gL_work_X3_work w h).2⟩, rfl, by decide +kernel, by decide⟩
theorem lkL_work_13 : Cond.classLink RL 13 xIO ∈ wsL_work ++ ctN := List.mem_append_left _ (by decide +kernel)
theorem lkL_work_28 : Cond.classLink RL 28 xIS ∈ wsL_work ++ ctN := List.mem_append_left _ (by decide +kernel)
section HD
variable {l : Launch} {xp op : Nat} {w w1 : mj_W} {x0 x1 x2 x3 v : Int32} {fs : List Value}
theorem lh_append_0 {o : Nat → Int64} (hM : MC l yX3_append wsX3_append rmX3_append false [.ref xp, .int x0] w (some (.int v)) w1) (hx : w[xp]? = some (.inr (3, fs))) (ho : w1[op]? = some (.inl (.long, (1, .inr (.inl o))))) : MCE l yL_append wsL_append rmL_append ctN false [.ref xp, .int x0, .ref op] w (some (.int 0)) (w1.set op (.inl (.long, (1, .inr (.inl (vp_updL o 0 v.toInt64)))))) := by
  refine mj_MCEH (cc := cL_append) (nl := 4) (hh := [(0, 9, 12, 15), (0, 9, 15, 28)]) ctN_vm (by decide +kernel) rfl (Nat.le_of_ble_eq_true rfl) ?_
  show GG l cL_append ML_append false (.inl (some (.int 0), w1.set op (.inl (.long, (1, .inr (.inl (vp_updL o 0 v.toInt64))))))) 0 [some (.ref xp), some (.int x0), some (.ref op), none] [] w 0 0
  refine G_aload_n dL_append_0 rfl ?_
  refine G_iconst (v := 0) dL_append_1 (by decide) ?_
  refine G_aload_n dL_append_2 rfl ?_
  refine G_iload_n dL_append_3 rfl ?_
  refine G_callVi dL_append_4 kX3L_append ⟨rfl, rfl⟩ ⟨Nat.zero_le _, Nat.zero_le _⟩ hM rfl rfl hx rfl rfl ?_
  refine G_i2l dL_append_7 ?_
  refine G_last dL_append_8 ho (show vp_in (nI 0) 1 from vp_in_nI (by omega) (by omega)) rfl ?_
  refine G_goto 18 dL_append_9 (by decide) ?_
  refine G_iconst (v := 0) dL_append_18 (by decide) ?_
  exact G_iret dL_append_19 ⟨Nat.zero_le _, Nat.zero_le _⟩ rfl
theorem lh_append_1 (hM : MCX l yX3_append wsX3_append rmT3_append [.ref xp, .int x0] w xIA w1) (hx : w[xp]? = some (.inr (3, fs))) : MCE l yL_append wsL_append rmL_append ctN false [.ref xp, .int x0, .ref op] w (some (.int 1)) (w1) := by
  refine mj_MCEH (cc := cL_append) (nl := 4) (hh := [(0, 9, 12, 15), (0, 9, 15, 28)]) ctN_vm (by decide +kernel) rfl (Nat.le_of_ble_eq_true rfl) ?_
  show GG l cL_append ML_append false (.inl (some (.int 1), w1)) 0 [some (.ref xp), some (.int x0), some (.ref op), none] [] w 0 0
  refine G_aload_n dL_append_0 rfl ?_
  refine G_iconst (v := 0) dL_append_1 (by decide) ?_
  refine G_aload_n dL_append_2 rfl ?_
  refine G_iload_n dL_append_3 rfl ?_
  refine G_callVC (i := 3) (q2 := 13) dL_append_4 kT3L_append (by decide) hM rfl rfl hx rfl rfl (tb := tableOf [(0, 9, 12, 15), (0, 9, 15, 28)]) rfl [] ⟨0, 9, 12, 15⟩ [⟨0, 9, 15, 28⟩] rfl (fun _ h => absurd h List.not_mem_nil) ⟨rfl, by decide⟩ lkL_append_15 (List.mem_append_right _ (by decide +kernel)) (Or.inr ⟨_, dL_append_12, rfl, rfl⟩) rfl ?_
  refine G_iconst (v := 1) dL_append_13 (by decide) ?_
  exact G_iret dL_append_14 (by decide) rfl
theorem lh_append_2 (hM : MCX l yX3_append wsX3_append rmT3_append [.ref xp, .int x0] w xIS w1) (hx : w[xp]? = some (.inr (3, fs))) : MCE l yL_append wsL_append rmL_append ctN false [.ref xp, .int x0, .ref op] w (some (.int 2)) (w1) := by
  refine mj_MCEH (cc := cL_append) (nl := 4) (hh := [(0, 9, 12, 15), (0, 9, 15, 28)]) ctN_vm (by decide +kernel) rfl (Nat.le_of_ble_eq_true rfl) ?_
  show GG l cL_append ML_append false (.inl (some (.int 2), w1)) 0 [some (.ref xp), some (.int x0), some (.ref op), none] [] w 0 0
  refine G_aload_n dL_append_0 rfl ?_
  refine G_iconst (v := 0) dL_append_1 (by decide) ?_
  refine G_aload_n dL_append_2 rfl ?_
  refine G_iload_n dL_append_3 rfl ?_
  refine G_callVC (i := 3) (q2 := 16) dL_append_4 kT3L_append (by decide) hM rfl rfl hx rfl rfl (tb := tableOf [(0, 9, 12, 15), (0, 9, 15, 28)]) rfl [⟨0, 9, 12, 15⟩] ⟨0, 9, 15, 28⟩ [] rfl (List.forall_mem_cons.mpr ⟨⟨xIA, by decide, lkL_append_15, List.mem_append_right _ (by decide +kernel)⟩, (fun _ h => absurd h List.not_mem_nil)⟩) ⟨rfl, by decide⟩ lkL_append_28 (List.mem_append_right _ (by decide +kernel)) (Or.inr ⟨_, dL_append_15, rfl, rfl⟩) rfl ?_
  refine G_iconst (v := 2) dL_append_16 (by decide) ?_
  exact G_iret dL_append_17 (by decide) rfl
theorem lh_bankOf_0 {o : Nat → Int64} (hM : MC l yX3_bankOf wsX3_bankOf rmX3_bankOf false [.ref xp, .int x0, .int x1] w (some (.int v)) w1) (hx : w[xp]? = some (.inr (3, fs))) (ho : w1[op]? = some (.inl (.long, (1, .inr (.inl o))))) : MCE l yL_bankOf wsL_bankOf rmL_bankOf ctN false [.ref xp, .int x0, .int x1, .ref op] w (some (.int 0)) (w1.set op (.inl (.long, (1, .inr (.inl (vp_updL o 0 v.toInt64)))))) := by
  refine mj_MCEH (cc := cL_bankOf) (nl := 5) (hh := [(0, 10, 13, 13), (0, 10, 17, 15)]) ctN_vm (by decide +kernel) rfl (Nat.le_of_ble_eq_true rfl) ?_
  show GG l cL_bankOf ML_bankOf false (.inl (some (.int 0), w1.set op (.inl (.long, (1, .inr (.inl (vp_updL o 0 v.toInt64))))))) 0 [some (.ref xp), some (.int x0), some (.int x1), some (.ref op), none] [] w 0 0
  refine G_aload_n dL_bankOf_0 rfl ?_
  refine G_iconst (v := 0) dL_bankOf_1 (by decide) ?_
  refine G_aload_n dL_bankOf_2 rfl ?_
  refine G_iload_n dL_bankOf_3 rfl ?_
  refine G_iload_n dL_bankOf_4 rfl ?_
  refine G_callVi dL_bankOf_5 kX3L_bankOf ⟨rfl, rfl⟩ ⟨Nat.zero_le _, Nat.zero_le _⟩ hM rfl rfl hx rfl rfl ?_
  refine G_i2l dL_bankOf_8 ?_
  refine G_last dL_bankOf_9 ho (show vp_in (nI 0) 1 from vp_in_nI (by omega) (by omega)) rfl ?_
  refine G_goto 21 dL_bankOf_10 (by decide) ?_
  refine G_iconst (v := 0) dL_bankOf_21 (by decide) ?_
  exact G_iret dL_bankOf_22 ⟨Nat.zero_le _, Nat.zero_le _⟩ rfl
theorem lh_bankOf_1 (hM : MCX l yX3_bankOf wsX3_bankOf rmT3_bankOf [.ref xp, .int x0, .int x1] w xIO w1) (hx : w[xp]? = some (.inr (3, fs))) : MCE l yL_bankOf wsL_bankOf rmL_bankOf ctN false [.ref xp, .int x0, .int x1, .ref op] w (some (.int 1)) (w1) := by
  refine mj_MCEH (cc := cL_bankOf) (nl := 5) (hh := [(0, 10, 13, 13), (0, 10, 17, 15)]) ctN_vm (by decide +kernel) rfl (Nat.le_of_ble_eq_true rfl) ?_
  show GG l cL_bankOf ML_bankOf false (.inl (some (.int 1), w1)) 0 [some (.ref xp), some (.int x0), some (.int x1), some (.ref op), none] [] w 0 0
  refine G_aload_n dL_bankOf_0 rfl ?_
  refine G_iconst (v := 0) dL_bankOf_1 (by decide) ?_
  refine G_aload_n dL_bankOf_2 rfl ?_
  refine G_iload_n dL_bankOf_3 rfl ?_
  refine G_iload_n dL_bankOf_4 rfl ?_
  refine G_callVC (i := 4) (q2 := 15) dL_bankOf_5 kT3L_bankOf (by decide) hM rfl rfl hx rfl rfl (tb := tableOf [(0, 10, 13, 13), (0, 10, 17, 15)]) rfl [] ⟨0, 10, 13, 13⟩ [⟨0, 10, 17, 15⟩] rfl (fun _ h => absurd h List.not_mem_nil) ⟨rfl, by decide⟩ lkL_bankOf_13 (List.mem_append_right _ (by decide +kernel)) (Or.inl ⟨dL_bankOf_13, rfl⟩) rfl ?_
  refine G_iconst (v := 1) dL_bankOf_15 (by decide) ?_
  exact G_iret dL_bankOf_16 (by decide) rfl
theorem lh_bankOf_2 (hM : MCX l yX3_bankOf wsX3_bankOf rmT3_bankOf [.ref xp, .int x0, .int x1] w xIA w1) (hx : w[xp]? = some (.inr (3, fs))) : MCE l yL_bankOf wsL_bankOf rmL_bankOf ctN false [.ref xp, .int x0, .int x1, .ref op] w (some (.int 2)) (w1) := by
  refine mj_MCEH (cc := cL_bankOf) (nl := 5) (hh := [(0, 10, 13, 13), (0, 10, 17, 15)]) ctN_vm (by decide +kernel) rfl (Nat.le_of_ble_eq_true rfl) ?_
  show GG l cL_bankOf ML_bankOf false (.inl (some (.int 2), w1)) 0 [some (.ref xp), some (.int x0), some (.int x1), some (.ref op), none] [] w 0 0
  refine G_aload_n dL_bankOf_0 rfl ?_
  refine G_iconst (v := 0) dL_bankOf_1 (by decide) ?_
  refine G_aload_n dL_bankOf_2 rfl ?_
  refine G_iload_n dL_bankOf_3 rfl ?_
  refine G_iload_n dL_bankOf_4 rfl ?_
  refine G_callVC (i := 4) (q2 := 19) dL_bankOf_5 kT3L_bankOf (by decide) hM rfl rfl hx rfl rfl (tb := tableOf [(0, 10, 13, 13), (0, 10, 17, 15)]) rfl [⟨0, 10, 13, 13⟩] ⟨0, 10, 17, 15⟩ [] rfl (List.forall_mem_cons.mpr ⟨⟨xIO, by decide, lkL_bankOf_13, List.mem_append_right _ (by decide +kernel)⟩, (fun _ h => absurd h List.not_mem_nil)⟩) ⟨rfl, by decide⟩ lkL_bankOf_15 (List.mem_append_right _ (by decide +kernel)) (Or.inl ⟨dL_bankOf_17, rfl⟩) rfl ?_
  refine G_iconst (v := 2) dL_bankOf_19 (by decide) ?_
  exact G_iret dL_bankOf_20 (by decide) rfl
theorem lh_bestBank_0 {o : Nat → Int64} (hM : MC l yX3_bestBank wsX3_bestBank rmX3_bestBank false [.ref xp, .int x0, .int x1] w (some (.int v)) w1) (hx : w[xp]? = some (.inr (3, fs))) (ho : w1[op]? = some (.inl (.long, (1, .inr (.inl o))))) : MCE l yL_bestBank wsL_bestBank rmL_bestBank ctN false [.ref xp, .int x0, .int x1, .ref op] w (some (.int 0)) (w1.set op (.inl (.long, (1, .inr (.inl (vp_updL o 0 v.toInt64)))))) := by
  refine mj_MCEH (cc := cL_bestBank) (nl := 5) (hh := [(0, 10, 13, 13)]) ctN_vm (by decide +kernel) rfl (Nat.le_of_ble_eq_true rfl) ?_
  show GG l cL_bestBank ML_bestBank false (.inl (some (.int 0), w1.set op (.inl (.long, (1, .inr (.inl (vp_updL o 0 v.toInt64))))))) 0 [some (.ref xp), some (.int x0), some (.int x1), some (.ref op), none] [] w 0 0
  refine G_aload_n dL_bestBank_0 rfl ?_
  refine G_iconst (v := 0) dL_bestBank_1 (by decide) ?_
  refine G_aload_n dL_bestBank_2 rfl ?_
  refine G_iload_n dL_bestBank_3 rfl ?_
  refine G_iload_n dL_bestBank_4 rfl ?_
  refine G_callVi dL_bestBank_5 kX3L_bestBank ⟨rfl, rfl⟩ ⟨Nat.zero_le _, Nat.zero_le _⟩ hM rfl rfl hx rfl rfl ?_
  refine G_i2l dL_bestBank_8 ?_
  refine G_last dL_bestBank_9 ho (show vp_in (nI 0) 1 from vp_in_nI (by omega) (by omega)) rfl ?_
  refine G_goto 17 dL_bestBank_10 (by decide) ?_
  refine G_iconst (v := 0) dL_bestBank_17 (by decide) ?_
  exact G_iret dL_bestBank_18 ⟨Nat.zero_le _, Nat.zero_le _⟩ rfl
theorem lh_bestBank_1 (hM : MCX l yX3_bestBank wsX3_bestBank rmT3_bestBank [.ref xp, .int x0, .int x1] w xIO w1) (hx : w[xp]? = some (.inr (3, fs))) : MCE l yL_bestBank wsL_bestBank rmL_bestBank ctN false [.ref xp, .int x0, .int x1, .ref op] w (some (.int 1)) (w1) := by
  refine mj_MCEH (cc := cL_bestBank) (nl := 5) (hh := [(0, 10, 13, 13)]) ctN_vm (by decide +kernel) rfl (Nat.le_of_ble_eq_true rfl) ?_
  show GG l cL_bestBank ML_bestBank false (.inl (some (.int 1), w1)) 0 [some (.ref xp), some (.int x0), some (.int x1), some (.ref op), none] [] w 0 0
  refine G_aload_n dL_bestBank_0 rfl ?_
  refine G_iconst (v := 0) dL_bestBank_1 (by decide) ?_
  refine G_aload_n dL_bestBank_2 rfl ?_
  refine G_iload_n dL_bestBank_3 rfl ?_
  refine G_iload_n dL_bestBank_4 rfl ?_
  refine G_callVC (i := 4) (q2 := 15) dL_bestBank_5 kT3L_bestBank (by decide) hM rfl rfl hx rfl rfl (tb := tableOf [(0, 10, 13, 13)]) rfl [] ⟨0, 10, 13, 13⟩ [] rfl (fun _ h => absurd h List.not_mem_nil) ⟨rfl, by decide⟩ lkL_bestBank_13 (List.mem_append_right _ (by decide +kernel)) (Or.inl ⟨dL_bestBank_13, rfl⟩) rfl ?_
  refine G_iconst (v := 1) dL_bestBank_15 (by decide) ?_
  exact G_iret dL_bestBank_16 (by decide) rfl
theorem lh_count_0 {o : Nat → Int64} (hM : MC l yX3_count wsX3_count rmX3_count false [.ref xp, .int x0] w (some (.int v)) w1) (hx : w[xp]? = some (.inr (3, fs))) (ho : w1[op]? = some (.inl (.long, (1, .inr (.inl o))))) : MCE l yL_count wsL_count rmL_count ctN false [.ref xp, .int x0, .ref op] w (some (.int 0)) (w1.set op (.inl (.long, (1, .inr (.inl (vp_updL o 0 v.toInt64)))))) := by
  refine mj_MCEH (cc := cL_count) (nl := 4) (hh := [(0, 9, 12, 15)]) ctN_vm (by decide +kernel) rfl (Nat.le_of_ble_eq_true rfl) ?_
  show GG l cL_count ML_count false (.inl (some (.int 0), w1.set op (.inl (.long, (1, .inr (.inl (vp_updL o 0 v.toInt64))))))) 0 [some (.ref xp), some (.int x0), some (.ref op), none] [] w 0 0
  refine G_aload_n dL_count_0 rfl ?_
  refine G_iconst (v := 0) dL_count_1 (by decide) ?_
  refine G_aload_n dL_count_2 rfl ?_
  refine G_iload_n dL_count_3 rfl ?_
  refine G_callVi dL_count_4 kX3L_count ⟨rfl, rfl⟩ ⟨Nat.zero_le _, Nat.zero_le _⟩ hM rfl rfl hx rfl rfl ?_
  refine G_i2l dL_count_7 ?_
  refine G_last dL_count_8 ho (show vp_in (nI 0) 1 from vp_in_nI (by omega) (by omega)) rfl ?_
  refine G_goto 15 dL_count_9 (by decide) ?_
  refine G_iconst (v := 0) dL_count_15 (by decide) ?_
  exact G_iret dL_count_16 ⟨Nat.zero_le _, Nat.zero_le _⟩ rfl
theorem lh_count_1 (hM : MCX l yX3_count wsX3_count rmT3_count [.ref xp, .int x0] w xIA w1) (hx : w[xp]? = some (.inr (3, fs))) : MCE l yL_count wsL_count rmL_count ctN false [.ref xp, .int x0, .ref op] w (some (.int 1)) (w1) := by
  refine mj_MCEH (cc := cL_count) (nl := 4) (hh := [(0, 9, 12, 15)]) ctN_vm (by decide +kernel) rfl (Nat.le_of_ble_eq_true rfl) ?_
  show GG l cL_count ML_count false (.inl (some (.int 1), w1)) 0 [some (.ref xp), some (.int x0), some (.ref op), none] [] w 0 0
  refine G_aload_n dL_count_0 rfl ?_
  refine G_iconst (v := 0) dL_count_1 (by decide) ?_
  refine G_aload_n dL_count_2 rfl ?_
  refine G_iload_n dL_count_3 rfl ?_
  refine G_callVC (i := 3) (q2 := 13) dL_count_4 kT3L_count (by decide) hM rfl rfl hx rfl rfl (tb := tableOf [(0, 9, 12, 15)]) rfl [] ⟨0, 9, 12, 15⟩ [] rfl (fun _ h => absurd h List.not_mem_nil) ⟨rfl, by decide⟩ lkL_count_15 (List.mem_append_right _ (by decide +kernel)) (Or.inr ⟨_, dL_count_12, rfl, rfl⟩) rfl ?_
  refine G_iconst (v := 1) dL_count_13 (by decide) ?_
  exact G_iret dL_count_14 (by decide) rfl
theorem lh_cutter_0 {o : Nat → Int64} (hM : MC l yX3_cutter wsX3_cutter rmX3_cutter false [.ref xp, .int x0, .int x1] w (some (.int v)) w1) (hx : w[xp]? = some (.inr (3, fs))) (ho : w1[op]? = some (.inl (.long, (1, .inr (.inl o))))) : MCE l yL_cutter wsL_cutter rmL_cutter ctN false [.ref xp, .int x0, .int x1, .ref op] w (some (.int 0)) (w1.set op (.inl (.long, (1, .inr (.inl (vp_updL o 0 v.toInt64)))))) := by
  refine mj_MCEH (cc := cL_cutter) (nl := 5) (hh := [(0, 10, 13, 13), (0, 10, 17, 15)]) ctN_vm (by decide +kernel) rfl (Nat.le_of_ble_eq_true rfl) ?_
  show GG l cL_cutter ML_cutter false (.inl (some (.int 0), w1.set op (.inl (.long, (1, .inr (.inl (vp_updL o 0 v.toInt64))))))) 0 [some (.ref xp), some (.int x0), some (.int x1), some (.ref op), none] [] w 0 0
  refine G_aload_n dL_cutter_0 rfl ?_
  refine G_iconst (v := 0) dL_cutter_1 (by decide) ?_
  refine G_aload_n dL_cutter_2 rfl ?_
  refine G_iload_n dL_cutter_3 rfl ?_
  refine G_iload_n dL_cutter_4 rfl ?_
  refine G_callVi dL_cutter_5 kX3L_cutter ⟨rfl, rfl⟩ ⟨Nat.zero_le _, Nat.zero_le _⟩ hM rfl rfl hx rfl rfl ?_
  refine G_i2l dL_cutter_8 ?_
  refine G_last dL_cutter_9 ho (show vp_in (nI 0) 1 from vp_in_nI (by omega) (by omega)) rfl ?_
  refine G_goto 21 dL_cutter_10 (by decide) ?_
  refine G_iconst (v := 0) dL_cutter_21 (by decide) ?_
  exact G_iret dL_cutter_22 ⟨Nat.zero_le _, Nat.zero_le _⟩ rfl
theorem lh_cutter_1 (hM : MCX l yX3_cutter wsX3_cutter rmT3_cutter [.ref xp, .int x0, .int x1] w xIO w1) (hx : w[xp]? = some (.inr (3, fs))) : MCE l yL_cutter wsL_cutter rmL_cutter ctN false [.ref xp, .int x0, .int x1, .ref op] w (some (.int 1)) (w1) := by
  refine mj_MCEH (cc := cL_cutter) (nl := 5) (hh := [(0, 10, 13, 13), (0, 10, 17, 15)]) ctN_vm (by decide +kernel) rfl (Nat.le_of_ble_eq_true rfl) ?_
  show GG l cL_cutter ML_cutter false (.inl (some (.int 1), w1)) 0 [some (.ref xp), some (.int x0), some (.int x1), some (.ref op), none] [] w 0 0
  refine G_aload_n dL_cutter_0 rfl ?_
  refine G_iconst (v := 0) dL_cutter_1 (by decide) ?_
  refine G_aload_n dL_cutter_2 rfl ?_
  refine G_iload_n dL_cutter_3 rfl ?_
  refine G_iload_n dL_cutter_4 rfl ?_
  refine G_callVC (i := 4) (q2 := 15) dL_cutter_5 kT3L_cutter (by decide) hM rfl rfl hx rfl rfl (tb := tableOf [(0, 10, 13, 13), (0, 10, 17, 15)]) rfl [] ⟨0, 10, 13, 13⟩ [⟨0, 10, 17, 15⟩] rfl (fun _ h => absurd h List.not_mem_nil) ⟨rfl, by decide⟩ lkL_cutter_13 (List.mem_append_right _ (by decide +kernel)) (Or.inl ⟨dL_cutter_13, rfl⟩) rfl ?_
  refine G_iconst (v := 1) dL_cutter_15 (by decide) ?_
  exact G_iret dL_cutter_16 (by decide) rfl
theorem lh_cutter_2 (hM : MCX l yX3_cutter wsX3_cutter rmT3_cutter [.ref xp, .int x0, .int x1] w xIA w1) (hx : w[xp]? = some (.inr (3, fs))) : MCE l yL_cutter wsL_cutter rmL_cutter ctN false [.ref xp, .int x0, .int x1, .ref op] w (some (.int 2)) (w1) := by
  refine mj_MCEH (cc := cL_cutter) (nl := 5) (hh := [(0, 10, 13, 13), (0, 10, 17, 15)]) ctN_vm (by decide +kernel) rfl (Nat.le_of_ble_eq_true rfl) ?_
  show GG l cL_cutter ML_cutter false (.inl (some (.int 2), w1)) 0 [some (.ref xp), some (.int x0), some (.int x1), some (.ref op), none] [] w 0 0
  refine G_aload_n dL_cutter_0 rfl ?_
  refine G_iconst (v := 0) dL_cutter_1 (by decide) ?_
  refine G_aload_n dL_cutter_2 rfl ?_
  refine G_iload_n dL_cutter_3 rfl ?_
  refine G_iload_n dL_cutter_4 rfl ?_
  refine G_callVC (i := 4) (q2 := 19) dL_cutter_5 kT3L_cutter (by decide) hM rfl rfl hx rfl rfl (tb := tableOf [(0, 10, 13, 13), (0, 10, 17, 15)]) rfl [⟨0, 10, 13, 13⟩] ⟨0, 10, 17, 15⟩ [] rfl (List.forall_mem_cons.mpr ⟨⟨xIO, by decide, lkL_cutter_13, List.mem_append_right _ (by decide +kernel)⟩, (fun _ h => absurd h List.not_mem_nil)⟩) ⟨rfl, by decide⟩ lkL_cutter_15 (List.mem_append_right _ (by decide +kernel)) (Or.inl ⟨dL_cutter_17, rfl⟩) rfl ?_
  refine G_iconst (v := 2) dL_cutter_19 (by decide) ?_
  exact G_iret dL_cutter_20 (by decide) rfl
theorem lh_enoughIn_0 {o : Nat → Int64} (hM : MC l yX3_enoughIn wsX3_enoughIn rmX3_enoughIn false [.ref xp, .int x0] w (some (.int v)) w1) (hx : w[xp]? = some (.inr (3, fs))) (ho : w1[op]? = some (.inl (.long, (1, .inr (.inl o))))) : MCE l yL_enoughIn wsL_enoughIn rmL_enoughIn ctN false [.ref xp, .int x0, .ref op] w (some (.int 0)) (w1.set op (.inl (.long, (1, .inr (.inl (vp_updL o 0 v.toInt64)))))) := by
  refine mj_MCEH (cc := cL_enoughIn) (nl := 4) (hh := [(0, 9, 12, 13)]) ctN_vm (by decide +kernel) rfl (Nat.le_of_ble_eq_true rfl) ?_
  show GG l cL_enoughIn ML_enoughIn false (.inl (some (.int 0), w1.set op (.inl (.long, (1, .inr (.inl (vp_updL o 0 v.toInt64))))))) 0 [some (.ref xp), some (.int x0), some (.ref op), none] [] w 0 0
  refine G_aload_n dL_enoughIn_0 rfl ?_
  refine G_iconst (v := 0) dL_enoughIn_1 (by decide) ?_
  refine G_aload_n dL_enoughIn_2 rfl ?_
  refine G_iload_n dL_enoughIn_3 rfl ?_
  refine G_callVi dL_enoughIn_4 kX3L_enoughIn ⟨rfl, rfl⟩ ⟨Nat.zero_le _, Nat.zero_le _⟩ hM rfl rfl hx rfl rfl ?_
  refine G_i2l dL_enoughIn_7 ?_
  refine G_last dL_enoughIn_8 ho (show vp_in (nI 0) 1 from vp_in_nI (by omega) (by omega)) rfl ?_
  refine G_goto 15 dL_enoughIn_9 (by decide) ?_
  refine G_iconst (v := 0) dL_enoughIn_15 (by decide) ?_
  exact G_iret dL_enoughIn_16 ⟨Nat.zero_le _, Nat.zero_le _⟩ rfl
theorem lh_enoughIn_1 (hM : MCX l yX3_enoughIn wsX3_enoughIn rmT3_enoughIn [.ref xp, .int x0] w xIO w1) (hx : w[xp]? = some (.inr (3, fs))) : MCE l yL_enoughIn wsL_enoughIn rmL_enoughIn ctN false [.ref xp, .int x0, .ref op] w (some (.int 1)) (w1) := by
  refine mj_MCEH (cc := cL_enoughIn) (nl := 4) (hh := [(0, 9, 12, 13)]) ctN_vm (by decide +kernel) rfl (Nat.le_of_ble_eq_true rfl) ?_
  show GG l cL_enoughIn ML_enoughIn false (.inl (some (.int 1), w1)) 0 [some (.ref xp), some (.int x0), some (.ref op), none] [] w 0 0
  refine G_aload_n dL_enoughIn_0 rfl ?_
  refine G_iconst (v := 0) dL_enoughIn_1 (by decide) ?_
  refine G_aload_n dL_enoughIn_2 rfl ?_
  refine G_iload_n dL_enoughIn_3 rfl ?_
  refine G_callVC (i := 3) (q2 := 13) dL_enoughIn_4 kT3L_enoughIn (by decide) hM rfl rfl hx rfl rfl (tb := tableOf [(0, 9, 12, 13)]) rfl [] ⟨0, 9, 12, 13⟩ [] rfl (fun _ h => absurd h List.not_mem_nil) ⟨rfl, by decide⟩ lkL_enoughIn_13 (List.mem_append_right _ (by decide +kernel)) (Or.inr ⟨_, dL_enoughIn_12, rfl, rfl⟩) rfl ?_
  refine G_iconst (v := 1) dL_enoughIn_13 (by decide) ?_
  exact G_iret dL_enoughIn_14 (by decide) rfl
theorem lh_give_0 {o : Nat → Int64} (hM : MC l yX3_give wsX3_give rmX3_give false [.ref xp, .int x0, .int x1, .int x2, .int x3] w (some (.int v)) w1) (hx : w[xp]? = some (.inr (3, fs))) (ho : w1[op]? = some (.inl (.long, (1, .inr (.inl o))))) : MCE l yL_give wsL_give rmL_give ctN false [.ref xp, .int x0, .int x1, .int x2, .int x3, .ref op] w (some (.int 0)) (w1.set op (.inl (.long, (1, .inr (.inl (vp_updL o 0 v.toInt64)))))) := by
  refine mj_MCEH (cc := cL_give) (nl := 7) (hh := [(0, 14, 17, 13), (0, 14, 21, 15), (0, 14, 25, 28)]) ctN_vm (by decide +kernel) rfl (Nat.le_of_ble_eq_true rfl) ?_
  show GG l cL_give ML_give false (.inl (some (.int 0), w1.set op (.inl (.long, (1, .inr (.inl (vp_updL o 0 v.toInt64))))))) 0 [some (.ref xp), some (.int x0), some (.int x1), some (.int x2), some (.int x3), some (.ref op), none] [] w 0 0
  refine G_aload dL_give_0 rfl ?_
  refine G_iconst (v := 0) dL_give_2 (by decide) ?_
  refine G_aload_n dL_give_3 rfl ?_
  refine G_iload_n dL_give_4 rfl ?_
  refine G_iload_n dL_give_5 rfl ?_
  refine G_iload_n dL_give_6 rfl ?_
  refine G_iload dL_give_7 rfl ?_
  refine G_callVi dL_give_9 kX3L_give ⟨rfl, rfl⟩ ⟨Nat.zero_le _, Nat.zero_le _⟩ hM rfl rfl hx rfl rfl ?_
  refine G_i2l dL_give_12 ?_
  refine G_last dL_give_13 ho (show vp_in (nI 0) 1 from vp_in_nI (by omega) (by omega)) rfl ?_
  refine G_goto 29 dL_give_14 (by decide) ?_
  refine G_iconst (v := 0) dL_give_29 (by decide) ?_
  exact G_iret dL_give_30 ⟨Nat.zero_le _, Nat.zero_le _⟩ rfl
theorem lh_give_1 (hM : MCX l yX3_give wsX3_give rmT3_give [.ref xp, .int x0, .int x1, .int x2, .int x3] w xIO w1) (hx : w[xp]? = some (.inr (3, fs))) : MCE l yL_give wsL_give rmL_give ctN false [.ref xp, .int x0, .int x1, .int x2, .int x3, .ref op] w (some (.int 1)) (w1) := by
  refine mj_MCEH (cc := cL_give) (nl := 7) (hh := [(0, 14, 17, 13), (0, 14, 21, 15), (0, 14, 25, 28)]) ctN_vm (by decide +kernel) rfl (Nat.le_of_ble_eq_true rfl) ?_
  show GG l cL_give ML_give false (.inl (some (.int 1), w1)) 0 [some (.ref xp), some (.int x0), some (.int x1), some (.int x2), some (.int x3), some (.ref op), none] [] w 0 0
  refine G_aload dL_give_0 rfl ?_
  refine G_iconst (v := 0) dL_give_2 (by decide) ?_
  refine G_aload_n dL_give_3 rfl ?_
  refine G_iload_n dL_give_4 rfl ?_
  refine G_iload_n dL_give_5 rfl ?_
  refine G_iload_n dL_give_6 rfl ?_
  refine G_iload dL_give_7 rfl ?_
  refine G_callVC (i := 6) (q2 := 19) dL_give_9 kT3L_give (by decide) hM rfl rfl hx rfl rfl (tb := tableOf [(0, 14, 17, 13), (0, 14, 21, 15), (0, 14, 25, 28)]) rfl [] ⟨0, 14, 17, 13⟩ [⟨0, 14, 21, 15⟩, ⟨0, 14, 25, 28⟩] rfl (fun _ h => absurd h List.not_mem_nil) ⟨rfl, by decide⟩ lkL_give_13 (List.mem_append_right _ (by decide +kernel)) (Or.inl ⟨dL_give_17, rfl⟩) rfl ?_
  refine G_iconst (v := 1) dL_give_19 (by decide) ?_
  exact G_iret dL_give_20 (by decide) rfl
theorem lh_give_2 (hM : MCX l yX3_give wsX3_give rmT3_give [.ref xp, .int x0, .int x1, .int x2, .int x3] w xIA w1) (hx : w[xp]? = some (.inr (3, fs))) : MCE l yL_give wsL_give rmL_give ctN false [.ref xp, .int x0, .int x1, .int x2, .int x3, .ref op] w (some (.int 2)) (w1) := by
  refine mj_MCEH (cc := cL_give) (nl := 7) (hh := [(0, 14, 17, 13), (0, 14, 21, 15), (0, 14, 25, 28)]) ctN_vm (by decide +kernel) rfl (Nat.le_of_ble_eq_true rfl) ?_
  show GG l cL_give ML_give false (.inl (some (.int 2), w1)) 0 [some (.ref xp), some (.int x0), some (.int x1), some (.int x2), some (.int x3), some (.ref op), none] [] w 0 0
  refine G_aload dL_give_0 rfl ?_
  refine G_iconst (v := 0) dL_give_2 (by decide) ?_
  refine G_aload_n dL_give_3 rfl ?_
  refine G_iload_n dL_give_4 rfl ?_
  refine G_iload_n dL_give_5 rfl ?_
  refine G_iload_n dL_give_6 rfl ?_
  refine G_iload dL_give_7 rfl ?_
  refine G_callVC (i := 6) (q2 := 23) dL_give_9 kT3L_give (by decide) hM rfl rfl hx rfl rfl (tb := tableOf [(0, 14, 17, 13), (0, 14, 21, 15), (0, 14, 25, 28)]) rfl [⟨0, 14, 17, 13⟩] ⟨0, 14, 21, 15⟩ [⟨0, 14, 25, 28⟩] rfl (List.forall_mem_cons.mpr ⟨⟨xIO, by decide, lkL_give_13, List.mem_append_right _ (by decide +kernel)⟩, (fun _ h => absurd h List.not_mem_nil)⟩) ⟨rfl, by decide⟩ lkL_give_15 (List.mem_append_right _ (by decide +kernel)) (Or.inl ⟨dL_give_21, rfl⟩) rfl ?_
  refine G_iconst (v := 2) dL_give_23 (by decide) ?_
  exact G_iret dL_give_24 (by decide) rfl
theorem lh_give_3 (hM : MCX l yX3_give wsX3_give rmT3_give [.ref xp, .int x0, .int x1, .int x2, .int x3] w xIS w1) (hx : w[xp]? = some (.inr (3, fs))) : MCE l yL_give wsL_give rmL_give ctN false [.ref xp, .int x0, .int x1, .int x2, .int x3, .ref op] w (some (.int 3)) (w1) := by
  refine mj_MCEH (cc := cL_give) (nl := 7) (hh := [(0, 14, 17, 13), (0, 14, 21, 15), (0, 14, 25, 28)]) ctN_vm (by decide +kernel) rfl (Nat.le_of_ble_eq_true rfl) ?_
  show GG l cL_give ML_give false (.inl (some (.int 3), w1)) 0 [some (.ref xp), some (.int x0), some (.int x1), some (.int x2), some (.int x3), some (.ref op), none] [] w 0 0
  refine G_aload dL_give_0 rfl ?_
  refine G_iconst (v := 0) dL_give_2 (by decide) ?_
  refine G_aload_n dL_give_3 rfl ?_
  refine G_iload_n dL_give_4 rfl ?_
  refine G_iload_n dL_give_5 rfl ?_
  refine G_iload_n dL_give_6 rfl ?_
  refine G_iload dL_give_7 rfl ?_
  refine G_callVC (i := 6) (q2 := 27) dL_give_9 kT3L_give (by decide) hM rfl rfl hx rfl rfl (tb := tableOf [(0, 14, 17, 13), (0, 14, 21, 15), (0, 14, 25, 28)]) rfl [⟨0, 14, 17, 13⟩, ⟨0, 14, 21, 15⟩] ⟨0, 14, 25, 28⟩ [] rfl (List.forall_mem_cons.mpr ⟨⟨xIO, by decide, lkL_give_13, List.mem_append_right _ (by decide +kernel)⟩, (List.forall_mem_cons.mpr ⟨⟨xIA, by decide, lkL_give_15, List.mem_append_right _ (by decide +kernel)⟩, (fun _ h => absurd h List.not_mem_nil)⟩)⟩) ⟨rfl, by decide⟩ lkL_give_28 (List.mem_append_right _ (by decide +kernel)) (Or.inl ⟨dL_give_25, rfl⟩) rfl ?_
  refine G_iconst (v := 3) dL_give_27 (by decide) ?_
  exact G_iret dL_give_28 (by decide) rfl
theorem lh_hearth_0 {o : Nat → Int64} (hM : MC l yX3_hearth wsX3_hearth rmX3_hearth false [.ref xp, .int x0, .int x1, .int x2] w (some (.int v)) w1) (hx : w[xp]? = some (.inr (3, fs))) (ho : w1[op]? = some (.inl (.long, (1, .inr (.inl o))))) : MCE l yL_hearth wsL_hearth rmL_hearth ctN false [.ref xp, .int x0, .int x1, .int x2, .ref op] w (some (.int 0)) (w1.set op (.inl (.long, (1, .inr (.inl (vp_updL o 0 v.toInt64)))))) := by
  refine mj_MCEH (cc := cL_hearth) (nl := 6) (hh := [(0, 12, 15, 13), (0, 12, 19, 15)]) ctN_vm (by decide +kernel) rfl (Nat.le_of_ble_eq_true rfl) ?_
  show GG l cL_hearth ML_hearth false (.inl (some (.int 0), w1.set op (.inl (.long, (1, .inr (.inl (vp_updL o 0 v.toInt64))))))) 0 [some (.ref xp), some (.int x0), some (.int x1), some (.int x2), some (.ref op), none] [] w 0 0
  refine G_aload dL_hearth_0 rfl ?_
  refine G_iconst (v := 0) dL_hearth_2 (by decide) ?_
  refine G_aload_n dL_hearth_3 rfl ?_
  refine G_iload_n dL_hearth_4 rfl ?_
  refine G_iload_n dL_hearth_5 rfl ?_
  refine G_iload_n dL_hearth_6 rfl ?_
  refine G_callVi dL_hearth_7 kX3L_hearth ⟨rfl, rfl⟩ ⟨Nat.zero_le _, Nat.zero_le _⟩ hM rfl rfl hx rfl rfl ?_
  refine G_i2l dL_hearth_10 ?_
  refine G_last dL_hearth_11 ho (show vp_in (nI 0) 1 from vp_in_nI (by omega) (by omega)) rfl ?_
  refine G_goto 23 dL_hearth_12 (by decide) ?_
  refine G_iconst (v := 0) dL_hearth_23 (by decide) ?_
  exact G_iret dL_hearth_24 ⟨Nat.zero_le _, Nat.zero_le _⟩ rfl
theorem lh_hearth_1 (hM : MCX l yX3_hearth wsX3_hearth rmT3_hearth [.ref xp, .int x0, .int x1, .int x2] w xIO w1) (hx : w[xp]? = some (.inr (3, fs))) : MCE l yL_hearth wsL_hearth rmL_hearth ctN false [.ref xp, .int x0, .int x1, .int x2, .ref op] w (some (.int 1)) (w1) := by
  refine mj_MCEH (cc := cL_hearth) (nl := 6) (hh := [(0, 12, 15, 13), (0, 12, 19, 15)]) ctN_vm (by decide +kernel) rfl (Nat.le_of_ble_eq_true rfl) ?_
  show GG l cL_hearth ML_hearth false (.inl (some (.int 1), w1)) 0 [some (.ref xp), some (.int x0), some (.int x1), some (.int x2), some (.ref op), none] [] w 0 0
  refine G_aload dL_hearth_0 rfl ?_
  refine G_iconst (v := 0) dL_hearth_2 (by decide) ?_
  refine G_aload_n dL_hearth_3 rfl ?_
  refine G_iload_n dL_hearth_4 rfl ?_
  refine G_iload_n dL_hearth_5 rfl ?_
  refine G_iload_n dL_hearth_6 rfl ?_
  refine G_callVC (i := 5) (q2 := 17) dL_hearth_7 kT3L_hearth (by decide) hM rfl rfl hx rfl rfl (tb := tableOf [(0, 12, 15, 13), (0, 12, 19, 15)]) rfl [] ⟨0, 12, 15, 13⟩ [⟨0, 12, 19, 15⟩] rfl (fun _ h => absurd h List.not_mem_nil) ⟨rfl, by decide⟩ lkL_hearth_13 (List.mem_append_right _ (by decide +kernel)) (Or.inl ⟨dL_hearth_15, rfl⟩) rfl ?_
  refine G_iconst (v := 1) dL_hearth_17 (by decide) ?_
  exact G_iret dL_hearth_18 (by decide) rfl
theorem lh_hearth_2 (hM : MCX l yX3_hearth wsX3_hearth rmT3_hearth [.ref xp, .int x0, .int x1, .int x2] w xIA w1) (hx : w[xp]? = some (.inr (3, fs))) : MCE l yL_hearth wsL_hearth rmL_hearth ctN false [.ref xp, .int x0, .int x1, .int x2, .ref op] w (some (.int 2)) (w1) := by
  refine mj_MCEH (cc := cL_hearth) (nl := 6) (hh := [(0, 12, 15, 13), (0, 12, 19, 15)]) ctN_vm (by decide +kernel) rfl (Nat.le_of_ble_eq_true rfl) ?_
  show GG l cL_hearth ML_hearth false (.inl (some (.int 2), w1)) 0 [some (.ref xp), some (.int x0), some (.int x1), some (.int x2), some (.ref op), none] [] w 0 0
  refine G_aload dL_hearth_0 rfl ?_
  refine G_iconst (v := 0) dL_hearth_2 (by decide) ?_
  refine G_aload_n dL_hearth_3 rfl ?_
  refine G_iload_n dL_hearth_4 rfl ?_
  refine G_iload_n dL_hearth_5 rfl ?_
  refine G_iload_n dL_hearth_6 rfl ?_
  refine G_callVC (i := 5) (q2 := 21) dL_hearth_7 kT3L_hearth (by decide) hM rfl rfl hx rfl rfl (tb := tableOf [(0, 12, 15, 13), (0, 12, 19, 15)]) rfl [⟨0, 12, 15, 13⟩] ⟨0, 12, 19, 15⟩ [] rfl (List.forall_mem_cons.mpr ⟨⟨xIO, by decide, lkL_hearth_13, List.mem_append_right _ (by decide +kernel)⟩, (fun _ h => absurd h List.not_mem_nil)⟩) ⟨rfl, by decide⟩ lkL_hearth_15 (List.mem_append_right _ (by decide +kernel)) (Or.inl ⟨dL_hearth_19, rfl⟩) rfl ?_
  refine G_iconst (v := 2) dL_hearth_21 (by decide) ?_
  exact G_iret dL_hearth_22 (by decide) rfl
theorem lh_hearthOf_0 {o : Nat → Int64} (hM : MC l yX3_hearthOf wsX3_hearthOf rmX3_hearthOf false [.ref xp, .int x0, .int x1] w (some (.int v)) w1) (hx : w[xp]? = some (.inr (3, fs))) (ho : w1[op]? = some (.inl (.long, (1, .inr (.inl o))))) : MCE l yL_hearthOf wsL_hearthOf rmL_hearthOf ctN false [.ref xp, .int x0, .int x1, .ref op] w (some (.int 0)) (w1.set op (.inl (.long, (1, .inr (.inl (vp_updL o 0 v.toInt64)))))) := by
  refine mj_MCEH (cc := cL_hearthOf) (nl := 5) (hh := [(0, 10, 13, 13), (0, 10, 17, 15)]) ctN_vm (by decide +kernel) rfl (Nat.le_of_ble_eq_true rfl) ?_
  show GG l cL_hearthOf ML_hearthOf false (.inl (some (.int 0), w1.set op (.inl (.long, (1, .inr (.inl (vp_updL o 0 v.toInt64))))))) 0 [some (.ref xp), some (.int x0), some (.int x1), some (.ref op), none] [] w 0 0
  refine G_aload_n dL_hearthOf_0 rfl ?_
  refine G_iconst (v := 0) dL_hearthOf_1 (by decide) ?_
  refine G_aload_n dL_hearthOf_2 rfl ?_
  refine G_iload_n dL_hearthOf_3 rfl ?_
  refine G_iload_n dL_hearthOf_4 rfl ?_
  refine G_callVi dL_hearthOf_5 kX3L_hearthOf ⟨rfl, rfl⟩ ⟨Nat.zero_le _, Nat.zero_le _⟩ hM rfl rfl hx rfl rfl ?_
  refine G_i2l dL_hearthOf_8 ?_
  refine G_last dL_hearthOf_9 ho (show vp_in (nI 0) 1 from vp_in_nI (by omega) (by omega)) rfl ?_
  refine G_goto 21 dL_hearthOf_10 (by decide) ?_
  refine G_iconst (v := 0) dL_hearthOf_21 (by decide) ?_
  exact G_iret dL_hearthOf_22 ⟨Nat.zero_le _, Nat.zero_le _⟩ rfl
theorem lh_hearthOf_1 (hM : MCX l yX3_hearthOf wsX3_hearthOf rmT3_hearthOf [.ref xp, .int x0, .int x1] w xIO w1) (hx : w[xp]? = some (.inr (3, fs))) : MCE l yL_hearthOf wsL_hearthOf rmL_hearthOf ctN false [.ref xp, .int x0, .int x1, .ref op] w (some (.int 1)) (w1) := by
  refine mj_MCEH (cc := cL_hearthOf) (nl := 5) (hh := [(0, 10, 13, 13), (0, 10, 17, 15)]) ctN_vm (by decide +kernel) rfl (Nat.le_of_ble_eq_true rfl) ?_
  show GG l cL_hearthOf ML_hearthOf false (.inl (some (.int 1), w1)) 0 [some (.ref xp), some (.int x0), some (.int x1), some (.ref op), none] [] w 0 0
  refine G_aload_n dL_hearthOf_0 rfl ?_
  refine G_iconst (v := 0) dL_hearthOf_1 (by decide) ?_
  refine G_aload_n dL_hearthOf_2 rfl ?_
  refine G_iload_n dL_hearthOf_3 rfl ?_
  refine G_iload_n dL_hearthOf_4 rfl ?_
  refine G_callVC (i := 4) (q2 := 15) dL_hearthOf_5 kT3L_hearthOf (by decide) hM rfl rfl hx rfl rfl (tb := tableOf [(0, 10, 13, 13), (0, 10, 17, 15)]) rfl [] ⟨0, 10, 13, 13⟩ [⟨0, 10, 17, 15⟩] rfl (fun _ h => absurd h List.not_mem_nil) ⟨rfl, by decide⟩ lkL_hearthOf_13 (List.mem_append_right _ (by decide +kernel)) (Or.inl ⟨dL_hearthOf_13, rfl⟩) rfl ?_
  refine G_iconst (v := 1) dL_hearthOf_15 (by decide) ?_
  exact G_iret dL_hearthOf_16 (by decide) rfl
theorem lh_hearthOf_2 (hM : MCX l yX3_hearthOf wsX3_hearthOf rmT3_hearthOf [.ref xp, .int x0, .int x1] w xIA w1) (hx : w[xp]? = some (.inr (3, fs))) : MCE l yL_hearthOf wsL_hearthOf rmL_hearthOf ctN false [.ref xp, .int x0, .int x1, .ref op] w (some (.int 2)) (w1) := by
  refine mj_MCEH (cc := cL_hearthOf) (nl := 5) (hh := [(0, 10, 13, 13), (0, 10, 17, 15)]) ctN_vm (by decide +kernel) rfl (Nat.le_of_ble_eq_true rfl) ?_
  show GG l cL_hearthOf ML_hearthOf false (.inl (some (.int 2), w1)) 0 [some (.ref xp), some (.int x0), some (.int x1), some (.ref op), none] [] w 0 0
  refine G_aload_n dL_hearthOf_0 rfl ?_
  refine G_iconst (v := 0) dL_hearthOf_1 (by decide) ?_
  refine G_aload_n dL_hearthOf_2 rfl ?_
  refine G_iload_n dL_hearthOf_3 rfl ?_
  refine G_iload_n dL_hearthOf_4 rfl ?_
  refine G_callVC (i := 4) (q2 := 19) dL_hearthOf_5 kT3L_hearthOf (by decide) hM rfl rfl hx rfl rfl (tb := tableOf [(0, 10, 13, 13), (0, 10, 17, 15)]) rfl [⟨0, 10, 13, 13⟩] ⟨0, 10, 17, 15⟩ [] rfl (List.forall_mem_cons.mpr ⟨⟨xIO, by decide, lkL_hearthOf_13, List.mem_append_right _ (by decide +kernel)⟩, (fun _ h => absurd h List.not_mem_nil)⟩) ⟨rfl, by decide⟩ lkL_hearthOf_15 (List.mem_append_right _ (by decide +kernel)) (Or.inl ⟨dL_hearthOf_17, rfl⟩) rfl ?_
  refine G_iconst (v := 2) dL_hearthOf_19 (by decide) ?_
  exact G_iret dL_hearthOf_20 (by decide) rfl
theorem lh_ifPassed_0 {o : Nat → Int64} (hM : MC l yX3_ifPassed wsX3_ifPassed rmX3_ifPassed false [.ref xp, .int x0, .int x1] w (some (.int v)) w1) (hx : w[xp]? = some (.inr (3, fs))) (ho : w1[op]? = some (.inl (.long, (1, .inr (.inl o))))) : MCE l yL_ifPassed wsL_ifPassed rmL_ifPassed ctN false [.ref xp, .int x0, .int x1, .ref op] w (some (.int 0)) (w1.set op (.inl (.long, (1, .inr (.inl (vp_updL o 0 v.toInt64)))))) := by
  refine mj_MCEH (cc := cL_ifPassed) (nl := 5) (hh := [(0, 10, 13, 15)]) ctN_vm (by decide +kernel) rfl (Nat.le_of_ble_eq_true rfl) ?_
  show GG l cL_ifPassed ML_ifPassed false (.inl (some (.int 0), w1.set op (.inl (.long, (1, .inr (.inl (vp_updL o 0 v.toInt64))))))) 0 [some (.ref xp), some (.int x0), some (.int x1), some (.ref op), none] [] w 0 0
  refine G_aload_n dL_ifPassed_0 rfl ?_
  refine G_iconst (v := 0) dL_ifPassed_1 (by decide) ?_
  refine G_aload_n dL_ifPassed_2 rfl ?_
  refine G_iload_n dL_ifPassed_3 rfl ?_
  refine G_iload_n dL_ifPassed_4 rfl ?_
  refine G_callVi dL_ifPassed_5 kX3L_ifPassed ⟨rfl, rfl⟩ ⟨Nat.zero_le _, Nat.zero_le _⟩ hM rfl rfl hx rfl rfl ?_
  refine G_i2l dL_ifPassed_8 ?_
  refine G_last dL_ifPassed_9 ho (show vp_in (nI 0) 1 from vp_in_nI (by omega) (by omega)) rfl ?_
  refine G_goto 17 dL_ifPassed_10 (by decide) ?_
  refine G_iconst (v := 0) dL_ifPassed_17 (by decide) ?_
  exact G_iret dL_ifPassed_18 ⟨Nat.zero_le _, Nat.zero_le _⟩ rfl
theorem lh_ifPassed_1 (hM : MCX l yX3_ifPassed wsX3_ifPassed rmT3_ifPassed [.ref xp, .int x0, .int x1] w xIA w1) (hx : w[xp]? = some (.inr (3, fs))) : MCE l yL_ifPassed wsL_ifPassed rmL_ifPassed ctN false [.ref xp, .int x0, .int x1, .ref op] w (some (.int 1)) (w1) := by
  refine mj_MCEH (cc := cL_ifPassed) (nl := 5) (hh := [(0, 10, 13, 15)]) ctN_vm (by decide +kernel) rfl (Nat.le_of_ble_eq_true rfl) ?_
  show GG l cL_ifPassed ML_ifPassed false (.inl (some (.int 1), w1)) 0 [some (.ref xp), some (.int x0), some (.int x1), some (.ref op), none] [] w 0 0
  refine G_aload_n dL_ifPassed_0 rfl ?_
  refine G_iconst (v := 0) dL_ifPassed_1 (by decide) ?_
  refine G_aload_n dL_ifPassed_2 rfl ?_
  refine G_iload_n dL_ifPassed_3 rfl ?_
  refine G_iload_n dL_ifPassed_4 rfl ?_
  refine G_callVC (i := 4) (q2 := 15) dL_ifPassed_5 kT3L_ifPassed (by decide) hM rfl rfl hx rfl rfl (tb := tableOf [(0, 10, 13, 15)]) rfl [] ⟨0, 10, 13, 15⟩ [] rfl (fun _ h => absurd h List.not_mem_nil) ⟨rfl, by decide⟩ lkL_ifPassed_15 (List.mem_append_right _ (by decide +kernel)) (Or.inl ⟨dL_ifPassed_13, rfl⟩) rfl ?_
  refine G_iconst (v := 1) dL_ifPassed_15 (by decide) ?_
  exact G_iret dL_ifPassed_16 (by decide) rfl
theorem lh_pass_0 {o : Nat → Int64} (hM : MC l yX3_pass wsX3_pass rmX3_pass false [.ref xp, .int x0] w (some (.int v)) w1) (hx : w[xp]? = some (.inr (3, fs))) (ho : w1[op]? = some (.inl (.long, (1, .inr (.inl o))))) : MCE l yL_pass wsL_pass rmL_pass ctN false [.ref xp, .int x0, .ref op] w (some (.int 0)) (w1.set op (.inl (.long, (1, .inr (.inl (vp_updL o 0 v.toInt64)))))) := by
  refine mj_MCEH (cc := cL_pass) (nl := 4) (hh := [(0, 9, 12, 15)]) ctN_vm (by decide +kernel) rfl (Nat.le_of_ble_eq_true rfl) ?_
  show GG l cL_pass ML_pass false (.inl (some (.int 0), w1.set op (.inl (.long, (1, .inr (.inl (vp_updL o 0 v.toInt64))))))) 0 [some (.ref xp), some (.int x0), some (.ref op), none] [] w 0 0
  refine G_aload_n dL_pass_0 rfl ?_
  refine G_iconst (v := 0) dL_pass_1 (by decide) ?_
  refine G_aload_n dL_pass_2 rfl ?_
  refine G_iload_n dL_pass_3 rfl ?_
  refine G_callVi dL_pass_4 kX3L_pass ⟨rfl, rfl⟩ ⟨Nat.zero_le _, Nat.zero_le _⟩ hM rfl rfl hx rfl rfl ?_
  refine G_i2l dL_pass_7 ?_
  refine G_last dL_pass_8 ho (show vp_in (nI 0) 1 from vp_in_nI (by omega) (by omega)) rfl ?_
  refine G_goto 15 dL_pass_9 (by decide) ?_
  refine G_iconst (v := 0) dL_pass_15 (by decide) ?_
  exact G_iret dL_pass_16 ⟨Nat.zero_le _, Nat.zero_le _⟩ rfl
theorem lh_pass_1 (hM : MCX l yX3_pass wsX3_pass rmT3_pass [.ref xp, .int x0] w xIA w1) (hx : w[xp]? = some (.inr (3, fs))) : MCE l yL_pass wsL_pass rmL_pass ctN false [.ref xp, .int x0, .ref op] w (some (.int 1)) (w1) := by
  refine mj_MCEH (cc := cL_pass) (nl := 4) (hh := [(0, 9, 12, 15)]) ctN_vm (by decide +kernel) rfl (Nat.le_of_ble_eq_true rfl) ?_
  show GG l cL_pass ML_pass false (.inl (some (.int 1), w1)) 0 [some (.ref xp), some (.int x0), some (.ref op), none] [] w 0 0
  refine G_aload_n dL_pass_0 rfl ?_
  refine G_iconst (v := 0) dL_pass_1 (by decide) ?_
  refine G_aload_n dL_pass_2 rfl ?_
  refine G_iload_n dL_pass_3 rfl ?_
  refine G_callVC (i := 3) (q2 := 13) dL_pass_4 kT3L_pass (by decide) hM rfl rfl hx rfl rfl (tb := tableOf [(0, 9, 12, 15)]) rfl [] ⟨0, 9, 12, 15⟩ [] rfl (fun _ h => absurd h List.not_mem_nil) ⟨rfl, by decide⟩ lkL_pass_15 (List.mem_append_right _ (by decide +kernel)) (Or.inr ⟨_, dL_pass_12, rfl, rfl⟩) rfl ?_
  refine G_iconst (v := 1) dL_pass_13 (by decide) ?_
  exact G_iret dL_pass_14 (by decide) rfl
theorem lh_play_0 {o : Nat → Int64} (hM : MC l yX3_play wsX3_play rmX3_play false [.ref xp] w (some (.int v)) w1) (hx : w[xp]? = some (.inr (3, fs))) (ho : w1[op]? = some (.inl (.long, (1, .inr (.inl o))))) : MCE l yL_play wsL_play rmL_play ctN false [.ref xp, .ref op] w (some (.int 0)) (w1.set op (.inl (.long, (1, .inr (.inl (vp_updL o 0 v.toInt64)))))) := by
  refine mj_MCEH (cc := cL_play) (nl := 3) (hh := [(0, 8, 11, 15)]) ctN_vm (by decide +kernel) rfl (Nat.le_of_ble_eq_true rfl) ?_
  show GG l cL_play ML_play false (.inl (some (.int 0), w1.set op (.inl (.long, (1, .inr (.inl (vp_updL o 0 v.toInt64))))))) 0 [some (.ref xp), some (.ref op), none] [] w 0 0
  refine G_aload_n dL_play_0 rfl ?_
  refine G_iconst (v := 0) dL_play_1 (by decide) ?_
  refine G_aload_n dL_play_2 rfl ?_
  refine G_callVi dL_play_3 kX3L_play ⟨rfl, rfl⟩ ⟨Nat.zero_le _, Nat.zero_le _⟩ hM rfl rfl hx rfl rfl ?_
  refine G_i2l dL_play_6 ?_
  refine G_last dL_play_7 ho (show vp_in (nI 0) 1 from vp_in_nI (by omega) (by omega)) rfl ?_
  refine G_goto 14 dL_play_8 (by decide) ?_
  refine G_iconst (v := 0) dL_play_14 (by decide) ?_
  exact G_iret dL_play_15 ⟨Nat.zero_le _, Nat.zero_le _⟩ rfl
theorem lh_play_1 (hM : MCX l yX3_play wsX3_play rmT3_play [.ref xp] w xIA w1) (hx : w[xp]? = some (.inr (3, fs))) : MCE l yL_play wsL_play rmL_play ctN false [.ref xp, .ref op] w (some (.int 1)) (w1) := by
  refine mj_MCEH (cc := cL_play) (nl := 3) (hh := [(0, 8, 11, 15)]) ctN_vm (by decide +kernel) rfl (Nat.le_of_ble_eq_true rfl) ?_
  show GG l cL_play ML_play false (.inl (some (.int 1), w1)) 0 [some (.ref xp), some (.ref op), none] [] w 0 0
  refine G_aload_n dL_play_0 rfl ?_
  refine G_iconst (v := 0) dL_play_1 (by decide) ?_
  refine G_aload_n dL_play_2 rfl ?_
  refine G_callVC (i := 2) (q2 := 12) dL_play_3 kT3L_play (by decide) hM rfl rfl hx rfl rfl (tb := tableOf [(0, 8, 11, 15)]) rfl [] ⟨0, 8, 11, 15⟩ [] rfl (fun _ h => absurd h List.not_mem_nil) ⟨rfl, by decide⟩ lkL_play_15 (List.mem_append_right _ (by decide +kernel)) (Or.inr ⟨_, dL_play_11, rfl, rfl⟩) rfl ?_
  refine G_iconst (v := 1) dL_play_12 (by decide) ?_
  exact G_iret dL_play_13 (by decide) rfl
theorem lh_plot_0 {o : Nat → Int64} (hM : MC l yX3_plot wsX3_plot rmX3_plot false [.ref xp, .int x0, .int x1, .int x2] w (some (.int v)) w1) (hx : w[xp]? = some (.inr (3, fs))) (ho : w1[op]? = some (.inl (.long, (1, .inr (.inl o))))) : MCE l yL_plot wsL_plot rmL_plot ctN false [.ref xp, .int x0, .int x1, .int x2, .ref op] w (some (.int 0)) (w1.set op (.inl (.long, (1, .inr (.inl (vp_updL o 0 v.toInt64)))))) := by
  refine mj_MCEH (cc := cL_plot) (nl := 6) (hh := [(0, 12, 15, 13), (0, 12, 19, 15)]) ctN_vm (by decide +kernel) rfl (Nat.le_of_ble_eq_true rfl) ?_
  show GG l cL_plot ML_plot false (.inl (some (.int 0), w1.set op (.inl (.long, (1, .inr (.inl (vp_updL o 0 v.toInt64))))))) 0 [some (.ref xp), some (.int x0), some (.int x1), some (.int x2), some (.ref op), none] [] w 0 0
  refine G_aload dL_plot_0 rfl ?_
  refine G_iconst (v := 0) dL_plot_2 (by decide) ?_
  refine G_aload_n dL_plot_3 rfl ?_
  refine G_iload_n dL_plot_4 rfl ?_
  refine G_iload_n dL_plot_5 rfl ?_
  refine G_iload_n dL_plot_6 rfl ?_
  refine G_callVi dL_plot_7 kX3L_plot ⟨rfl, rfl⟩ ⟨Nat.zero_le _, Nat.zero_le _⟩ hM rfl rfl hx rfl rfl ?_
  refine G_i2l dL_plot_10 ?_
  refine G_last dL_plot_11 ho (show vp_in (nI 0) 1 from vp_in_nI (by omega) (by omega)) rfl ?_
  refine G_goto 23 dL_plot_12 (by decide) ?_
  refine G_iconst (v := 0) dL_plot_23 (by decide) ?_
  exact G_iret dL_plot_24 ⟨Nat.zero_le _, Nat.zero_le _⟩ rfl
theorem lh_plot_1 (hM : MCX l yX3_plot wsX3_plot rmT3_plot [.ref xp, .int x0, .int x1, .int x2] w xIO w1) (hx : w[xp]? = some (.inr (3, fs))) : MCE l yL_plot wsL_plot rmL_plot ctN false [.ref xp, .int x0, .int x1, .int x2, .ref op] w (some (.int 1)) (w1) := by
  refine mj_MCEH (cc := cL_plot) (nl := 6) (hh := [(0, 12, 15, 13), (0, 12, 19, 15)]) ctN_vm (by decide +kernel) rfl (Nat.le_of_ble_eq_true rfl) ?_
  show GG l cL_plot ML_plot false (.inl (some (.int 1), w1)) 0 [some (.ref xp), some (.int x0), some (.int x1), some (.int x2), some (.ref op), none] [] w 0 0
  refine G_aload dL_plot_0 rfl ?_
  refine G_iconst (v := 0) dL_plot_2 (by decide) ?_
  refine G_aload_n dL_plot_3 rfl ?_
  refine G_iload_n dL_plot_4 rfl ?_
  refine G_iload_n dL_plot_5 rfl ?_
  refine G_iload_n dL_plot_6 rfl ?_
  refine G_callVC (i := 5) (q2 := 17) dL_plot_7 kT3L_plot (by decide) hM rfl rfl hx rfl rfl (tb := tableOf [(0, 12, 15, 13), (0, 12, 19, 15)]) rfl [] ⟨0, 12, 15, 13⟩ [⟨0, 12, 19, 15⟩] rfl (fun _ h => absurd h List.not_mem_nil) ⟨rfl, by decide⟩ lkL_plot_13 (List.mem_append_right _ (by decide +kernel)) (Or.inl ⟨dL_plot_15, rfl⟩) rfl ?_
  refine G_iconst (v := 1) dL_plot_17 (by decide) ?_
  exact G_iret dL_plot_18 (by decide) rfl
theorem lh_plot_2 (hM : MCX l yX3_plot wsX3_plot rmT3_plot [.ref xp, .int x0, .int x1, .int x2] w xIA w1) (hx : w[xp]? = some (.inr (3, fs))) : MCE l yL_plot wsL_plot rmL_plot ctN false [.ref xp, .int x0, .int x1, .int x2, .ref op] w (some (.int 2)) (w1) := by
  refine mj_MCEH (cc := cL_plot) (nl := 6) (hh := [(0, 12, 15, 13), (0, 12, 19, 15)]) ctN_vm (by decide +kernel) rfl (Nat.le_of_ble_eq_true rfl) ?_
  show GG l cL_plot ML_plot false (.inl (some (.int 2), w1)) 0 [some (.ref xp), some (.int x0), some (.int x1), some (.int x2), some (.ref op), none] [] w 0 0
  refine G_aload dL_plot_0 rfl ?_
  refine G_iconst (v := 0) dL_plot_2 (by decide) ?_
  refine G_aload_n dL_plot_3 rfl ?_
  refine G_iload_n dL_plot_4 rfl ?_
  refine G_iload_n dL_plot_5 rfl ?_
  refine G_iload_n dL_plot_6 rfl ?_
  refine G_callVC (i := 5) (q2 := 21) dL_plot_7 kT3L_plot (by decide) hM rfl rfl hx rfl rfl (tb := tableOf [(0, 12, 15, 13), (0, 12, 19, 15)]) rfl [⟨0, 12, 15, 13⟩] ⟨0, 12, 19, 15⟩ [] rfl (List.forall_mem_cons.mpr ⟨⟨xIO, by decide, lkL_plot_13, List.mem_append_right _ (by decide +kernel)⟩, (fun _ h => absurd h List.not_mem_nil)⟩) ⟨rfl, by decide⟩ lkL_plot_15 (List.mem_append_right _ (by decide +kernel)) (Or.inl ⟨dL_plot_19, rfl⟩) rfl ?_
  refine G_iconst (v := 2) dL_plot_21 (by decide) ?_
  exact G_iret dL_plot_22 (by decide) rfl
theorem lh_rain_0 {o : Nat → Int64} (hM : MC l yX3_rain wsX3_rain rmX3_rain false [.ref xp, .int x0] w (some (.int v)) w1) (hx : w[xp]? = some (.inr (3, fs))) (ho : w1[op]? = some (.inl (.long, (1, .inr (.inl o))))) : MCE l yL_rain wsL_rain rmL_rain ctN false [.ref xp, .int x0, .ref op] w (some (.int 0)) (w1.set op (.inl (.long, (1, .inr (.inl (vp_updL o 0 v.toInt64)))))) := by
  refine mj_MCEH (cc := cL_rain) (nl := 4) (hh := [(0, 9, 12, 15)]) ctN_vm (by decide +kernel) rfl (Nat.le_of_ble_eq_true rfl) ?_
  show GG l cL_rain ML_rain false (.inl (some (.int 0), w1.set op (.inl (.long, (1, .inr (.inl (vp_updL o 0 v.toInt64))))))) 0 [some (.ref xp), some (.int x0), some (.ref op), none] [] w 0 0
  refine G_aload_n dL_rain_0 rfl ?_
  refine G_iconst (v := 0) dL_rain_1 (by decide) ?_
  refine G_aload_n dL_rain_2 rfl ?_
  refine G_iload_n dL_rain_3 rfl ?_
  refine G_callVi dL_rain_4 kX3L_rain ⟨rfl, rfl⟩ ⟨Nat.zero_le _, Nat.zero_le _⟩ hM rfl rfl hx rfl rfl ?_
  refine G_i2l dL_rain_7 ?_
  refine G_last dL_rain_8 ho (show vp_in (nI 0) 1 from vp_in_nI (by omega) (by omega)) rfl ?_
  refine G_goto 15 dL_rain_9 (by decide) ?_
  refine G_iconst (v := 0) dL_rain_15 (by decide) ?_
  exact G_iret dL_rain_16 ⟨Nat.zero_le _, Nat.zero_le _⟩ rfl
theorem lh_rain_1 (hM : MCX l yX3_rain wsX3_rain rmT3_rain [.ref xp, .int x0] w xIA w1) (hx : w[xp]? = some (.inr (3, fs))) : MCE l yL_rain wsL_rain rmL_rain ctN false [.ref xp, .int x0, .ref op] w (some (.int 1)) (w1) := by
  refine mj_MCEH (cc := cL_rain) (nl := 4) (hh := [(0, 9, 12, 15)]) ctN_vm (by decide +kernel) rfl (Nat.le_of_ble_eq_true rfl) ?_
  show GG l cL_rain ML_rain false (.inl (some (.int 1), w1)) 0 [some (.ref xp), some (.int x0), some (.ref op), none] [] w 0 0
  refine G_aload_n dL_rain_0 rfl ?_
  refine G_iconst (v := 0) dL_rain_1 (by decide) ?_
  refine G_aload_n dL_rain_2 rfl ?_
  refine G_iload_n dL_rain_3 rfl ?_
  refine G_callVC (i := 3) (q2 := 13) dL_rain_4 kT3L_rain (by decide) hM rfl rfl hx rfl rfl (tb := tableOf [(0, 9, 12, 15)]) rfl [] ⟨0, 9, 12, 15⟩ [] rfl (fun _ h => absurd h List.not_mem_nil) ⟨rfl, by decide⟩ lkL_rain_15 (List.mem_append_right _ (by decide +kernel)) (Or.inr ⟨_, dL_rain_12, rfl, rfl⟩) rfl ?_
  refine G_iconst (v := 1) dL_rain_13 (by decide) ?_
  exact G_iret dL_rain_14 (by decide) rfl
theorem lh_rest_0 {o : Nat → Int64} (hM : MC l yX3_rest wsX3_rest rmX3_rest false [.ref xp, .int x0] w (some (.int v)) w1) (hx : w[xp]? = some (.inr (3, fs))) (ho : w1[op]? = some (.inl (.long, (1, .inr (.inl o))))) : MCE l yL_rest wsL_rest rmL_rest ctN false [.ref xp, .int x0, .ref op] w (some (.int 0)) (w1.set op (.inl (.long, (1, .inr (.inl (vp_updL o 0 v.toInt64)))))) := by
  refine mj_MCEH (cc := cL_rest) (nl := 4) (hh := [(0, 9, 12, 13)]) ctN_vm (by decide +kernel) rfl (Nat.le_of_ble_eq_true rfl) ?_
  show GG l cL_rest ML_rest false (.inl (some (.int 0), w1.set op (.inl (.long, (1, .inr (.inl (vp_updL o 0 v.toInt64))))))) 0 [some (.ref xp), some (.int x0), some (.ref op), none] [] w 0 0
  refine G_aload_n dL_rest_0 rfl ?_
  refine G_iconst (v := 0) dL_rest_1 (by decide) ?_
  refine G_aload_n dL_rest_2 rfl ?_
  refine G_iload_n dL_rest_3 rfl ?_
  refine G_callVi dL_rest_4 kX3L_rest ⟨rfl, rfl⟩ ⟨Nat.zero_le _, Nat.zero_le _⟩ hM rfl rfl hx rfl rfl ?_
  refine G_i2l dL_rest_7 ?_
  refine G_last dL_rest_8 ho (show vp_in (nI 0) 1 from vp_in_nI (by omega) (by omega)) rfl ?_
  refine G_goto 15 dL_rest_9 (by decide) ?_
  refine G_iconst (v := 0) dL_rest_15 (by decide) ?_
  exact G_iret dL_rest_16 ⟨Nat.zero_le _, Nat.zero_le _⟩ rfl
theorem lh_rest_1 (hM : MCX l yX3_rest wsX3_rest rmT3_rest [.ref xp, .int x0] w xIO w1) (hx : w[xp]? = some (.inr (3, fs))) : MCE l yL_rest wsL_rest rmL_rest ctN false [.ref xp, .int x0, .ref op] w (some (.int 1)) (w1) := by
  refine mj_MCEH (cc := cL_rest) (nl := 4) (hh := [(0, 9, 12, 13)]) ctN_vm (by decide +kernel) rfl (Nat.le_of_ble_eq_true rfl) ?_
  show GG l cL_rest ML_rest false (.inl (some (.int 1), w1)) 0 [some (.ref xp), some (.int x0), some (.ref op), none] [] w 0 0
  refine G_aload_n dL_rest_0 rfl ?_
  refine G_iconst (v := 0) dL_rest_1 (by decide) ?_
  refine G_aload_n dL_rest_2 rfl ?_
  refine G_iload_n dL_rest_3 rfl ?_
  refine G_callVC (i := 3) (q2 := 13) dL_rest_4 kT3L_rest (by decide) hM rfl rfl hx rfl rfl (tb := tableOf [(0, 9, 12, 13)]) rfl [] ⟨0, 9, 12, 13⟩ [] rfl (fun _ h => absurd h List.not_mem_nil) ⟨rfl, by decide⟩ lkL_rest_13 (List.mem_append_right _ (by decide +kernel)) (Or.inr ⟨_, dL_rest_12, rfl, rfl⟩) rfl ?_
  refine G_iconst (v := 1) dL_rest_13 (by decide) ?_
  exact G_iret dL_rest_14 (by decide) rfl
theorem lh_restore_0 {o : Nat → Int64} (hM : MC l yX3_restore wsX3_restore rmX3_restore false [.ref xp] w (some (.int v)) w1) (hx : w[xp]? = some (.inr (3, fs))) (ho : w1[op]? = some (.inl (.long, (1, .inr (.inl o))))) : MCE l yL_restore wsL_restore rmL_restore ctN false [.ref xp, .ref op] w (some (.int 0)) (w1.set op (.inl (.long, (1, .inr (.inl (vp_updL o 0 v.toInt64)))))) := by
  refine mj_MCEH (cc := cL_restore) (nl := 3) (hh := [(0, 8, 11, 28)]) ctN_vm (by decide +kernel) rfl (Nat.le_of_ble_eq_true rfl) ?_
  show GG l cL_restore ML_restore false (.inl (some (.int 0), w1.set op (.inl (.long, (1, .inr (.inl (vp_updL o 0 v.toInt64))))))) 0 [some (.ref xp), some (.ref op), none] [] w 0 0
  refine G_aload_n dL_restore_0 rfl ?_
  refine G_iconst (v := 0) dL_restore_1 (by decide) ?_
  refine G_aload_n dL_restore_2 rfl ?_
  refine G_callVi dL_restore_3 kX3L_restore ⟨rfl, rfl⟩ ⟨Nat.zero_le _, Nat.zero_le _⟩ hM rfl rfl hx rfl rfl ?_
  refine G_i2l dL_restore_6 ?_
  refine G_last dL_restore_7 ho (show vp_in (nI 0) 1 from vp_in_nI (by omega) (by omega)) rfl ?_
  refine G_goto 14 dL_restore_8 (by decide) ?_
  refine G_iconst (v := 0) dL_restore_14 (by decide) ?_
  exact G_iret dL_restore_15 ⟨Nat.zero_le _, Nat.zero_le _⟩ rfl
theorem lh_restore_1 (hM : MCX l yX3_restore wsX3_restore rmT3_restore [.ref xp] w xIS w1) (hx : w[xp]? = some (.inr (3, fs))) : MCE l yL_restore wsL_restore rmL_restore ctN false [.ref xp, .ref op] w (some (.int 1)) (w1) := by
  refine mj_MCEH (cc := cL_restore) (nl := 3) (hh := [(0, 8, 11, 28)]) ctN_vm (by decide +kernel) rfl (Nat.le_of_ble_eq_true rfl) ?_
  show GG l cL_restore ML_restore false (.inl (some (.int 1), w1)) 0 [some (.ref xp), some (.ref op), none] [] w 0 0
  refine G_aload_n dL_restore_0 rfl ?_
  refine G_iconst (v := 0) dL_restore_1 (by decide) ?_
  refine G_aload_n dL_restore_2 rfl ?_
  refine G_callVC (i := 2) (q2 := 12) dL_restore_3 kT3L_restore (by decide) hM rfl rfl hx rfl rfl (tb := tableOf [(0, 8, 11, 28)]) rfl [] ⟨0, 8, 11, 28⟩ [] rfl (fun _ h => absurd h List.not_mem_nil) ⟨rfl, by decide⟩ lkL_restore_28 (List.mem_append_right _ (by decide +kernel)) (Or.inr ⟨_, dL_restore_11, rfl, rfl⟩) rfl ?_
  refine G_iconst (v := 1) dL_restore_12 (by decide) ?_
  exact G_iret dL_restore_13 (by decide) rfl
theorem lh_set_0 {o : Nat → Int64} (hM : MC l yX3_set wsX3_set rmX3_set false [.ref xp, .int x0, .int x1] w (some (.int v)) w1) (hx : w[xp]? = some (.inr (3, fs))) (ho : w1[op]? = some (.inl (.long, (1, .inr (.inl o))))) : MCE l yL_set wsL_set rmL_set ctN false [.ref xp, .int x0, .int x1, .ref op] w (some (.int 0)) (w1.set op (.inl (.long, (1, .inr (.inl (vp_updL o 0 v.toInt64)))))) := by
  refine mj_MCEH (cc := cL_set) (nl := 5) (hh := [(0, 10, 13, 13), (0, 10, 17, 15)]) ctN_vm (by decide +kernel) rfl (Nat.le_of_ble_eq_true rfl) ?_
  show GG l cL_set ML_set false (.inl (some (.int 0), w1.set op (.inl (.long, (1, .inr (.inl (vp_updL o 0 v.toInt64))))))) 0 [some (.ref xp), some (.int x0), some (.int x1), some (.ref op), none] [] w 0 0
  refine G_aload_n dL_set_0 rfl ?_
  refine G_iconst (v := 0) dL_set_1 (by decide) ?_
  refine G_aload_n dL_set_2 rfl ?_
  refine G_iload_n dL_set_3 rfl ?_
  refine G_iload_n dL_set_4 rfl ?_
  refine G_callVi dL_set_5 kX3L_set ⟨rfl, rfl⟩ ⟨Nat.zero_le _, Nat.zero_le _⟩ hM rfl rfl hx rfl rfl ?_
  refine G_i2l dL_set_8 ?_
  refine G_last dL_set_9 ho (show vp_in (nI 0) 1 from vp_in_nI (by omega) (by omega)) rfl ?_
  refine G_goto 21 dL_set_10 (by decide) ?_
  refine G_iconst (v := 0) dL_set_21 (by decide) ?_
  exact G_iret dL_set_22 ⟨Nat.zero_le _, Nat.zero_le _⟩ rfl
theorem lh_set_1 (hM : MCX l yX3_set wsX3_set rmT3_set [.ref xp, .int x0, .int x1] w xIO w1) (hx : w[xp]? = some (.inr (3, fs))) : MCE l yL_set wsL_set rmL_set ctN false [.ref xp, .int x0, .int x1, .ref op] w (some (.int 1)) (w1) := by
  refine mj_MCEH (cc := cL_set) (nl := 5) (hh := [(0, 10, 13, 13), (0, 10, 17, 15)]) ctN_vm (by decide +kernel) rfl (Nat.le_of_ble_eq_true rfl) ?_
  show GG l cL_set ML_set false (.inl (some (.int 1), w1)) 0 [some (.ref xp), some (.int x0), some (.int x1), some (.ref op), none] [] w 0 0
  refine G_aload_n dL_set_0 rfl ?_
  refine G_iconst (v := 0) dL_set_1 (by decide) ?_
  refine G_aload_n dL_set_2 rfl ?_
  refine G_iload_n dL_set_3 rfl ?_
  refine G_iload_n dL_set_4 rfl ?_
  refine G_callVC (i := 4) (q2 := 15) dL_set_5 kT3L_set (by decide) hM rfl rfl hx rfl rfl (tb := tableOf [(0, 10, 13, 13), (0, 10, 17, 15)]) rfl [] ⟨0, 10, 13, 13⟩ [⟨0, 10, 17, 15⟩] rfl (fun _ h => absurd h List.not_mem_nil) ⟨rfl, by decide⟩ lkL_set_13 (List.mem_append_right _ (by decide +kernel)) (Or.inl ⟨dL_set_13, rfl⟩) rfl ?_
  refine G_iconst (v := 1) dL_set_15 (by decide) ?_
  exact G_iret dL_set_16 (by decide) rfl
theorem lh_set_2 (hM : MCX l yX3_set wsX3_set rmT3_set [.ref xp, .int x0, .int x1] w xIA w1) (hx : w[xp]? = some (.inr (3, fs))) : MCE l yL_set wsL_set rmL_set ctN false [.ref xp, .int x0, .int x1, .ref op] w (some (.int 2)) (w1) := by
  refine mj_MCEH (cc := cL_set) (nl := 5) (hh := [(0, 10, 13, 13), (0, 10, 17, 15)]) ctN_vm (by decide +kernel) rfl (Nat.le_of_ble_eq_true rfl) ?_
  show GG l cL_set ML_set false (.inl (some (.int 2), w1)) 0 [some (.ref xp), some (.int x0), some (.int x1), some (.ref op), none] [] w 0 0
  refine G_aload_n dL_set_0 rfl ?_
  refine G_iconst (v := 0) dL_set_1 (by decide) ?_
  refine G_aload_n dL_set_2 rfl ?_
  refine G_iload_n dL_set_3 rfl ?_
  refine G_iload_n dL_set_4 rfl ?_
  refine G_callVC (i := 4) (q2 := 19) dL_set_5 kT3L_set (by decide) hM rfl rfl hx rfl rfl (tb := tableOf [(0, 10, 13, 13), (0, 10, 17, 15)]) rfl [⟨0, 10, 13, 13⟩] ⟨0, 10, 17, 15⟩ [] rfl (List.forall_mem_cons.mpr ⟨⟨xIO, by decide, lkL_set_13, List.mem_append_right _ (by decide +kernel)⟩, (fun _ h => absurd h List.not_mem_nil)⟩) ⟨rfl, by decide⟩ lkL_set_15 (List.mem_append_right _ (by decide +kernel)) (Or.inl ⟨dL_set_17, rfl⟩) rfl ?_
  refine G_iconst (v := 2) dL_set_19 (by decide) ?_
  exact G_iret dL_set_20 (by decide) rfl
theorem lh_strength_0 {o : Nat → Int64} (hM : MC l yX3_strength wsX3_strength rmX3_strength false [.ref xp, .int x0, .int x1] w (some (.int v)) w1) (hx : w[xp]? = some (.inr (3, fs))) (ho : w1[op]? = some (.inl (.long, (1, .inr (.inl o))))) : MCE l yL_strength wsL_strength rmL_strength ctN false [.ref xp, .int x0, .int x1, .ref op] w (some (.int 0)) (w1.set op (.inl (.long, (1, .inr (.inl (vp_updL o 0 v.toInt64)))))) := by
  refine mj_MCEH (cc := cL_strength) (nl := 5) (hh := [(0, 10, 13, 13), (0, 10, 17, 15)]) ctN_vm (by decide +kernel) rfl (Nat.le_of_ble_eq_true rfl) ?_
  show GG l cL_strength ML_strength false (.inl (some (.int 0), w1.set op (.inl (.long, (1, .inr (.inl (vp_updL o 0 v.toInt64))))))) 0 [some (.ref xp), some (.int x0), some (.int x1), some (.ref op), none] [] w 0 0
  refine G_aload_n dL_strength_0 rfl ?_
  refine G_iconst (v := 0) dL_strength_1 (by decide) ?_
  refine G_aload_n dL_strength_2 rfl ?_
  refine G_iload_n dL_strength_3 rfl ?_
  refine G_iload_n dL_strength_4 rfl ?_
  refine G_callVi dL_strength_5 kX3L_strength ⟨rfl, rfl⟩ ⟨Nat.zero_le _, Nat.zero_le _⟩ hM rfl rfl hx rfl rfl ?_
  refine G_i2l dL_strength_8 ?_
  refine G_last dL_strength_9 ho (show vp_in (nI 0) 1 from vp_in_nI (by omega) (by omega)) rfl ?_
  refine G_goto 21 dL_strength_10 (by decide) ?_
  refine G_iconst (v := 0) dL_strength_21 (by decide) ?_
  exact G_iret dL_strength_22 ⟨Nat.zero_le _, Nat.zero_le _⟩ rfl
theorem lh_strength_1 (hM : MCX l yX3_strength wsX3_strength rmT3_strength [.ref xp, .int x0, .int x1] w xIO w1) (hx : w[xp]? = some (.inr (3, fs))) : MCE l yL_strength wsL_strength rmL_strength ctN false [.ref xp, .int x0, .int x1, .ref op] w (some (.int 1)) (w1) := by
  refine mj_MCEH (cc := cL_strength) (nl := 5) (hh := [(0, 10, 13, 13), (0, 10, 17, 15)]) ctN_vm (by decide +kernel) rfl (Nat.le_of_ble_eq_true rfl) ?_
  show GG l cL_strength ML_strength false (.inl (some (.int 1), w1)) 0 [some (.ref xp), some (.int x0), some (.int x1), some (.ref op), none] [] w 0 0
  refine G_aload_n dL_strength_0 rfl ?_
  refine G_iconst (v := 0) dL_strength_1 (by decide) ?_
  refine G_aload_n dL_strength_2 rfl ?_
  refine G_iload_n dL_strength_3 rfl ?_
  refine G_iload_n dL_strength_4 rfl ?_
  refine G_callVC (i := 4) (q2 := 15) dL_strength_5 kT3L_strength (by decide) hM rfl rfl hx rfl rfl (tb := tableOf [(0, 10, 13, 13), (0, 10, 17, 15)]) rfl [] ⟨0, 10, 13, 13⟩ [⟨0, 10, 17, 15⟩] rfl (fun _ h => absurd h List.not_mem_nil) ⟨rfl, by decide⟩ lkL_strength_13 (List.mem_append_right _ (by decide +kernel)) (Or.inl ⟨dL_strength_13, rfl⟩) rfl ?_
  refine G_iconst (v := 1) dL_strength_15 (by decide) ?_
  exact G_iret dL_strength_16 (by decide) rfl
theorem lh_strength_2 (hM : MCX l yX3_strength wsX3_strength rmT3_strength [.ref xp, .int x0, .int x1] w xIA w1) (hx : w[xp]? = some (.inr (3, fs))) : MCE l yL_strength wsL_strength rmL_strength ctN false [.ref xp, .int x0, .int x1, .ref op] w (some (.int 2)) (w1) := by
  refine mj_MCEH (cc := cL_strength) (nl := 5) (hh := [(0, 10, 13, 13), (0, 10, 17, 15)]) ctN_vm (by decide +kernel) rfl (Nat.le_of_ble_eq_true rfl) ?_
  show GG l cL_strength ML_strength false (.inl (some (.int 2), w1)) 0 [some (.ref xp), some (.int x0), some (.int x1), some (.ref op), none] [] w 0 0
  refine G_aload_n dL_strength_0 rfl ?_
  refine G_iconst (v := 0) dL_strength_1 (by decide) ?_
  refine G_aload_n dL_strength_2 rfl ?_
  refine G_iload_n dL_strength_3 rfl ?_
  refine G_iload_n dL_strength_4 rfl ?_
  refine G_callVC (i := 4) (q2 := 19) dL_strength_5 kT3L_strength (by decide) hM rfl rfl hx rfl rfl (tb := tableOf [(0, 10, 13, 13), (0, 10, 17, 15)]) rfl [⟨0, 10, 13, 13⟩] ⟨0, 10, 17, 15⟩ [] rfl (List.forall_mem_cons.mpr ⟨⟨xIO, by decide, lkL_strength_13, List.mem_append_right _ (by decide +kernel)⟩, (fun _ h => absurd h List.not_mem_nil)⟩) ⟨rfl, by decide⟩ lkL_strength_15 (List.mem_append_right _ (by decide +kernel)) (Or.inl ⟨dL_strength_17, rfl⟩) rfl ?_
  refine G_iconst (v := 2) dL_strength_19 (by decide) ?_
  exact G_iret dL_strength_20 (by decide) rfl
theorem lh_track_0 {o : Nat → Int64} (hM : MC l yX3_track wsX3_track rmX3_track false [.ref xp, .int x0, .int x1] w (some (.int v)) w1) (hx : w[xp]? = some (.inr (3, fs))) (ho : w1[op]? = some (.inl (.long, (1, .inr (.inl o))))) : MCE l yL_track wsL_track rmL_track ctN false [.ref xp, .int x0, .int x1, .ref op] w (some (.int 0)) (w1.set op (.inl (.long, (1, .inr (.inl (vp_updL o 0 v.toInt64)))))) := by
  refine mj_MCEH (cc := cL_track) (nl := 5) (hh := [(0, 10, 13, 13), (0, 10, 17, 15)]) ctN_vm (by decide +kernel) rfl (Nat.le_of_ble_eq_true rfl) ?_
  show GG l cL_track ML_track false (.inl (some (.int 0), w1.set op (.inl (.long, (1, .inr (.inl (vp_updL o 0 v.toInt64))))))) 0 [some (.ref xp), some (.int x0), some (.int x1), some (.ref op), none] [] w 0 0
  refine G_aload_n dL_track_0 rfl ?_
  refine G_iconst (v := 0) dL_track_1 (by decide) ?_
  refine G_aload_n dL_track_2 rfl ?_
  refine G_iload_n dL_track_3 rfl ?_
  refine G_iload_n dL_track_4 rfl ?_
  refine G_callVi dL_track_5 kX3L_track ⟨rfl, rfl⟩ ⟨Nat.zero_le _, Nat.zero_le _⟩ hM rfl rfl hx rfl rfl ?_
  refine G_i2l dL_track_8 ?_
  refine G_last dL_track_9 ho (show vp_in (nI 0) 1 from vp_in_nI (by omega) (by omega)) rfl ?_
  refine G_goto 21 dL_track_10 (by decide) ?_
  refine G_iconst (v := 0) dL_track_21 (by decide) ?_
  exact G_iret dL_track_22 ⟨Nat.zero_le _, Nat.zero_le _⟩ rfl
theorem lh_track_1 (hM : MCX l yX3_track wsX3_track rmT3_track [.ref xp, .int x0, .int x1] w xIO w1) (hx : w[xp]? = some (.inr (3, fs))) : MCE l yL_track wsL_track rmL_track ctN false [.ref xp, .int x0, .int x1, .ref op] w (some (.int 1)) (w1) := by
  refine mj_MCEH (cc := cL_track) (nl := 5) (hh := [(0, 10, 13, 13), (0, 10, 17, 15)]) ctN_vm (by decide +kernel) rfl (Nat.le_of_ble_eq_true rfl) ?_
  show GG l cL_track ML_track false (.inl (some (.int 1), w1)) 0 [some (.ref xp), some (.int x0), some (.int x1), some (.ref op), none] [] w 0 0
  refine G_aload_n dL_track_0 rfl ?_
  refine G_iconst (v := 0) dL_track_1 (by decide) ?_
  refine G_aload_n dL_track_2 rfl ?_
  refine G_iload_n dL_track_3 rfl ?_
  refine G_iload_n dL_track_4 rfl ?_
  refine G_callVC (i := 4) (q2 := 15) dL_track_5 kT3L_track (by decide) hM rfl rfl hx rfl rfl (tb := tableOf [(0, 10, 13, 13), (0, 10, 17, 15)]) rfl [] ⟨0, 10, 13, 13⟩ [⟨0, 10, 17, 15⟩] rfl (fun _ h => absurd h List.not_mem_nil) ⟨rfl, by decide⟩ lkL_track_13 (List.mem_append_right _ (by decide +kernel)) (Or.inl ⟨dL_track_13, rfl⟩) rfl ?_
  refine G_iconst (v := 1) dL_track_15 (by decide) ?_
  exact G_iret dL_track_16 (by decide) rfl
theorem lh_track_2 (hM : MCX l yX3_track wsX3_track rmT3_track [.ref xp, .int x0, .int x1] w xIA w1) (hx : w[xp]? = some (.inr (3, fs))) : MCE l yL_track wsL_track rmL_track ctN false [.ref xp, .int x0, .int x1, .ref op] w (some (.int 2)) (w1) := by
  refine mj_MCEH (cc := cL_track) (nl := 5) (hh := [(0, 10, 13, 13), (0, 10, 17, 15)]) ctN_vm (by decide +kernel) rfl (Nat.le_of_ble_eq_true rfl) ?_
  show GG l cL_track ML_track false (.inl (some (.int 2), w1)) 0 [some (.ref xp), some (.int x0), some (.int x1), some (.ref op), none] [] w 0 0
  refine G_aload_n dL_track_0 rfl ?_
  refine G_iconst (v := 0) dL_track_1 (by decide) ?_
  refine G_aload_n dL_track_2 rfl ?_
  refine G_iload_n dL_track_3 rfl ?_
  refine G_iload_n dL_track_4 rfl ?_
  refine G_callVC (i := 4) (q2 := 19) dL_track_5 kT3L_track (by decide) hM rfl rfl hx rfl rfl (tb := tableOf [(0, 10, 13, 13), (0, 10, 17, 15)]) rfl [⟨0, 10, 13, 13⟩] ⟨0, 10, 17, 15⟩ [] rfl (List.forall_mem_cons.mpr ⟨⟨xIO, by decide, lkL_track_13, List.mem_append_right _ (by decide +kernel)⟩, (fun _ h => absurd h List.not_mem_nil)⟩) ⟨rfl, by decide⟩ lkL_track_15 (List.mem_append_right _ (by decide +kernel)) (Or.inl ⟨dL_track_17, rfl⟩) rfl ?_
  refine G_iconst (v := 2) dL_track_19 (by decide) ?_
  exact G_iret dL_track_20 (by decide) rfl
theorem lh_undo_0 {o : Nat → Int64} (hM : MC l yX3_undo wsX3_undo rmX3_undo false [.ref xp] w (some (.int v)) w1) (hx : w[xp]? = some (.inr (3, fs))) (ho : w1[op]? = some (.inl (.long, (1, .inr (.inl o))))) : MCE l yL_undo wsL_undo rmL_undo ctN false [.ref xp, .ref op] w (some (.int 0)) (w1.set op (.inl (.long, (1, .inr (.inl (vp_updL o 0 v.toInt64)))))) := by
  refine mj_MCEH (cc := cL_undo) (nl := 3) (hh := [(0, 8, 11, 28)]) ctN_vm (by decide +kernel) rfl (Nat.le_of_ble_eq_true rfl) ?_
  show GG l cL_undo ML_undo false (.inl (some (.int 0), w1.set op (.inl (.long, (1, .inr (.inl (vp_updL o 0 v.toInt64))))))) 0 [some (.ref xp), some (.ref op), none] [] w 0 0
  refine G_aload_n dL_undo_0 rfl ?_
  refine G_iconst (v := 0) dL_undo_1 (by decide) ?_
  refine G_aload_n dL_undo_2 rfl ?_
  refine G_callVi dL_undo_3 kX3L_undo ⟨rfl, rfl⟩ ⟨Nat.zero_le _, Nat.zero_le _⟩ hM rfl rfl hx rfl rfl ?_
  refine G_i2l dL_undo_6 ?_
  refine G_last dL_undo_7 ho (show vp_in (nI 0) 1 from vp_in_nI (by omega) (by omega)) rfl ?_
  refine G_goto 14 dL_undo_8 (by decide) ?_
  refine G_iconst (v := 0) dL_undo_14 (by decide) ?_
  exact G_iret dL_undo_15 ⟨Nat.zero_le _, Nat.zero_le _⟩ rfl
theorem lh_undo_1 (hM : MCX l yX3_undo wsX3_undo rmT3_undo [.ref xp] w xIS w1) (hx : w[xp]? = some (.inr (3, fs))) : MCE l yL_undo wsL_undo rmL_undo ctN false [.ref xp, .ref op] w (some (.int 1)) (w1) := by
  refine mj_MCEH (cc := cL_undo) (nl := 3) (hh := [(0, 8, 11, 28)]) ctN_vm (by decide +kernel) rfl (Nat.le_of_ble_eq_true rfl) ?_
  show GG l cL_undo ML_undo false (.inl (some (.int 1), w1)) 0 [some (.ref xp), some (.ref op), none] [] w 0 0
  refine G_aload_n dL_undo_0 rfl ?_
  refine G_iconst (v := 0) dL_undo_1 (by decide) ?_
  refine G_aload_n dL_undo_2 rfl ?_
  refine G_callVC (i := 2) (q2 := 12) dL_undo_3 kT3L_undo (by decide) hM rfl rfl hx rfl rfl (tb := tableOf [(0, 8, 11, 28)]) rfl [] ⟨0, 8, 11, 28⟩ [] rfl (fun _ h => absurd h List.not_mem_nil) ⟨rfl, by decide⟩ lkL_undo_28 (List.mem_append_right _ (by decide +kernel)) (Or.inr ⟨_, dL_undo_11, rfl, rfl⟩) rfl ?_
  refine G_iconst (v := 1) dL_undo_12 (by decide) ?_
  exact G_iret dL_undo_13 (by decide) rfl
theorem lh_whyNot_0 {o : Nat → Int64} (hM : MC l yX3_whyNot wsX3_whyNot rmX3_whyNot false [.ref xp, .int x0, .int x1, .int x2] w (some (.int v)) w1) (hx : w[xp]? = some (.inr (3, fs))) (ho : w1[op]? = some (.inl (.long, (1, .inr (.inl o))))) : MCE l yL_whyNot wsL_whyNot rmL_whyNot ctN false [.ref xp, .int x0, .int x1, .int x2, .ref op] w (some (.int 0)) (w1.set op (.inl (.long, (1, .inr (.inl (vp_updL o 0 v.toInt64)))))) := by
  refine mj_MCEH (cc := cL_whyNot) (nl := 6) (hh := [(0, 12, 15, 13)]) ctN_vm (by decide +kernel) rfl (Nat.le_of_ble_eq_true rfl) ?_
  show GG l cL_whyNot ML_whyNot false (.inl (some (.int 0), w1.set op (.inl (.long, (1, .inr (.inl (vp_updL o 0 v.toInt64))))))) 0 [some (.ref xp), some (.int x0), some (.int x1), some (.int x2), some (.ref op), none] [] w 0 0
  refine G_aload dL_whyNot_0 rfl ?_
  refine G_iconst (v := 0) dL_whyNot_2 (by decide) ?_
  refine G_aload_n dL_whyNot_3 rfl ?_
  refine G_iload_n dL_whyNot_4 rfl ?_
  refine G_iload_n dL_whyNot_5 rfl ?_
  refine G_iload_n dL_whyNot_6 rfl ?_
  refine G_callVi dL_whyNot_7 kX3L_whyNot ⟨rfl, rfl⟩ ⟨Nat.zero_le _, Nat.zero_le _⟩ hM rfl rfl hx rfl rfl ?_
  refine G_i2l dL_whyNot_10 ?_
  refine G_last dL_whyNot_11 ho (show vp_in (nI 0) 1 from vp_in_nI (by omega) (by omega)) rfl ?_
  refine G_goto 19 dL_whyNot_12 (by decide) ?_
  refine G_iconst (v := 0) dL_whyNot_19 (by decide) ?_
  exact G_iret dL_whyNot_20 ⟨Nat.zero_le _, Nat.zero_le _⟩ rfl
theorem lh_whyNot_1 (hM : MCX l yX3_whyNot wsX3_whyNot rmT3_whyNot [.ref xp, .int x0, .int x1, .int x2] w xIO w1) (hx : w[xp]? = some (.inr (3, fs))) : MCE l yL_whyNot wsL_whyNot rmL_whyNot ctN false [.ref xp, .int x0, .int x1, .int x2, .ref op] w (some (.int 1)) (w1) := by
  refine mj_MCEH (cc := cL_whyNot) (nl := 6) (hh := [(0, 12, 15, 13)]) ctN_vm (by decide +kernel) rfl (Nat.le_of_ble_eq_true rfl) ?_
  show GG l cL_whyNot ML_whyNot false (.inl (some (.int 1), w1)) 0 [some (.ref xp), some (.int x0), some (.int x1), some (.int x2), some (.ref op), none] [] w 0 0
  refine G_aload dL_whyNot_0 rfl ?_
  refine G_iconst (v := 0) dL_whyNot_2 (by decide) ?_
  refine G_aload_n dL_whyNot_3 rfl ?_
  refine G_iload_n dL_whyNot_4 rfl ?_
  refine G_iload_n dL_whyNot_5 rfl ?_
  refine G_iload_n dL_whyNot_6 rfl ?_
  refine G_callVC (i := 5) (q2 := 17) dL_whyNot_7 kT3L_whyNot (by decide) hM rfl rfl hx rfl rfl (tb := tableOf [(0, 12, 15, 13)]) rfl [] ⟨0, 12, 15, 13⟩ [] rfl (fun _ h => absurd h List.not_mem_nil) ⟨rfl, by decide⟩ lkL_whyNot_13 (List.mem_append_right _ (by decide +kernel)) (Or.inl ⟨dL_whyNot_15, rfl⟩) rfl ?_
  refine G_iconst (v := 1) dL_whyNot_17 (by decide) ?_
  exact G_iret dL_whyNot_18 (by decide) rfl
theorem lh_work_0 {o : Nat → Int64} (hM : MC l yX3_work wsX3_work rmX3_work false [.ref xp, .int x0, .int x1, .int x2] w (some (.int v)) w1) (hx : w[xp]? = some (.inr (3, fs))) (ho : w1[op]? = some (.inl (.long, (1, .inr (.inl o))))) : MCE l yL_work wsL_work rmL_work ctN false [.ref xp, .int x0, .int x1, .int x2, .ref op] w (some (.int 0)) (w1.set op (.inl (.long, (1, .inr (.inl (vp_updL o 0 v.toInt64)))))) := by
  refine mj_MCEH (cc := cL_work) (nl := 6) (hh := [(0, 12, 15, 13), (0, 12, 19, 28)]) ctN_vm (by decide +kernel) rfl (Nat.le_of_ble_eq_true rfl) ?_
  show GG l cL_work ML_work false (.inl (some (.int 0), w1.set op (.inl (.long, (1, .inr (.inl (vp_updL o 0 v.toInt64))))))) 0 [some (.ref xp), some (.int x0), some (.int x1), some (.int x2), some (.ref op), none] [] w 0 0
  refine G_aload dL_work_0 rfl ?_
  refine G_iconst (v := 0) dL_work_2 (by decide) ?_
  refine G_aload_n dL_work_3 rfl ?_
  refine G_iload_n dL_work_4 rfl ?_
  refine G_iload_n dL_work_5 rfl ?_
  refine G_iload_n dL_work_6 rfl ?_
  refine G_callVi dL_work_7 kX3L_work ⟨rfl, rfl⟩ ⟨Nat.zero_le _, Nat.zero_le _⟩ hM rfl rfl hx rfl rfl ?_
  refine G_i2l dL_work_10 ?_
  refine G_last dL_work_11 ho (show vp_in (nI 0) 1 from vp_in_nI (by omega) (by omega)) rfl ?_
  refine G_goto 23 dL_work_12 (by decide) ?_
  refine G_iconst (v := 0) dL_work_23 (by decide) ?_
  exact G_iret dL_work_24 ⟨Nat.zero_le _, Nat.zero_le _⟩ rfl
theorem lh_work_1 (hM : MCX l yX3_work wsX3_work rmT3_work [.ref xp, .int x0, .int x1, .int x2] w xIO w1) (hx : w[xp]? = some (.inr (3, fs))) : MCE l yL_work wsL_work rmL_work ctN false [.ref xp, .int x0, .int x1, .int x2, .ref op] w (some (.int 1)) (w1) := by
  refine mj_MCEH (cc := cL_work) (nl := 6) (hh := [(0, 12, 15, 13), (0, 12, 19, 28)]) ctN_vm (by decide +kernel) rfl (Nat.le_of_ble_eq_true rfl) ?_
  show GG l cL_work ML_work false (.inl (some (.int 1), w1)) 0 [some (.ref xp), some (.int x0), some (.int x1), some (.int x2), some (.ref op), none] [] w 0 0
  refine G_aload dL_work_0 rfl ?_
  refine G_iconst (v := 0) dL_work_2 (by decide) ?_
  refine G_aload_n dL_work_3 rfl ?_
  refine G_iload_n dL_work_4 rfl ?_
  refine G_iload_n dL_work_5 rfl ?_
  refine G_iload_n dL_work_6 rfl ?_
  refine G_callVC (i := 5) (q2 := 17) dL_work_7 kT3L_work (by decide) hM rfl rfl hx rfl rfl (tb := tableOf [(0, 12, 15, 13), (0, 12, 19, 28)]) rfl [] ⟨0, 12, 15, 13⟩ [⟨0, 12, 19, 28⟩] rfl (fun _ h => absurd h List.not_mem_nil) ⟨rfl, by decide⟩ lkL_work_13 (List.mem_append_right _ (by decide +kernel)) (Or.inl ⟨dL_work_15, rfl⟩) rfl ?_
  refine G_iconst (v := 1) dL_work_17 (by decide) ?_
  exact G_iret dL_work_18 (by decide) rfl
theorem lh_work_2 (hM : MCX l yX3_work wsX3_work rmT3_work [.ref xp, .int x0, .int x1, .int x2] w xIS w1) (hx : w[xp]? = some (.inr (3, fs))) : MCE l yL_work wsL_work rmL_work ctN false [.ref xp, .int x0, .int x1, .int x2, .ref op] w (some (.int 2)) (w1) := by
  refine mj_MCEH (cc := cL_work) (nl := 6) (hh := [(0, 12, 15, 13), (0, 12, 19, 28)]) ctN_vm (by decide +kernel) rfl (Nat.le_of_ble_eq_true rfl) ?_
  show GG l cL_work ML_work false (.inl (some (.int 2), w1)) 0 [some (.ref xp), some (.int x0), some (.int x1), some (.int x2), some (.ref op), none] [] w 0 0
  refine G_aload dL_work_0 rfl ?_
  refine G_iconst (v := 0) dL_work_2 (by decide) ?_
  refine G_aload_n dL_work_3 rfl ?_
  refine G_iload_n dL_work_4 rfl ?_
  refine G_iload_n dL_work_5 rfl ?_
  refine G_iload_n dL_work_6 rfl ?_
  refine G_callVC (i := 5) (q2 := 21) dL_work_7 kT3L_work (by decide) hM rfl rfl hx rfl rfl (tb := tableOf [(0, 12, 15, 13), (0, 12, 19, 28)]) rfl [⟨0, 12, 15, 13⟩] ⟨0, 12, 19, 28⟩ [] rfl (List.forall_mem_cons.mpr ⟨⟨xIO, by decide, lkL_work_13, List.mem_append_right _ (by decide +kernel)⟩, (fun _ h => absurd h List.not_mem_nil)⟩) ⟨rfl, by decide⟩ lkL_work_28 (List.mem_append_right _ (by decide +kernel)) (Or.inl ⟨dL_work_19, rfl⟩) rfl ?_
  refine G_iconst (v := 2) dL_work_21 (by decide) ?_
  exact G_iret dL_work_22 (by decide) rfl
end HD

/-! MAKINGS: a world that grows -/
def mj_lob (n : Nat) (v : Value) : Bool := match v with
  | .ref k => decide (k < n) || decide (4000 ≤ k)
  | _ => true
def mj_nr (v : Value) : Bool := match v with
  | .ref _ => false
  | _ => true
def mj_wfb (n : Nat) (w : mj_W) : Bool := w.all (fun c => match c with
  | .inl _ => true
  | .inr o => o.2.all (mj_lob n))
def mj_losb (n : Nat) (L : mj_L) (st : List Value) : Bool := L.all (fun o => match o with
  | some v => mj_lob n v
  | none => true) && st.all (mj_lob n)
theorem mj_los2 {n : Nat} {L : mj_L} {st : List Value} (h : mj_losb n L st = true) : st.all (mj_lob n) = true := (Bool.and_eq_true_iff.mp h).2
theorem mj_los1 {n : Nat} {L : mj_L} {st : List Value} {i : Nat} {u : Value} (h : mj_losb n L st = true) (hu : L[i]? = some (some u)) : mj_lob n u = true := by
  have h1 := List.all_eq_true.mp (Bool.and_eq_true_iff.mp h).1 _ (List.mem_of_getElem? hu)
  exact h1
theorem mj_v_lo {ad ad' : Nat → Nat} {n : Nat} {v : Value} (h : ∀ k, (k < n ∨ 4000 ≤ k) → ad' k = ad k) (hv : mj_lob n v = true) : mj_v ad' v = mj_v ad v := by
  cases v with
  | ref k =>
    simp only [mj_lob, Bool.or_eq_true, decide_eq_true_eq] at hv
    exact congrArg Value.ref (h k hv)
  | _ => rfl
theorem mj_vs_lo {ad ad' : Nat → Nat} {n : Nat} {vs : List Value} (h : ∀ k, (k < n ∨ 4000 ≤ k) → ad' k = ad k) (hv : vs.all (mj_lob n) = true) : vs.map (mj_v ad') = vs.map (mj_v ad) := List.map_congr_left (fun v hm => mj_v_lo h (List.all_eq_true.mp hv v hm))
theorem mj_l.re {ad ad' : Nat → Nat} {ls : Array Slot} {nl n : Nat} {L : mj_L} {st : List Value} (hl : mj_l ad ls nl L) (h : ∀ k, (k < n ∨ 4000 ≤ k) → ad' k = ad k) (hv : mj_losb n L st = true) : mj_l ad' ls nl L := by
  refine ⟨hl.1, hl.2.1, hl.2.2.1, ?_⟩
  rintro ⟨i, x⟩ hq
  obtain ⟨u, hu, rfl⟩ := mj_lv_mem.mp hq
  rw [mj_v_lo h (mj_los1 hv hu)]
  exact hl.get hu
theorem mj_w_re {ad ad' : Nat → Nat} {cy cy' : Nat → ClassId} {w : mj_W} (hw : mj_wfb w.length w = true) (h : ∀ k, (k < w.length ∨ 4000 ≤ k) → ad' k = ad k) (hc : ∀ k, k < w.length → cy' k = cy k) : mj_w ad' cy' w = mj_w ad cy w := by
  apply List.ext_getElem?
  intro p
  simp only [mj_w, List.getElem?_mapIdx]
  cases hp : w[p]? with
  | none => rfl
  | some c =>
    have hl := (List.getElem?_eq_some_iff.mp hp).1
    have hm := List.all_eq_true.mp hw _ (List.mem_of_getElem? hp)
    simp only [Option.map_some]
    refine congrArg some ?_
    cases c with
    | inl a =>
      show (ad' p, _) = (ad p, _)
      rw [h p (Or.inl hl), hc p hl]
    | inr o =>
      show (ad' p, Sum.inr (o.1, o.2.map (mj_v ad'))) = (ad p, Sum.inr (o.1, o.2.map (mj_v ad)))
      rw [h p (Or.inl hl), mj_vs_lo h hm]
theorem mj_w_app {ad : Nat → Nat} {cy : Nat → ClassId} {w : mj_W} {c : mj_C} : mj_w ad cy (w ++ [c]) = mj_w ad cy w ++ [mj_e ad cy w.length c] := List.mapIdx_concat
def mj_up {α : Type} (f : Nat → α) (n : Nat) (q : α) : Nat → α := fun k => if k = n then q else f k
theorem mj_up_n {α : Type} {f : Nat → α} {n k : Nat} {q : α} (h : k ≠ n) : mj_up f n q k = f k := if_neg h
theorem mj_up_s {α : Type} {f : Nat → α} {n : Nat} {q : α} : mj_up f n q n = q := if_pos rfl
theorem mj_rel.grow {N : Nat} {ad0 ad : Nat → Nat} {w : mj_W} {c : mj_C} {q : Nat} (r : mj_rel true N ad0 ad w) (h : w.length < 4000) : mj_rel true N ad0 (mj_up ad w.length q) (w ++ [c]) := by
  refine ⟨fun e => (by cases e), fun k hk => ?_, by simp only [List.length_append, List.length_cons, List.length_nil]; have := r.2.2.1; omega, by simp only [List.length_append, List.length_cons, List.length_nil]; omega⟩
  have := r.2.2.1
  rw [mj_up_n (by omega)]
  exact r.2.1 k hk
theorem mj_ag {ad : Nat → Nat} {w : mj_W} {q : Nat} (h : w.length < 4000) : ∀ k, (k < w.length ∨ 4000 ≤ k) → mj_up ad w.length q k = ad k := fun k hk => mj_up_n (by omega)
theorem mj_T.app {cy : Nat → ClassId} {w : mj_W} {U : State} {c : mj_C} {cA : ClassId} (h : mj_T cy w U) (hc : ∀ a, c = .inl a → ArrOfT U cA a.1 ∧ va_RA U cA a.1) : mj_T (mj_up cy w.length cA) (w ++ [c]) U := by
  intro p a hp
  by_cases hl : p < w.length
  · rw [List.getElem?_append_left hl] at hp
    rw [mj_up_n (by omega)]
    exact h p a hp
  · rw [List.getElem?_append_right (by omega)] at hp
    have hz : p - w.length < 1 := (List.getElem?_eq_some_iff.mp hp).1
    have e : p = w.length := by omega
    subst e
    rw [Nat.sub_self] at hp
    rw [mj_up_s]
    exact hc a (Option.some.inj hp)
def mj_cwI (M : mj_M) (idx : Nat) (y : MethodName) (ws : List Cond) (rm : Room) (na : Nat) : Prop := ∃ (bytes : ByteArray) (maxL : Nat) (tl : List Cond), GoodIn M.2.2.1 ws ∧ ws = Cond.code y bytes maxL none :: tl ∧ (Cond.initialized y.cls ∈ M.2.2.1 ∧ Cond.methodLink M.1 idx y ∈ M.2.2.1 ∧ Cond.instanceMethod y ∈ M.2.2.1) ∧ y.name = "<init>" ∧ (y.cls ≠ "java/lang/invoke/MethodHandle" ∧ y.cls ≠ "java/lang/invoke/VarHandle" ∧ (parseMethodDescriptor y.desc).map (fun d => d.parameters.length) = some na) ∧ (rm.frames + 1 ≤ M.2.2.2.1.frames ∧ 8 + (maxL + 11) + rm.locals ≤ M.2.2.2.1.locals)
def mj_cwN (M : mj_M) (idx : Nat) (y : MethodName) (host : String) (ws : List Cond) (rm : Room) (na : Nat) : Prop := ∃ (bytes : ByteArray) (maxL : Nat) (tl : List Cond), GoodIn M.2.2.1 ws ∧ ws = Cond.code y bytes maxL none :: tl ∧ (Cond.initialized y.cls ∈ M.2.2.1 ∧ Cond.methodLinkNest M.1 idx y host ∈ M.2.2.1 ∧ Cond.instanceMethod y ∈ M.2.2.1) ∧ y.name = "<init>" ∧ (y.cls ≠ "java/lang/invoke/MethodHandle" ∧ y.cls ≠ "java/lang/invoke/VarHandle" ∧ (parseMethodDescriptor y.desc).map (fun d => d.parameters.length) = some na) ∧ (rm.frames + 1 ≤ M.2.2.2.1.frames ∧ 8 + (maxL + 11) + rm.locals ≤ M.2.2.2.1.locals)
section MJN
variable {l : Launch} {cc : ByteArray} {M : mj_M} {X : mj_R} {pc : Nat} {L : mj_L} {st rest : List Value} {w w1 : mj_W} {k n : Nat} {y : MethodName} {ws : List Cond} {rm : Room} {as : List Value} {idx na : Nat}
theorem G_objInit {b : Bool} {o : Nat} (hd : decode cc pc = .ok (.invokespecial idx, 3)) (hws : Cond.methodLink M.1 idx Lib.objectInit ∈ M.2.2.1 ∧ Cond.instanceMethod Lib.objectInit ∈ M.2.2.1 ∧ Cond.code Lib.objectInit ⟨#[0xb1]⟩ 1 none ∈ M.2.2.1) (hR : 1 ≤ M.2.2.2.1.frames ∧ 20 ≤ M.2.2.2.1.locals) (hcat : Nat.ble (rest.map fun v => v.category).sum 8 = true) (kk : GG l cc M b X (pc + 3) L rest w k n) : GG l cc M b X pc L (.ref o :: rest) w k n := by
  intro p e s m args below meth c Q D A ad0 N F E ad cy H locs ls r P S hl
  exact W.objInit (rest := rest.map (mj_v ad)) F.1 F.2.1 F.2.2.2.1 (mj_hts F _ hws.1) (mj_hts F _ hws.2.1) (mj_hts F _ hws.2.2) rfl (hl.2.1.trans F.2.2.1.symm) rfl hd hR.1 (Nat.le_trans (Nat.add_le_add_right (lv_room (by rw [mj_cats]; exact Nat.le_of_ble_eq_true hcat)) 12) hR.2) (kk p e s m args below meth c Q D A ad0 N F E ad cy H locs ls r P S hl)
theorem G_new {ci N1 : Nat} {C : String} {T : u_T} {fs : List Value} {ty : Nat → FieldType} (hd : decode cc pc = .ok (.new idx, 3)) (hcl : vwCl[ci]? = some (C, T, N1)) (hin : ∀ x ∈ u_ws C T N1, x ∈ M.2.2.1) (hty : ∀ k, k < N1 → parseFieldDescriptor (T k).2.2.1 = some (ty k)) (hws : Cond.classLink M.1 idx C ∈ M.2.2.1 ∧ Cond.instantiable C N1 ∈ M.2.2.1 ∧ Cond.initialized C ∈ M.2.2.1) (hfs : ∀ j, j < N1 → defaultValue (ty j) = vp_V fs j) (href : fs.all mj_nr = true) (hw : mj_wfb w.length w = true) (hl4 : w.length < 4000) (hlo : mj_losb w.length L st = true) (hk : k + 1 ≤ M.2.2.2.1.cells ∧ n + N1 ≤ M.2.2.2.1.slots) (kk : GG l cc M true X (pc + 3) L (.ref w.length :: st) (w ++ [.inr (ci, fs)]) (k + 1) (n + N1)) : GG l cc M true X pc L st w k n := by
  intro p e s m args below meth c Q D A ad0 N F E ad cy H locs ls r P S hl
  refine va_new (D := D) (ci := ci) F.1 F.2.1 (mj_hts F) hin ty hty F.2.2.2.1 (mj_hts F _ hws.1) (mj_hts F _ hws.2.1) (mj_hts F _ hws.2.2) (mj_hK F) P.1 P.2.1 S (mj_hA F) hcl hfs hk.1 hk.2 hd (fun q H1 hP hD hS => ?_)
  have ha := mj_ag (ad := ad) (q := q) hl4
  have e1 : mj_w (mj_up ad w.length q) (mj_up cy w.length 0) (w ++ [.inr (ci, fs)]) = mj_w ad cy w ++ [(q, .inr (ci, fs))] := by
    rw [mj_w_app, mj_w_re hw ha (fun k hk => mj_up_n (by omega))]
    refine congrArg (fun z => mj_w ad cy w ++ [z]) ?_
    show (mj_up ad w.length q w.length, Sum.inr (ci, fs.map (mj_v (mj_up ad w.length q)))) = (q, Sum.inr (ci, fs))
    rw [mj_up_s]
    refine congrArg (fun z => (q, Sum.inr (ci, z))) ?_
    refine (List.map_congr_left (fun v hv => ?_)).trans (List.map_id fs)
    have h0 := List.all_eq_true.mp href v hv
    cases v with
    | ref k0 => cases h0
    | _ => rfl
  have kk' := kk p e s m args below meth c Q D A ad0 N F E (mj_up ad w.length q) (mj_up cy w.length 0) H1 locs ls (r.grow hl4) ⟨by rw [e1]; exact hP, by rw [e1]; exact hD, P.2.2.app (fun a h => by cases h)⟩ hS (hl.re ha hlo)
  have e2 : (Value.ref w.length :: st).map (mj_v (mj_up ad w.length q)) = .ref q :: st.map (mj_v ad) := by
    rw [List.map_cons, mj_vs_lo ha (mj_los2 hlo)]
    show Value.ref (mj_up ad w.length q w.length) :: _ = _
    rw [mj_up_s]
  rw [e2] at kk'
  exact kk'
theorem G_newa {atype : ArrayType} {ty : FieldType} {x : Int32} {N1 : Nat} {a0 : vp_A} (hd : decode cc pc = .ok (.newarray atype, 2)) (hty : newarray.typeOf atype = ty) (harr : Cond.arrayClass (newarray.typeOf atype) ∈ M.2.2.1) (ha0 : ∀ cA : ClassId, vp_cell cA a0 = arrV cA N1 (fun _ => defaultValue ty)) (hx : ¬ x < 0 ∧ x.toNatClampNeg = N1) (hby : Nat.ble (N1 * componentBytes ty) 536870912 = true) (hw : mj_wfb w.length w = true) (hl4 : w.length < 4000) (hlo : mj_losb w.length L st = true) (hk : k + 1 ≤ M.2.2.2.1.cells ∧ n + N1 ≤ M.2.2.2.1.slots) (kk : GG l cc M true X (pc + 2) L (.ref w.length :: st) (w ++ [.inl (ty, a0)]) (k + 1) (n + N1)) : GG l cc M true X pc L (.int x :: st) w k n := by
  intro p e s m args below meth c Q D A ad0 N F E ad cy H locs ls r P S hl
  refine va_newa (D := D) (tys := []) (a0 := a0) F.1 F.2.1 (mj_hts F _ harr) hty (mj_hK F) P.1 P.2.1 S (mj_hA F) ha0 hx.1 hx.2 (Nat.le_of_ble_eq_true hby) hk.1 hk.2 hd (fun q cA H1 hK hP hD hS => ?_)
  have ha := mj_ag (ad := ad) (q := q) hl4
  have e1 : mj_w (mj_up ad w.length q) (mj_up cy w.length cA) (w ++ [.inl (ty, a0)]) = mj_w ad cy w ++ [(q, .inl (cA, a0))] := by
    rw [mj_w_app, mj_w_re hw ha (fun k hk => mj_up_n (by omega))]
    refine congrArg (fun z => mj_w ad cy w ++ [z]) ?_
    show (mj_up ad w.length q w.length, Sum.inl (mj_up cy w.length cA w.length, a0)) = (q, Sum.inl (cA, a0))
    rw [mj_up_s, mj_up_s]
  have hA := hK.2 0 (cA, ty) rfl
  have kk' := kk p e s m args below meth c Q D A ad0 N F E (mj_up ad w.length q) (mj_up cy w.length cA) H1 locs ls (r.grow hl4) ⟨by rw [e1]; exact hP, by rw [e1]; exact hD, P.2.2.app (fun a h => by cases h; exact hA)⟩ hS (hl.re ha hlo)
  have e2 : (Value.ref w.length :: st).map (mj_v (mj_up ad w.length q)) = .ref q :: st.map (mj_v ad) := by
    rw [List.map_cons, mj_vs_lo ha (mj_los2 hlo)]
    show Value.ref (mj_up ad w.length q w.length) :: _ = _
    rw [mj_up_s]
  rw [e2] at kk'
  exact kk'
theorem G_callI {o : Nat} (hd : decode cc pc = .ok (.invokespecial idx, 3)) (hcw : mj_cwI M idx y ws rm na) (hk0 : k + rm.cells ≤ M.2.2.2.1.cells ∧ n + rm.slots ≤ M.2.2.2.1.slots) (hM : MC l y ws rm true (.ref o :: as) w none w1) (hn : as.length = na) (hst : st = as.reverse ++ .ref o :: rest) (hcat : Nat.ble (rest.map fun v => v.category).sum 8 = true) (hlo : mj_losb w.length L rest = true) (kk : GG l cc M true X (pc + 3) L rest w1 (k + rm.cells) (n + rm.slots)) : GG l cc M true X pc L st w k n := by
  intro p e s m args below meth c Q D A ad0 N F E ad cy H locs ls r P S hl
  obtain ⟨bytes, maxL, tl, hg, hws, hii, hnm, hdd, hR⟩ := hcw
  subst hst
  refine mj_after (b1 := true) (v := none) (va_runI (As := as.map (mj_v ad)) (rest := rest.map (mj_v ad)) (b := ad o) ⟨F.1, F.2.1, F.2.2.1, F.2.2.2.1, mj_hts F⟩ (hM r.2.2.2 D ad cy H.size) (cwI na (mj_hts F) hg hws rfl rfl (mj_hts F _ hii.1) (mj_hts F _ hii.2.1) (mj_hts F _ hii.2.2) hnm hdd hR) ⟨mj_blind, mj_pre F P S⟩ rfl (by rw [List.length_map]; exact hn) hl.2.1 (by simp [mj_v]) (lv_room (by rw [mj_cats]; exact Nat.le_of_ble_eq_true hcat)) hd hk0) P S (mj_hA F) (fun ad1 cy1 H1 locs1 hrel hP1 hS1 => ?_)
  show W p l e M.2.2.2.1 s m args below meth c H1 locs1 (k + rm.cells) (n + rm.slots) Q (F0 m (pc + 3) ls (rest.map (mj_v ad)))
  rw [← mj_vs_lo hrel.2.1 (mj_los2 hlo)]
  exact kk p e s m args below meth c Q D A ad0 N F E ad1 cy1 H1 locs1 ls (r.next hrel (fun q => by cases q)) hP1 hS1 (hl.re hrel.2.1 hlo)
theorem G_callN {o : Nat} {host : String} (hd : decode cc pc = .ok (.invokespecial idx, 3)) (hcw : mj_cwN M idx y host ws rm na) (hk0 : k + rm.cells ≤ M.2.2.2.1.cells ∧ n + rm.slots ≤ M.2.2.2.1.slots) (hM : MC l y ws rm true (.ref o :: as) w none w1) (hn : as.length = na) (hst : st = as.reverse ++ .ref o :: rest) (hcat : Nat.ble (rest.map fun v => v.category).sum 8 = true) (hlo : mj_losb w.length L rest = true) (kk : GG l cc M true X (pc + 3) L rest w1 (k + rm.cells) (n + rm.slots)) : GG l cc M true X pc L st w k n := by
  intro p e s m args below meth c Q D A ad0 N F E ad cy H locs ls r P S hl
  obtain ⟨bytes, maxL, tl, hg, hws, hii, hnm, hdd, hR⟩ := hcw
  subst hst
  refine mj_after (b1 := true) (v := none) (va_runIN (As := as.map (mj_v ad)) (rest := rest.map (mj_v ad)) (b := ad o) ⟨F.1, F.2.1, F.2.2.1, F.2.2.2.1, mj_hts F⟩ (hM r.2.2.2 D ad cy H.size) ⟨va_cnB na (mj_hts F) hg hws rfl rfl (va_Nw.of rfl (mj_hts F _ hii.2.1)) (mj_hts F _ hii.1) hdd hR, hnm, mj_hts F _ hii.2.2⟩ ⟨mj_blind, mj_pre F P S⟩ rfl (by rw [List.length_map]; exact hn) hl.2.1 (by simp [mj_v]) (lv_room (by rw [mj_cats]; exact Nat.le_of_ble_eq_true hcat)) hd hk0) P S (mj_hA F) (fun ad1 cy1 H1 locs1 hrel hP1 hS1 => ?_)
  show W p l e M.2.2.2.1 s m args below meth c H1 locs1 (k + rm.cells) (n + rm.slots) Q (F0 m (pc + 3) ls (rest.map (mj_v ad)))
  rw [← mj_vs_lo hrel.2.1 (mj_los2 hlo)]
  exact kk p e s m args below meth c Q D A ad0 N F E ad1 cy1 H1 locs1 ls (r.next hrel (fun q => by cases q)) hP1 hS1 (hl.re hrel.2.1 hlo)
end MJN
/-! a contract that asks some words more, which aren't good words -/
def mj_Pe (ex : List Cond) (D : va_G) (ad : Nat → Nat) (cy : Nat → ClassId) (w : mj_W) (sz : Nat) (as : List Value) : Array Value → State → Prop := fun a U => mj_Pc D ad cy w sz as a U ∧ ∀ q ∈ ex, q.before #[] U = true
def MCE (l : Launch) (y : MethodName) (ws : List Cond) (rm : Room) (ex : List Cond) (b : Bool) (as : List Value) (w : mj_W) (v : Option Value) (w1 : mj_W) : Prop :=
  w.length ≤ 4000 → ∀ (D : va_G) (ad : Nat → Nat) (cy : Nat → ClassId) (sz : Nat), Met l y ws rm (mj_Pe ex D ad cy w sz as) (mj_Qc D ad cy w sz b v w1) rm.cells rm.slots (va_A (mj_w ad cy w) sz)
/-- a word that speaks of the classes alone -/
def mj_vmw (q : Cond) : Prop := ∀ (A A' : Array Value) (U U' : State), U.vm = U'.vm → q.before A U = true → q.before A' U' = true
theorem mj_vmw_t {q : Cond} (h : q.onTables = true) : mj_vmw q := fun A A' U U' e hq => va_tabs h e hq
theorem mj_vmw_n {C T : String} : mj_vmw (.not (.castable C T)) := by
  intro A A' U U' e h
  simp only [Cond.before, Cond.holds, Cond.value] at h ⊢
  rw [← e]
  exact h
theorem mj_nc_word {C T : String} {A : Array Value} {U : State} (h : va_Nc C T U) : (Cond.not (.castable C T)).before A U = true := by
  obtain ⟨c, t, h1, h2, h3⟩ := h
  simp [Cond.before, Cond.holds, Cond.value, h1, h2, h3]
theorem mj_blindE {ex : List Cond} (hex : ∀ q ∈ ex, mj_vmw q) {D : va_G} {ad : Nat → Nat} {cy : Nat → ClassId} {w : mj_W} {sz : Nat} {as : List Value} : FrameBlind (mj_Pe ex D ad cy w sz as) := by
  intro a U g mk q
  exact ⟨mj_blind a U g mk q.1, fun c hc => hex c hc #[] #[] U (U.calling g mk a) rfl (q.2 c hc)⟩
theorem mj_MCE {l : Launch} {y : MethodName} {ws ws' ex : List Cond} {rm : Room} {b : Bool} {as : List Value} {w w1 : mj_W} {v : Option Value} {cc : ByteArray} {nl : Nat} {ret : Option FieldType} (hex : ∀ q ∈ ex, mj_vmw q) (hy : plainFor y = true) (hw : ws = Cond.code y cc nl ret :: ws') (hrt : mj_rt ret v) (hlen : (mj_sl as).length ≤ nl)
    (hG : GG l cc (y.cls, nl, ws ++ ex, rm, y.name == "<init>", none) b (.inl (v, w1)) 0 (mj_in as nl) [] w 0 0) : MCE l y ws rm ex b as w v w1 := by
  intro hw4 D ad cy sz
  refine mj_ofW (cc := cc) (maxL := nl) (ret := ret) hy hw ?_
  intro p e s m args below meth c s₁ B hml hv
  obtain ⟨⟨rfl, hsz, hP, hK, hD, hT, hX⟩, hE⟩ := hv
  have hts := atoms_spec (ws := ws) B.pre
  subst hsz
  rw [lg_entry_eq]
  have hlen' : (lg_sl (as.map (mj_v ad))).length ≤ nl := by rw [mj_sl_len]; exact hlen
  have hl := lv_entry (as.map (mj_v ad)) (n := nl) hlen'
  refine hG p e s m _ below meth c _ D (va_A (mj_w ad cy w) s.heap.size) ad w.length ⟨B.exec, B.bytes, hml, findClass_of_methodNamed B.named, fun q hq => (List.mem_append.mp hq).elim (hts q) (fun h => hex q h #[] _ s s rfl (hE q h)), hK, fun q h => Or.inr h, hX, fun q => ?_, fun t q => by cases q⟩ ?_ ad cy s.heap [] _ ⟨fun _ => rfl, fun _ _ => rfl, Nat.le_refl _, hw4⟩ ⟨hP, hD.self, hT⟩ va_S.rf ⟨?_, hl.1, hl.2.1, ?_⟩
  · have q' : y.name = "<init>" := by simpa using q
    exact (name_of_methodNamed B.named B.method).1.trans q'
  · intro ad1 cy1 H1 locs1 ls1 pc1 k1 n1 hrel hP1 hS1 hk1 hn1 hret
    refine W.widen hk1 hn1 ?_
    have post : ∀ t : State, t.heap = H1 → s.WarmedH t.vm → mj_Qc D ad cy w s.heap.size b v w1 (as.map (mj_v ad)).toArray s (.returned (v.map (mj_v ad1))) t := fun t ht hW => ⟨⟨ad1, cy1, hrel, rfl, by rw [ht]; exact hP1.1, hP1.2.1, hP1.2.2.moved hW.alike⟩, hS1.F ht⟩
    match v, hrt, hret, post with
    | none, hrt, hret, post => exact W.vret B.exec B.bytes (B.returns.trans hrt) post hS1.2.2 hret B.notSynchronized
    | some (.int x), ⟨ty, h1, h2⟩, hret, post => exact W.zret B.exec B.bytes (B.returns.trans h1) h2 post hS1.2.2 hret B.notSynchronized
    | some (.long x), hrt, hret, post => exact W.lret B.exec B.bytes (B.returns.trans hrt) post hS1.2.2 hret B.notSynchronized
    | some (.double x), hrt, hret, post => exact W.dret B.exec B.bytes (B.returns.trans hrt) post hS1.2.2 hret B.notSynchronized
  · simp only [mj_in, List.length_append, List.length_replicate]; omega
  · rintro ⟨i, x⟩ hq
    obtain ⟨u, hu, rfl⟩ := mj_lv_mem.mp hq
    have h := mj_sl_mem ad _ as 0 i u hu
    rw [Nat.zero_add] at h
    exact hl.2.2 _ h

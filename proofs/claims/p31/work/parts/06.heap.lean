/-! MINI, second: fields, arrays, calls, and the contract out of a walk -/
def mj_fl (M : mj_M) (idx ci kf : Nat) : Prop := ∃ (C : String) (T : u_T) (N : Nat), vwCl[ci]? = some (C, T, N) ∧ (∀ x ∈ u_ws C T N, x ∈ M.2.2.1) ∧ kf < N ∧ Cond.fieldLink M.1 idx (T kf).1 (T kf).2.1 (T kf).2.2.1 ∈ M.2.2.1
def mj_flp (M : mj_M) (idx ci kf : Nat) (ty : FieldType) : Prop := ∃ (C : String) (T : u_T) (N : Nat) (ty0 : Nat → FieldType), vwCl[ci]? = some (C, T, N) ∧ (∀ x ∈ u_ws C T N, x ∈ M.2.2.1) ∧ kf < N ∧ Cond.fieldLink M.1 idx (T kf).1 (T kf).2.1 (T kf).2.2.1 ∈ M.2.2.1 ∧ (∀ k, k < N → parseFieldDescriptor (T k).2.2.1 = some (ty0 k)) ∧ (∀ a, a < N → ∀ b, b < N → a ≠ b → (T a).2.1 ≠ (T b).2.1) ∧ parseFieldDescriptor (T kf).2.2.1 = some ty ∧ ((T kf).2.2.2 = false ∨ ((T kf).2.2.2 = true ∧ M.2.2.2.2.1 = true ∧ (T kf).1 = M.1))
theorem mj_w_setO {ad : Nat → Nat} {cy : Nat → ClassId} {w : mj_W} {o ci kf : Nat} {fs : List Value} {v : Value} : (mj_w ad cy w).set o (ad o, .inr (ci, (fs.map (mj_v ad)).set kf (mj_v ad v))) = mj_w ad cy (w.set o (.inr (ci, fs.set kf v))) := by
  rw [← mj_w_set]
  simp [mj_e, List.map_set]
theorem mj_w_setA {ad : Nat → Nat} {cy : Nat → ClassId} {w : mj_W} {o : Nat} {ty : FieldType} {a : vp_A} : (mj_w ad cy w).set o (ad o, .inl (cy o, a)) = mj_w ad cy (w.set o (.inl (ty, a))) := by
  rw [← mj_w_set]
  simp [mj_e]
theorem mj_hts {l : Launch} {cc : ByteArray} {M : mj_M} {D : va_G} {A : Nat → Prop} {p : Program} {s : State} {m : MethodId} {args : Array Value} {meth : Method} {c : Code} (F : mj_F l cc M D A p s m args meth c) : ∀ w ∈ M.2.2.1, w.before args s = true := F.2.2.2.2.1
theorem mj_hK {l : Launch} {cc : ByteArray} {M : mj_M} {D : va_G} {A : Nat → Prop} {p : Program} {s : State} {m : MethodId} {args : Array Value} {meth : Method} {c : Code} (F : mj_F l cc M D A p s m args meth c) : va_K D vwCl [] s := F.2.2.2.2.2.1
theorem mj_hA {l : Launch} {cc : ByteArray} {M : mj_M} {D : va_G} {A : Nat → Prop} {p : Program} {s : State} {m : MethodId} {args : Array Value} {meth : Method} {c : Code} (F : mj_F l cc M D A p s m args meth c) : ∀ q, s.heap.size ≤ q → A q := F.2.2.2.2.2.2.1
theorem mj_hX {l : Launch} {cc : ByteArray} {M : mj_M} {D : va_G} {A : Nat → Prop} {p : Program} {s : State} {m : MethodId} {args : Array Value} {meth : Method} {c : Code} (F : mj_F l cc M D A p s m args meth c) : mj_X A s s.heap := F.2.2.2.2.2.2.2.1
theorem mj_hI {l : Launch} {cc : ByteArray} {M : mj_M} {D : va_G} {A : Nat → Prop} {p : Program} {s : State} {m : MethodId} {args : Array Value} {meth : Method} {c : Code} (F : mj_F l cc M D A p s m args meth c) : M.2.2.2.2.1 = true → meth.name = "<init>" := F.2.2.2.2.2.2.2.2.1
section MJH
variable {l : Launch} {cc : ByteArray} {M : mj_M} {b : Bool} {X : mj_R} {pc : Nat} {L : mj_L} {st : List Value} {w : mj_W} {k n : Nat}
theorem G_getf {idx ci kf o : Nat} {fs : List Value} {v : Value} (hd : decode cc pc = .ok (.getfield idx, 3)) (hf : mj_fl M idx ci kf) (hw : w[o]? = some (.inr (ci, fs))) (hv : fs[kf]? = some v) (kk : GG l cc M b X (pc + 3) L (v :: st) w k n) : GG l cc M b X pc L (.ref o :: st) w k n := by
  intro p e s m args below meth c Q D A ad0 N F E ad cy H locs ls r P S hl
  obtain ⟨C, T, N1, hc, hin, hk, hlink⟩ := hf
  exact va_get (D := D) (ci := ci) (v := mj_v ad v) (C := C) (T := T) (N := N1) (ref := (T kf).1) F.1 F.2.1 (mj_hts F) hin F.2.2.2.1 (mj_hK F) P.1 o (mj_w_get hw) hc kf hk (mj_hts F _ hlink) (fun _ h => h) (by rw [List.getElem?_map, hv]; rfl) hd (kk p e s m args below meth c Q D A ad0 N F E ad cy H locs ls r P S hl)
theorem G_putf {idx ci kf o : Nat} {fs : List Value} {v : Value} {ty : FieldType} (hd : decode cc pc = .ok (.putfield idx, 3)) (hf : mj_flp M idx ci kf ty) (hw : w[o]? = some (.inr (ci, fs))) (hfit : ∀ ad : Nat → Nat, narrow ty (mj_v ad v) = mj_v ad v ∧ fits ty (mj_v ad v) = true) (hlen : kf < fs.length) {w' : mj_W} (hw' : w.set o (.inr (ci, fs.set kf v)) = w') (kk : GG l cc M b X (pc + 3) L st w' k n) : GG l cc M b X pc L (v :: .ref o :: st) w k n := by
  intro p e s m args below meth c Q D A ad0 N F E ad cy H locs ls r P S hl
  obtain ⟨C, T, N1, ty0, hc, hin, hk, hlink, hty, hnm, hpd, hfin⟩ := hf
  have K : ∀ (H1 : Heap) (locs1 : List Loc), va_P D vwCl ((mj_w ad cy w).set o (ad o, .inr (ci, (fs.map (mj_v ad)).set kf (mj_v ad v)))) H1 → va_D A ((mj_w ad cy w).set o (ad o, .inr (ci, (fs.map (mj_v ad)).set kf (mj_v ad v)))) → va_S A s.heap H1 locs1 → W p l e M.2.2.2.1 s m args below meth c H1 locs1 k n Q (F0 m (pc + 3) ls (st.map (mj_v ad))) := by
    intro H1 locs1 hP hD hS
    rw [mj_w_setO] at hP hD
    subst hw'
    exact kk p e s m args below meth c Q D A ad0 N F E ad cy H1 locs1 ls (r.len (by simp)) ⟨hP, hD, P.2.2.setO⟩ hS hl
  rcases hfin with hfin | ⟨hfin, hini, hdecl⟩
  · exact va_put (D := D) (ci := ci) (v := mj_v ad v) (ty := ty) (C := C) (T := T) (N := N1) (ref := (T kf).1) F.1 F.2.1 (mj_hts F) hin ty0 hty hnm F.2.2.2.1 (mj_hK F) P.1 P.2.1 S o (mj_w_get hw) hc kf hk (mj_hts F _ hlink) (fun _ h => h) hfin hpd (hfit ad).1 (hfit ad).2 (by simpa using hlen) hd K
  · exact va_putF (D := D) (ci := ci) (v := mj_v ad v) (ty := ty) (C := C) (T := T) (N := N1) (ref := (T kf).1) F.1 F.2.1 (mj_hts F) hin ty0 hty hnm F.2.2.2.1 (mj_hK F) P.1 P.2.1 S o (mj_w_get hw) hc kf hk (mj_hts F _ hlink) (fun _ h => h) hfin (mj_hI F hini) hdecl hpd (hfit ad).1 (hfit ad).2 (by simpa using hlen) hd K
theorem G_iald {o nn : Nat} {f : Nat → Int32} {i : Int32} (hd : decode cc pc = .ok (.iaload, 1)) (hw : w[o]? = some (.inl (.int, (nn, .inl f)))) (hi : vp_in i nn) (kk : GG l cc M b X (pc + 1) L (.int (f i.toNatClampNeg) :: st) w k n) : GG l cc M b X pc L (.int i :: .ref o :: st) w k n := by
  intro p e s m args below meth c Q D A ad0 N F E ad cy H locs ls r P S hl
  exact va_iald F.1 F.2.1 (mj_K1 (mj_hK F) (P.2.2 o _ hw)) P.1 o 0 (mj_w_get hw) rfl hi hd (kk p e s m args below meth c Q D A ad0 N F E ad cy H locs ls r P S hl)
theorem G_cald {o nn : Nat} {f : Nat → Int32} {i : Int32} (hd : decode cc pc = .ok (.caload, 1)) (hw : w[o]? = some (.inl (.char, (nn, .inl f)))) (hi : vp_in i nn) (kk : GG l cc M b X (pc + 1) L (.int (f i.toNatClampNeg) :: st) w k n) : GG l cc M b X pc L (.int i :: .ref o :: st) w k n := by
  intro p e s m args below meth c Q D A ad0 N F E ad cy H locs ls r P S hl
  exact va_cald F.1 F.2.1 (mj_K1 (mj_hK F) (P.2.2 o _ hw)) P.1 o 0 (mj_w_get hw) rfl hi hd (kk p e s m args below meth c Q D A ad0 N F E ad cy H locs ls r P S hl)
theorem G_lald {o nn : Nat} {f : Nat → Int64} {i : Int32} (hd : decode cc pc = .ok (.laload, 1)) (hw : w[o]? = some (.inl (.long, (nn, .inr (.inl f))))) (hi : vp_in i nn) (kk : GG l cc M b X (pc + 1) L (.long (f i.toNatClampNeg) :: st) w k n) : GG l cc M b X pc L (.int i :: .ref o :: st) w k n := by
  intro p e s m args below meth c Q D A ad0 N F E ad cy H locs ls r P S hl
  exact va_lald F.1 F.2.1 (mj_K1 (mj_hK F) (P.2.2 o _ hw)) P.1 o 0 (mj_w_get hw) rfl hi hd (kk p e s m args below meth c Q D A ad0 N F E ad cy H locs ls r P S hl)
theorem G_iast {o nn : Nat} {f : Nat → Int32} {i x : Int32} (hd : decode cc pc = .ok (.iastore, 1)) (hw : w[o]? = some (.inl (.int, (nn, .inl f)))) (hi : vp_in i nn) {w' : mj_W} (hw' : w.set o (.inl (.int, (nn, .inl (upd f i.toNatClampNeg x)))) = w') (kk : GG l cc M b X (pc + 1) L st w' k n) : GG l cc M b X pc L (.int x :: .int i :: .ref o :: st) w k n := by
  intro p e s m args below meth c Q D A ad0 N F E ad cy H locs ls r P S hl
  refine va_iast F.1 F.2.1 (mj_K1 (mj_hK F) (P.2.2 o _ hw)) P.1 P.2.1 S o 0 (mj_w_get hw) rfl hi hd (fun H1 locs1 hP hD hS => ?_)
  rw [mj_w_setA (ty := .int)] at hP hD
  subst hw'
  exact kk p e s m args below meth c Q D A ad0 N F E ad cy H1 locs1 ls (r.len (by simp)) ⟨hP, hD, P.2.2.set hw⟩ hS hl
theorem G_cast {o nn : Nat} {f : Nat → Int32} {i x : Int32} (hd : decode cc pc = .ok (.castore, 1)) (hw : w[o]? = some (.inl (.char, (nn, .inl f)))) (hi : vp_in i nn) {w' : mj_W} (hw' : w.set o (.inl (.char, (nn, .inl (upd f i.toNatClampNeg (vp_nar .char x))))) = w') (kk : GG l cc M b X (pc + 1) L st w' k n) : GG l cc M b X pc L (.int x :: .int i :: .ref o :: st) w k n := by
  intro p e s m args below meth c Q D A ad0 N F E ad cy H locs ls r P S hl
  refine va_cast F.1 F.2.1 (mj_K1 (mj_hK F) (P.2.2 o _ hw)) P.1 P.2.1 S o 0 (mj_w_get hw) rfl hi hd (fun H1 locs1 hP hD hS => ?_)
  rw [mj_w_setA (ty := .char)] at hP hD
  subst hw'
  exact kk p e s m args below meth c Q D A ad0 N F E ad cy H1 locs1 ls (r.len (by simp)) ⟨hP, hD, P.2.2.set hw⟩ hS hl
theorem G_last {o nn : Nat} {f : Nat → Int64} {i : Int32} {x : Int64} (hd : decode cc pc = .ok (.lastore, 1)) (hw : w[o]? = some (.inl (.long, (nn, .inr (.inl f))))) (hi : vp_in i nn) {w' : mj_W} (hw' : w.set o (.inl (.long, (nn, .inr (.inl (vp_updL f i.toNatClampNeg x))))) = w') (kk : GG l cc M b X (pc + 1) L st w' k n) : GG l cc M b X pc L (.long x :: .int i :: .ref o :: st) w k n := by
  intro p e s m args below meth c Q D A ad0 N F E ad cy H locs ls r P S hl
  refine va_last F.1 F.2.1 (mj_K1 (mj_hK F) (P.2.2 o _ hw)) P.1 P.2.1 S o 0 (mj_w_get hw) rfl hi hd (fun H1 locs1 hP hD hS => ?_)
  rw [mj_w_setA (ty := .long)] at hP hD
  subst hw'
  exact kk p e s m args below meth c Q D A ad0 N F E ad cy H1 locs1 ls (r.len (by simp)) ⟨hP, hD, P.2.2.set hw⟩ hS hl
theorem G_alen {o : Nat} {ty : FieldType} {a : vp_A} {v : Int32} (hd : decode cc pc = .ok (.arraylength, 1)) (hw : w[o]? = some (.inl (ty, a))) (hv : Int32.ofNat a.1 = v) (kk : GG l cc M b X (pc + 1) L (.int v :: st) w k n) : GG l cc M b X pc L (.ref o :: st) w k n := by
  intro p e s m args below meth c Q D A ad0 N F E ad cy H locs ls r P S hl
  exact va_alen F.1 F.2.1 (mj_K1 (mj_hK F) (P.2.2 o _ hw)) P.1 o 0 (mj_w_get hw) rfl hv hd (kk p e s m args below meth c Q D A ad0 N F E ad cy H locs ls r P S hl)
/-- at the end -/
theorem G_end {v : Option Value} (hr : mj_ret cc pc v) (hX : X = .inl (v, w)) (hs : st = v.toList) (hk : k ≤ M.2.2.2.1.cells ∧ n ≤ M.2.2.2.1.slots) : GG l cc M b X pc L st w k n := by
  intro p e s m args below meth c Q D A ad0 N F E ad cy H locs ls r P S hl
  subst hX; subst hs
  exact E ad cy H locs ls pc k n r P S hk.1 hk.2 hr
end MJH
/-! contracts -/
def mj_Pc (D : va_G) (ad : Nat → Nat) (cy : Nat → ClassId) (w : mj_W) (sz : Nat) (as : List Value) : Array Value → State → Prop := va_Pc (as.map (mj_v ad)) (fun U => U.heap.size = sz ∧ va_P D vwCl (mj_w ad cy w) U.heap ∧ va_K D vwCl [] U ∧ va_D (fun _ => True) (mj_w ad cy w) ∧ mj_T cy w U ∧ mj_X (va_A (mj_w ad cy w) sz) U U.heap)
def mj_Qc (D : va_G) (ad : Nat → Nat) (cy : Nat → ClassId) (w : mj_W) (sz : Nat) (b : Bool) (v : Option Value) (w1 : mj_W) : Array Value → State → Outcome → State → Prop := fun _ st oc t => (∃ (ad1 : Nat → Nat) (cy1 : Nat → ClassId), mj_rel b w.length ad ad1 w1 ∧ oc = .returned (v.map (mj_v ad1)) ∧ va_P D vwCl (mj_w ad1 cy1 w1) t.heap ∧ va_D (va_A (mj_w ad cy w) sz) (mj_w ad1 cy1 w1) ∧ mj_T cy1 w1 t) ∧ va_F (va_A (mj_w ad cy w) sz) st t
/-- the method y, called with 'as' in the world w, answers v and leaves the world w1 -/
def MC (l : Launch) (y : MethodName) (ws : List Cond) (rm : Room) (b : Bool) (as : List Value) (w : mj_W) (v : Option Value) (w1 : mj_W) : Prop :=
  w.length ≤ 4000 → ∀ (D : va_G) (ad : Nat → Nat) (cy : Nat → ClassId) (sz : Nat), Met l y ws rm (mj_Pc D ad cy w sz as) (mj_Qc D ad cy w sz b v w1) rm.cells rm.slots (va_A (mj_w ad cy w) sz)
theorem mj_blind {D : va_G} {ad : Nat → Nat} {cy : Nat → ClassId} {w : mj_W} {sz : Nat} {as : List Value} : FrameBlind (mj_Pc D ad cy w sz as) := by
  intro a U g mk q
  obtain ⟨q0, q1, qP, qK, qD, qT, qX⟩ := q
  exact ⟨q0, q1, qP, va_K.moved (u := U) (U := U.calling g mk a) (Vm.Alike.refl U.vm) qK, qD, mj_T.moved (u := U) (U := U.calling g mk a) (Vm.Alike.refl U.vm) qT, mj_X.calling qX⟩
theorem mj_free {D : va_G} {A : Nat → Prop} {ad : Nat → Nat} {cy : Nat → ClassId} {w : mj_W} {s : State} {H : Heap} {locs : List Loc} (P : mj_P D A ad cy w s H) (S : va_S A s.heap H locs) (hA : ∀ q, s.heap.size ≤ q → A q) : ∀ q, va_A (mj_w ad cy w) H.size q → A q := by
  rintro q (⟨k0, e0, h⟩ | h)
  · exact P.2.1.2 k0 (q, e0) h
  · exact hA q (Nat.le_trans S.1 h)
/-- what a callee asks, met -/
theorem mj_pre {l : Launch} {cc : ByteArray} {M : mj_M} {D : va_G} {A : Nat → Prop} {p : Program} {s : State} {m : MethodId} {args : Array Value} {meth : Method} {c : Code} (F : mj_F l cc M D A p s m args meth c) {ad : Nat → Nat} {cy : Nat → ClassId} {w : mj_W} {H : Heap} {locs : List Loc} (P : mj_P D A ad cy w s H) (S : va_S A s.heap H locs) {as : List Value} : ∀ U : State, U.heap = H → s.WarmedH U.vm → mj_Pc D ad cy w H.size as (as.map (mj_v ad)).toArray U := by
  intro U hU hW
  refine ⟨rfl, by rw [hU], by rw [hU]; exact P.1, va_K.moved hW.alike (mj_hK F), P.2.1.weaken (fun _ _ _ _ => trivial), P.2.2.moved hW.alike, ?_⟩
  rw [hU]
  exact ((((mj_hX F).kept S.2.1).narrow (mj_free P S (mj_hA F)))).warm hW
section MJC
variable {p : Program} {l : Launch} {e : Env} {R : Room} {s : State} {m : MethodId} {args : Array Value} {below : List Frame} {meth : Method} {c : Code} {H : Heap} {locs : List Loc} {Q : State → Prop} {D : va_G} {A : Nat → Prop} {ad : Nat → Nat} {cy : Nat → ClassId}
/-- behind a call that returns -/
theorem mj_after {w w1 : mj_W} {k n mc ms pc : Nat} {ls : Array Slot} {st0 rest : List Value} {b1 : Bool} {v : Option Value} {a : Array Value} (hr : va_Run p l e R s m args below meth c H locs k n mc ms (F0 m pc ls st0) rest (mj_Qc D ad cy w H.size b1 v w1 a) (va_A (mj_w ad cy w) H.size)) (P : mj_P D A ad cy w s H) (S : va_S A s.heap H locs) (hA : ∀ q, s.heap.size ≤ q → A q)
    (kk : ∀ (ad1 : Nat → Nat) (cy1 : Nat → ClassId) (H1 : Heap) (locs1 : List Loc), mj_rel b1 w.length ad ad1 w1 → mj_P D A ad1 cy1 w1 s H1 → va_S A s.heap H1 locs1 → W p l e R s m args below meth c H1 locs1 (k + mc) (n + ms) Q (F0 m (pc + 3) ls ((v.map (mj_v ad1)).toList ++ rest))) : W p l e R s m args below meth c H locs k n Q (F0 m pc ls st0) := by
  intro T hT X
  have hA1 := mj_free P S hA
  obtain ⟨v', st₀, t, T', L, h0, X', hL, e1, e2, ⟨⟨ad1, cy1, hrel, hv, hPp, hDd, hTt⟩, hz, hk⟩, st⟩ := hr T hT X
  cases hv
  rw [h0] at hz hk
  obtain ⟨t2, a1, b1⟩ := kk ad1 cy1 T'.heap (locs ++ L) hrel ⟨by rw [e1]; exact hPp, hDd.weaken (fun k0 q _ h => hA1 _ h), hTt.moved (by rw [← e2]; exact X'.warmed.alike.symm)⟩
    ⟨Nat.le_trans S.1 (by rw [e1]; exact hz), fun q h1 h2 => by rw [e1, hk q (Nat.lt_of_lt_of_le h1 S.1) (fun z => h2 (hA1 q z))]; exact S.2.1 q h1 h2, fun q hq => by
      rcases List.mem_append.mp hq with h | h
      · exact S.2.2 q h
      · exact hA1 _ (hL q h)⟩ T' rfl X'
  exact ⟨t2, st t2 a1, b1⟩
end MJC
def mj_cwV (M : mj_M) (idx : Nat) (C : String) (y : MethodName) (ws : List Cond) (rm : Room) (na : Nat) : Prop := ∃ (bytes : ByteArray) (maxL : Nat) (ret : Option FieldType) (tl : List Cond), GoodIn M.2.2.1 (wsV M.1 idx C y ws) ∧ ws = Cond.code y bytes maxL ret :: tl ∧ (y.cls = C ∧ y.cls ≠ "java/lang/invoke/MethodHandle" ∧ y.cls ≠ "java/lang/invoke/VarHandle" ∧ (parseMethodDescriptor y.desc).map (fun d => d.parameters.length) = some na) ∧ (rm.frames + 1 ≤ M.2.2.2.1.frames ∧ 8 + (maxL + 11) + rm.locals ≤ M.2.2.2.1.locals)
def mj_cwS (M : mj_M) (idx : Nat) (y : MethodName) (ws : List Cond) (rm : Room) (na : Nat) : Prop := ∃ (bytes : ByteArray) (maxL : Nat) (ret : Option FieldType) (tl : List Cond), GoodIn M.2.2.1 (va_wsS M.1 idx y ws) ∧ ws = Cond.code y bytes maxL ret :: tl ∧ (y.cls ≠ "java/lang/invoke/MethodHandle" ∧ y.cls ≠ "java/lang/invoke/VarHandle" ∧ (parseMethodDescriptor y.desc).map (fun d => d.parameters.length) = some na) ∧ (rm.frames + 1 ≤ M.2.2.2.1.frames ∧ 8 + (maxL + 11) + rm.locals ≤ M.2.2.2.1.locals)
theorem mj_tl (ad : Nat → Nat) (v : Option Value) (rest : List Value) : (v.map (mj_v ad)).toList ++ rest.map (mj_v ad) = (v.toList ++ rest).map (mj_v ad) := by cases v <;> rfl
theorem mj_rel.next {b b1 : Bool} {N : Nat} {ad0 ad ad1 : Nat → Nat} {w w1 : mj_W} (r : mj_rel b N ad0 ad w) (h : mj_rel b1 w.length ad ad1 w1) (hb : b = false → b1 = false) : mj_rel b N ad0 ad1 w1 := by
  refine ⟨fun q => (h.1 (hb q)).trans (r.1 q), fun k hk => ?_, Nat.le_trans r.2.2.1 h.2.2.1, h.2.2.2⟩
  rw [h.2.1 k (hk.imp (fun q => Nat.lt_of_lt_of_le q r.2.2.1) id), r.2.1 k hk]
section MJD
variable {l : Launch} {cc : ByteArray} {M : mj_M} {b : Bool} {X : mj_R} {pc : Nat} {L : mj_L} {st rest : List Value} {w w1 : mj_W} {k n : Nat} {y : MethodName} {ws : List Cond} {rm : Room} {as : List Value} {v : Option Value} {idx na : Nat}
theorem G_callV {C : String} {T : u_T} {N1 ci o : Nat} {fs : List Value} (hd : decode cc pc = .ok (.invokevirtual idx, 3)) (hcw : mj_cwV M idx C y ws rm na) (h0 : rm.cells = 0 ∧ rm.slots = 0) (hk0 : k ≤ M.2.2.2.1.cells ∧ n ≤ M.2.2.2.1.slots) (hM : MC l y ws rm false (.ref o :: as) w v w1) (hn : as.length = na) (hcl : vwCl[ci]? = some (C, T, N1)) (hw : w[o]? = some (.inr (ci, fs))) (hst : st = as.reverse ++ .ref o :: rest) (hcat : (rest.map fun v => v.category).sum ≤ 8) (kk : GG l cc M b X (pc + 3) L (v.toList ++ rest) w1 k n) : GG l cc M b X pc L st w k n := by
  intro p e s m args below meth c Q D A ad0 N F E ad cy H locs ls r P S hl
  obtain ⟨bytes, maxL, ret, tl, hg, hws, hdd, hR⟩ := hcw
  subst hst
  refine mj_after (va_runV (As := as.map (mj_v ad)) (rest := rest.map (mj_v ad)) (b := ad o) ⟨F.1, F.2.1, F.2.2.1, F.2.2.2.1, mj_hts F⟩ (hM r.2.2.2 D ad cy H.size) (cwV na (mj_hts F) hg hws rfl rfl hdd hR) ⟨mj_blind, va_recv (mj_hK F) P.1 hcl (mj_w_get hw), mj_pre F P S⟩ rfl (by rw [List.length_map]; exact hn) hl.2.1 (by simp [mj_v]) (lv_room (by rw [mj_cats]; exact hcat)) hd (by rw [h0.1, h0.2]; exact hk0)) P S (mj_hA F) (fun ad1 cy1 H1 locs1 hrel hP1 hS1 => ?_)
  have ea : ad1 = ad := hrel.1 rfl
  subst ea
  rw [mj_tl, h0.1, h0.2]
  exact kk p e s m args below meth c Q D A ad0 N F E ad1 cy1 H1 locs1 ls (r.next hrel (fun _ => rfl)) hP1 hS1 hl
theorem G_callS (hd : decode cc pc = .ok (.invokestatic idx, 3)) (hcw : mj_cwS M idx y ws rm na) (h0 : rm.cells = 0 ∧ rm.slots = 0) (hk0 : k ≤ M.2.2.2.1.cells ∧ n ≤ M.2.2.2.1.slots) (hM : MC l y ws rm false as w v w1) (hn : as.length = na) (hst : st = as.reverse ++ rest) (hcat : (rest.map fun v => v.category).sum ≤ 8) (kk : GG l cc M b X (pc + 3) L (v.toList ++ rest) w1 k n) : GG l cc M b X pc L st w k n := by
  intro p e s m args below meth c Q D A ad0 N F E ad cy H locs ls r P S hl
  obtain ⟨bytes, maxL, ret, tl, hg, hws, hdd, hR⟩ := hcw
  subst hst
  refine mj_after (va_runS (As := as.map (mj_v ad)) (rest := rest.map (mj_v ad)) ⟨F.1, F.2.1, F.2.2.1, F.2.2.2.1, mj_hts F⟩ (hM r.2.2.2 D ad cy H.size) (va_cwS na (mj_hts F) hg hws rfl rfl hdd hR) ⟨mj_blind, mj_pre F P S⟩ rfl (by rw [List.length_map]; exact hn) hl.2.1 (by simp) (lv_room (by rw [mj_cats]; exact hcat)) hd (by rw [h0.1, h0.2]; exact hk0)) P S (mj_hA F) (fun ad1 cy1 H1 locs1 hrel hP1 hS1 => ?_)
  have ea : ad1 = ad := hrel.1 rfl
  subst ea
  rw [mj_tl, h0.1, h0.2]
  exact kk p e s m args below meth c Q D A ad0 N F E ad1 cy1 H1 locs1 ls (r.next hrel (fun _ => rfl)) hP1 hS1 hl
theorem G_min {x z : Int32} (hd : decode cc pc = .ok (.invokestatic idx, 3)) (hw : Cond.methodLink M.1 idx Lib.Math.min.name ∈ M.2.2.1 ∧ Cond.static Lib.Math.min.name ∈ M.2.2.1 ∧ Cond.initialized "java/lang/Math" ∈ M.2.2.1 ∧ Cond.code Lib.Math.min.name Lib.Math.min.code 2 (some .int) ∈ M.2.2.1) (hR : 1 ≤ M.2.2.2.1.frames ∧ 21 ≤ M.2.2.2.1.locals) (hk0 : k ≤ M.2.2.2.1.cells ∧ n ≤ M.2.2.2.1.slots) (hcat : (rest.map fun v => v.category).sum ≤ 8) (kk : GG l cc M b X (pc + 3) L (.int (if z < x then z else x) :: rest) w k n) : GG l cc M b X pc L (.int z :: .int x :: rest) w k n := by
  intro p e s m args below meth c Q D A ad0 N F E ad cy H locs ls r P S hl
  exact va_mmin F.1 F.2.1 (F.2.2.1.trans hl.2.1.symm) F.2.2.2.1 (mj_hts F _ hw.1) (mj_hts F _ hw.2.1) (mj_hts F _ hw.2.2.1) (mj_hts F _ hw.2.2.2) hR.1 (by rw [mj_cats]; omega) hk0.1 hk0.2 hd (kk p e s m args below meth c Q D A ad0 N F E ad cy H locs ls r P S hl)
theorem G_max {x z : Int32} (hd : decode cc pc = .ok (.invokestatic idx, 3)) (hw : Cond.methodLink M.1 idx Lib.Math.max.name ∈ M.2.2.1 ∧ Cond.static Lib.Math.max.name ∈ M.2.2.1 ∧ Cond.initialized "java/lang/Math" ∈ M.2.2.1 ∧ Cond.code Lib.Math.max.name Lib.Math.max.code 2 (some .int) ∈ M.2.2.1) (hR : 1 ≤ M.2.2.2.1.frames ∧ 21 ≤ M.2.2.2.1.locals) (hk0 : k ≤ M.2.2.2.1.cells ∧ n ≤ M.2.2.2.1.slots) (hcat : (rest.map fun v => v.category).sum ≤ 8) (kk : GG l cc M b X (pc + 3) L (.int (if x < z then z else x) :: rest) w k n) : GG l cc M b X pc L (.int z :: .int x :: rest) w k n := by
  intro p e s m args below meth c Q D A ad0 N F E ad cy H locs ls r P S hl
  exact va_mmax F.1 F.2.1 (F.2.2.1.trans hl.2.1.symm) F.2.2.2.1 (mj_hts F _ hw.1) (mj_hts F _ hw.2.1) (mj_hts F _ hw.2.2.1) (mj_hts F _ hw.2.2.2) hR.1 (by rw [mj_cats]; omega) hk0.1 hk0.2 hd (kk p e s m args below meth c Q D A ad0 N F E ad cy H locs ls r P S hl)
end MJD
/-! the contract out of a walk -/
def mj_sl (as : List Value) : mj_L := as.flatMap fun v => if v.category = 2 then [some v, none] else [some v]
def mj_in (as : List Value) (nl : Nat) : mj_L := mj_sl as ++ List.replicate (nl - (mj_sl as).length) none
theorem mj_sl_mem (ad : Nat → Nat) (r : Nat) : ∀ (as : List Value) (j i : Nat) (v : Value), (mj_sl as ++ List.replicate r none)[i]? = some (some v) → (j + i, mj_v ad v) ∈ lv_args j (as.map (mj_v ad))
  | [], j, i, v, h => by
    simp only [mj_sl, List.flatMap_nil, List.nil_append, List.getElem?_replicate] at h
    split at h <;> cases h
  | a :: as, j, i, v, h => by
    simp only [List.map_cons, lv_args, mj_cat]
    by_cases hc : a.category = 2
    · have e : mj_sl (a :: as) = some a :: none :: mj_sl as := by simp [mj_sl, hc]
      rw [e] at h
      match i, h with
      | 0, h => cases h; exact List.mem_cons_self
      | 1, h => cases h
      | i + 2, h =>
        have h' : (mj_sl as ++ List.replicate r none)[i]? = some (some v) := h
        have q := mj_sl_mem ad r as (j + 2) i v h'
        rw [if_pos hc]
        rw [show j + (i + 2) = j + 2 + i by omega]
        exact List.mem_cons_of_mem _ q
    · have e : mj_sl (a :: as) = some a :: mj_sl as := by simp [mj_sl, hc]
      rw [e] at h
      match i, h with
      | 0, h => cases h; exact List.mem_cons_self
      | i + 1, h =>
        have h' : (mj_sl as ++ List.replicate r none)[i]? = some (some v) := h
        have q := mj_sl_mem ad r as (j + 1) i v h'
        rw [if_neg hc]
        rw [show j + (i + 1) = j + 1 + i by omega]
        exact List.mem_cons_of_mem _ q
theorem mj_sl_len (ad : Nat → Nat) : ∀ as : List Value, (lg_sl (as.map (mj_v ad))).length = (mj_sl as).length
  | [] => rfl
  | a :: as => by
    have h := mj_sl_len ad as
    simp only [lg_sl, mj_sl, List.map_cons, List.flatMap_cons, List.length_append, mj_cat] at h ⊢
    split <;> simp_all
def mj_rt (ret : Option FieldType) (v : Option Value) : Prop := match v with
  | none => ret = none
  | some (.int x) => ∃ ty, ret = some ty ∧ narrow ty (.int x) = .int x
  | some (.long _) => ret = some .long
  | some (.double _) => ret = some .double
  | _ => False
theorem mj_ofW {l : Launch} {y : MethodName} {ws ws' : List Cond} {rm : Room} {Pc : Array Value → State → Prop} {Qc : Array Value → State → Outcome → State → Prop} {mc ms : Nat} {free : Addr → Prop} {cc : ByteArray} {maxL : Nat} {ret : Option FieldType}
    (hy : plainFor y = true) (hw : ws = Cond.code y cc maxL ret :: ws')
    (body : ∀ p e s m args below meth c s₁, BodyLoose p l y (headSpec ws rm) cc maxL ret e s m args below meth c s₁ → c.maxLocals = maxL → Pc args s →
      W p l e (headSpec ws rm).room s m args below meth c s.heap [] 0 0 (MQ below Qc args s mc ms free) (entryFrame m args maxL)) : Met l y ws rm Pc Qc mc ms free := by
  refine MetFree.of_bodySF (code := cc) (maxLocals := maxL) (ret := ret) hy ?_ ?_
  · intro args s m h hn
    obtain ⟨meth, c, h1, h2, h3, h4, h5, h6, -, -⟩ := Cond.code_spec hn (atoms_spec (ws := ws) h _ (by rw [hw]; exact List.mem_cons_self))
    exact ⟨meth, c, h1, h2, h3, h4, h5, h6⟩
  · intro p e s m args below meth c s₁ B hml hP _
    have hh0 : s₁.heap = s.heap := by rw [B.state]; rfl
    obtain ⟨t, a1, o, b1, b2, b3⟩ := body p e s m args below meth c s₁ B hml hP s₁ hh0 (Stand.of_body B)
    exact ⟨t, o, a1, b1, b2, ⟨b3.1, b3.2⟩⟩
theorem mj_MC {l : Launch} {y : MethodName} {ws ws' : List Cond} {rm : Room} {b : Bool} {as : List Value} {w w1 : mj_W} {v : Option Value} {cc : ByteArray} {nl : Nat} {ret : Option FieldType} (hy : plainFor y = true) (hw : ws = Cond.code y cc nl ret :: ws') (hrt : mj_rt ret v) (hlen : (mj_sl as).length ≤ nl)
    (hG : GG l cc (y.cls, nl, ws, rm, y.name == "<init>", none) b (.inl (v, w1)) 0 (mj_in as nl) [] w 0 0) : MC l y ws rm b as w v w1 := by
  intro hw4 D ad cy sz
  refine mj_ofW (cc := cc) (maxL := nl) (ret := ret) hy hw ?_
  intro p e s m args below meth c s₁ B hml hv
  obtain ⟨rfl, hsz, hP, hK, hD, hT, hX⟩ := hv
  have hts := atoms_spec (ws := ws) B.pre
  subst hsz
  rw [lg_entry_eq]
  have hlen' : (lg_sl (as.map (mj_v ad))).length ≤ nl := by rw [mj_sl_len]; exact hlen
  have hl := lv_entry (as.map (mj_v ad)) (n := nl) hlen'
  refine hG p e s m _ below meth c _ D (va_A (mj_w ad cy w) s.heap.size) ad w.length ⟨B.exec, B.bytes, hml, findClass_of_methodNamed B.named, hts, hK, fun q h => Or.inr h, hX, fun q => ?_, fun t q => by cases q⟩ ?_ ad cy s.heap [] _ ⟨fun _ => rfl, fun _ _ => rfl, Nat.le_refl _, hw4⟩ ⟨hP, hD.self, hT⟩ va_S.rf ⟨?_, hl.1, hl.2.1, ?_⟩
  · have q' : y.name = "<init>" := by simpa using q
    exact (name_of_methodNamed B.named B.method).1.trans q'
  · intro ad1 cy1 H1 locs1 ls1 pc1 k1 n1 hrel hP1 hS1 hk1 hn1 hret
    refine W.widen hk1 hn1 ?_
    have post : ∀ t : State, t.heap = H1 → s.WarmedH t.vm → mj_Qc D ad cy w s.heap.size b v w1 (as.map (mj_v ad)).toArray s (.returned (v.map (mj_v ad1))) t := fun t ht hW => ⟨⟨ad1, cy1, hrel, rfl, by rw [ht]; exact hP1.1, hP1.2.1, hP1.2.2.moved hW.alike⟩, hS1.F ht⟩
    match v, hrt, hret, post with
    | none, hrt, hret, post => exact W.vret B.exec B.bytes (B.returns.trans hrt) post hS1.2.2 hret B.notSynchronized
    | some (.int x), ⟨ty, h1, h2⟩, hret, post => exact W.zret B.exec B.bytes (B.returns.trans h1) h2 post hS1.2.2 hret B.notSynchronized
    | some (.long x), hrt, hret, post => exact W.lret B.exec B.bytes (B.returns.trans hrt) post hS1.2.2 hret B.notSynchronized
    | some (.double x), hrt, hret, post => exact W.dret B.exec B.bytes (B.returns.trans hrt) post hS1.2.2 hret B.notSynchronized
  · simp only [mj_in, List.length_append, List.length_replicate]; omega
  · rintro ⟨i, x⟩ hq
    obtain ⟨u, hu, rfl⟩ := mj_lv_mem.mp hq
    have h := mj_sl_mem ad _ as 0 i u hu
    rw [Nat.zero_add] at h
    exact hl.2.2 _ h
section MJE
variable {l : Launch} {cc : ByteArray} {M : mj_M} {b : Bool} {X : mj_R} {pc : Nat} {L : mj_L} {st rest : List Value} {w w1 : mj_W} {k n : Nat} {y : MethodName} {ws : List Cond} {rm : Room} {as : List Value} {v : Option Value} {idx na : Nat}
theorem G_callVi {x : Int32} {C : String} {T : u_T} {N1 ci o : Nat} {fs : List Value} (hd : decode cc pc = .ok (.invokevirtual idx, 3)) (hcw : mj_cwV M idx C y ws rm na) (h0 : rm.cells = 0 ∧ rm.slots = 0) (hk0 : k ≤ M.2.2.2.1.cells ∧ n ≤ M.2.2.2.1.slots) (hM : MC l y ws rm false (.ref o :: as) w (some (.int x)) w1) (hn : as.length = na) (hcl : vwCl[ci]? = some (C, T, N1)) (hw : w[o]? = some (.inr (ci, fs))) (hst : st = as.reverse ++ .ref o :: rest) (hcat : Nat.ble (rest.map fun v => v.category).sum 8 = true) (kk : GG l cc M b X (pc + 3) L (.int x :: rest) w1 k n) : GG l cc M b X pc L st w k n := G_callV hd hcw h0 hk0 hM hn hcl hw hst (Nat.le_of_ble_eq_true hcat) kk
theorem G_callVl {x : Int64} {C : String} {T : u_T} {N1 ci o : Nat} {fs : List Value} (hd : decode cc pc = .ok (.invokevirtual idx, 3)) (hcw : mj_cwV M idx C y ws rm na) (h0 : rm.cells = 0 ∧ rm.slots = 0) (hk0 : k ≤ M.2.2.2.1.cells ∧ n ≤ M.2.2.2.1.slots) (hM : MC l y ws rm false (.ref o :: as) w (some (.long x)) w1) (hn : as.length = na) (hcl : vwCl[ci]? = some (C, T, N1)) (hw : w[o]? = some (.inr (ci, fs))) (hst : st = as.reverse ++ .ref o :: rest) (hcat : Nat.ble (rest.map fun v => v.category).sum 8 = true) (kk : GG l cc M b X (pc + 3) L (.long x :: rest) w1 k n) : GG l cc M b X pc L st w k n := G_callV hd hcw h0 hk0 hM hn hcl hw hst (Nat.le_of_ble_eq_true hcat) kk
theorem G_callVd {x : UInt64} {C : String} {T : u_T} {N1 ci o : Nat} {fs : List Value} (hd : decode cc pc = .ok (.invokevirtual idx, 3)) (hcw : mj_cwV M idx C y ws rm na) (h0 : rm.cells = 0 ∧ rm.slots = 0) (hk0 : k ≤ M.2.2.2.1.cells ∧ n ≤ M.2.2.2.1.slots) (hM : MC l y ws rm false (.ref o :: as) w (some (.double x)) w1) (hn : as.length = na) (hcl : vwCl[ci]? = some (C, T, N1)) (hw : w[o]? = some (.inr (ci, fs))) (hst : st = as.reverse ++ .ref o :: rest) (hcat : Nat.ble (rest.map fun v => v.category).sum 8 = true) (kk : GG l cc M b X (pc + 3) L (.double x :: rest) w1 k n) : GG l cc M b X pc L st w k n := G_callV hd hcw h0 hk0 hM hn hcl hw hst (Nat.le_of_ble_eq_true hcat) kk
theorem G_callVv {C : String} {T : u_T} {N1 ci o : Nat} {fs : List Value} (hd : decode cc pc = .ok (.invokevirtual idx, 3)) (hcw : mj_cwV M idx C y ws rm na) (h0 : rm.cells = 0 ∧ rm.slots = 0) (hk0 : k ≤ M.2.2.2.1.cells ∧ n ≤ M.2.2.2.1.slots) (hM : MC l y ws rm false (.ref o :: as) w none w1) (hn : as.length = na) (hcl : vwCl[ci]? = some (C, T, N1)) (hw : w[o]? = some (.inr (ci, fs))) (hst : st = as.reverse ++ .ref o :: rest) (hcat : Nat.ble (rest.map fun v => v.category).sum 8 = true) (kk : GG l cc M b X (pc + 3) L rest w1 k n) : GG l cc M b X pc L st w k n := G_callV hd hcw h0 hk0 hM hn hcl hw hst (Nat.le_of_ble_eq_true hcat) kk
theorem G_callSi {x : Int32} (hd : decode cc pc = .ok (.invokestatic idx, 3)) (hcw : mj_cwS M idx y ws rm na) (h0 : rm.cells = 0 ∧ rm.slots = 0) (hk0 : k ≤ M.2.2.2.1.cells ∧ n ≤ M.2.2.2.1.slots) (hM : MC l y ws rm false as w (some (.int x)) w1) (hn : as.length = na) (hst : st = as.reverse ++ rest) (hcat : Nat.ble (rest.map fun v => v.category).sum 8 = true) (kk : GG l cc M b X (pc + 3) L (.int x :: rest) w1 k n) : GG l cc M b X pc L st w k n := G_callS hd hcw h0 hk0 hM hn hst (Nat.le_of_ble_eq_true hcat) kk
theorem G_callSl {x : Int64} (hd : decode cc pc = .ok (.invokestatic idx, 3)) (hcw : mj_cwS M idx y ws rm na) (h0 : rm.cells = 0 ∧ rm.slots = 0) (hk0 : k ≤ M.2.2.2.1.cells ∧ n ≤ M.2.2.2.1.slots) (hM : MC l y ws rm false as w (some (.long x)) w1) (hn : as.length = na) (hst : st = as.reverse ++ rest) (hcat : Nat.ble (rest.map fun v => v.category).sum 8 = true) (kk : GG l cc M b X (pc + 3) L (.long x :: rest) w1 k n) : GG l cc M b X pc L st w k n := G_callS hd hcw h0 hk0 hM hn hst (Nat.le_of_ble_eq_true hcat) kk
theorem G_callSv (hd : decode cc pc = .ok (.invokestatic idx, 3)) (hcw : mj_cwS M idx y ws rm na) (h0 : rm.cells = 0 ∧ rm.slots = 0) (hk0 : k ≤ M.2.2.2.1.cells ∧ n ≤ M.2.2.2.1.slots) (hM : MC l y ws rm false as w none w1) (hn : as.length = na) (hst : st = as.reverse ++ rest) (hcat : Nat.ble (rest.map fun v => v.category).sum 8 = true) (kk : GG l cc M b X (pc + 3) L rest w1 k n) : GG l cc M b X pc L st w k n := G_callS hd hcw h0 hk0 hM hn hst (Nat.le_of_ble_eq_true hcat) kk
theorem G_iret {x : Int32} (hd : decode cc pc = .ok (.ireturn, 1)) (hk : k ≤ M.2.2.2.1.cells ∧ n ≤ M.2.2.2.1.slots) (hX : X = .inl (some (.int x), w)) : GG l cc M b X pc L [.int x] w k n := G_end (v := some (.int x)) hd hX rfl hk
theorem G_lret {x : Int64} (hd : decode cc pc = .ok (.lreturn, 1)) (hk : k ≤ M.2.2.2.1.cells ∧ n ≤ M.2.2.2.1.slots) (hX : X = .inl (some (.long x), w)) : GG l cc M b X pc L [.long x] w k n := G_end (v := some (.long x)) hd hX rfl hk
theorem G_dret {x : UInt64} (hd : decode cc pc = .ok (.dreturn, 1)) (hk : k ≤ M.2.2.2.1.cells ∧ n ≤ M.2.2.2.1.slots) (hX : X = .inl (some (.double x), w)) : GG l cc M b X pc L [.double x] w k n := G_end (v := some (.double x)) hd hX rfl hk
theorem G_vret (hd : decode cc pc = .ok (.return_, 1)) (hk : k ≤ M.2.2.2.1.cells ∧ n ≤ M.2.2.2.1.slots) (hX : X = .inl (none, w)) : GG l cc M b X pc L [] w k n := G_end (v := none) hd hX rfl hk
theorem G_ialdN {o nn j : Nat} {f : Nat → Int32} (hd : decode cc pc = .ok (.iaload, 1)) (hw : w[o]? = some (.inl (.int, (nn, .inl f)))) (hj : j < nn ∧ nn < 2147483648) (kk : GG l cc M b X (pc + 1) L (.int (f j) :: st) w k n) : GG l cc M b X pc L (.int (nI j) :: .ref o :: st) w k n := G_iald hd hw (vp_in_nI hj.1 hj.2) (by rw [nI_clamp (by omega)]; exact kk)
theorem G_caldN {o nn j : Nat} {f : Nat → Int32} (hd : decode cc pc = .ok (.caload, 1)) (hw : w[o]? = some (.inl (.char, (nn, .inl f)))) (hj : j < nn ∧ nn < 2147483648) (kk : GG l cc M b X (pc + 1) L (.int (f j) :: st) w k n) : GG l cc M b X pc L (.int (nI j) :: .ref o :: st) w k n := G_cald hd hw (vp_in_nI hj.1 hj.2) (by rw [nI_clamp (by omega)]; exact kk)
theorem G_iastN {o nn j : Nat} {f : Nat → Int32} {x : Int32} {w' : mj_W} (hd : decode cc pc = .ok (.iastore, 1)) (hw : w[o]? = some (.inl (.int, (nn, .inl f)))) (hj : j < nn ∧ nn < 2147483648) (hw' : w.set o (.inl (.int, (nn, .inl (upd f j x)))) = w') (kk : GG l cc M b X (pc + 1) L st w' k n) : GG l cc M b X pc L (.int x :: .int (nI j) :: .ref o :: st) w k n := G_iast hd hw (vp_in_nI hj.1 hj.2) (by rw [nI_clamp (by omega)]; exact hw') kk
theorem G_castN {o nn j : Nat} {f : Nat → Int32} {x : Int32} {w' : mj_W} (hd : decode cc pc = .ok (.castore, 1)) (hw : w[o]? = some (.inl (.char, (nn, .inl f)))) (hj : j < nn ∧ nn < 2147483648) (hw' : w.set o (.inl (.char, (nn, .inl (upd f j (vp_nar .char x))))) = w') (kk : GG l cc M b X (pc + 1) L st w' k n) : GG l cc M b X pc L (.int x :: .int (nI j) :: .ref o :: st) w k n := G_cast hd hw (vp_in_nI hj.1 hj.2) (by rw [nI_clamp (by omega)]; exact hw') kk
end MJE

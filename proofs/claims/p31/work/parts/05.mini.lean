/-! MINI: a method's frame over a world of numbered places: 'GG .. pc L st w' says that the machine goes from there to the end X. Own rows over the kit's. -/
abbrev mj_C : Type := (FieldType × vp_A) ⊕ (Nat × List Value)
abbrev mj_W : Type := List mj_C
abbrev mj_L : Type := List (Option Value)
abbrev mj_R : Type := (Option Value × mj_W) ⊕ (String × mj_W)
/-- own class, maxLocals, words, room, whether it makes an object, the handlers where they are known -/
abbrev mj_M : Type := String × Nat × List Cond × Room × Bool × Option (List ExceptionTableEntry)
def mj_v (ad : Nat → Nat) (v : Value) : Value := match v with
  | .ref k => .ref (ad k)
  | v => v
def mj_e (ad : Nat → Nat) (cy : Nat → ClassId) (p : Nat) (c : mj_C) : Nat × va_E := (ad p, match c with
  | .inl a => .inl (cy p, a.2)
  | .inr o => .inr (o.1, o.2.map (mj_v ad)))
def mj_w (ad : Nat → Nat) (cy : Nat → ClassId) (w : mj_W) : va_W := w.mapIdx (mj_e ad cy)
theorem mj_w_get {ad : Nat → Nat} {cy : Nat → ClassId} {w : mj_W} {p : Nat} {c : mj_C} (h : w[p]? = some c) : (mj_w ad cy w)[p]? = some (mj_e ad cy p c) := by
  simp [mj_w, h]
theorem mj_w_set {ad : Nat → Nat} {cy : Nat → ClassId} {w : mj_W} {p : Nat} {c : mj_C} : (mj_w ad cy w).set p (mj_e ad cy p c) = mj_w ad cy (w.set p c) := by
  simp [mj_w, List.mapIdx_set]
/-- the arrays' classes -/
def mj_T (cy : Nat → ClassId) (w : mj_W) (U : State) : Prop := ∀ (p : Nat) (a : FieldType × vp_A), w[p]? = some (.inl a) → ArrOfT U (cy p) a.1 ∧ va_RA U (cy p) a.1
theorem mj_T.moved {cy : Nat → ClassId} {w : mj_W} {u U : State} (hvm : u.vm.Alike U.vm) (h : mj_T cy w u) : mj_T cy w U := fun p a hp => ⟨arrOfT_moved hvm (h p a hp).1, (h p a hp).2.moved hvm⟩
theorem mj_T.set {cy : Nat → ClassId} {w : mj_W} {U : State} {p : Nat} {ty : FieldType} {a b : vp_A} (h : mj_T cy w U) (hp : w[p]? = some (.inl (ty, a))) : mj_T cy (w.set p (.inl (ty, b))) U := by
  intro q c hq
  rw [List.getElem?_set] at hq
  by_cases hpq : p = q
  · subst hpq
    rw [if_pos rfl] at hq
    split at hq
    · cases hq
      exact h p (ty, a) hp
    · cases hq
  · rw [if_neg hpq] at hq
    exact h q c hq
theorem mj_T.setO {cy : Nat → ClassId} {w : mj_W} {U : State} {p : Nat} {o : Nat × List Value} (h : mj_T cy w U) : mj_T cy (w.set p (.inr o)) U := by
  intro q c hq
  rw [List.getElem?_set] at hq
  by_cases hpq : p = q
  · subst hpq
    rw [if_pos rfl] at hq
    split at hq <;> cases hq
  · rw [if_neg hpq] at hq
    exact h q c hq
def mj_P (D : va_G) (A : Nat → Prop) (ad : Nat → Nat) (cy : Nat → ClassId) (w : mj_W) (s : State) (H : Heap) : Prop := va_P D vwCl (mj_w ad cy w) H ∧ va_D A (mj_w ad cy w) ∧ mj_T cy w s
theorem mj_K1 {D : va_G} {s : State} {cA : ClassId} {ty : FieldType} (hK : va_K D vwCl [] s) (h : ArrOfT s cA ty ∧ va_RA s cA ty) : va_K D vwCl [(cA, ty)] s := ⟨hK.1, fun k q hq => by
  cases k with
  | zero => cases hq; exact h
  | succ k => cases hq⟩
/-! locals -/
def mj_lv (ad : Nat → Nat) (L : mj_L) : List (Nat × Value) := (List.range L.length).filterMap (fun i => (L[i]?.join).map (fun v => (i, mj_v ad v)))
theorem mj_lv_mem {ad : Nat → Nat} {L : mj_L} {i : Nat} {x : Value} : (i, x) ∈ mj_lv ad L ↔ ∃ v, L[i]? = some (some v) ∧ x = mj_v ad v := by
  simp only [mj_lv, List.mem_filterMap, List.mem_range, Option.map_eq_some_iff]
  constructor
  · rintro ⟨j, hj, v, hv, he⟩
    cases he
    refine ⟨v, ?_, rfl⟩
    cases hc : L[i]? with
    | none => rw [hc] at hv; cases hv
    | some o => rw [hc] at hv; exact congrArg some hv
  · rintro ⟨v, hv, rfl⟩
    refine ⟨i, (List.getElem?_eq_some_iff.mp hv).1, v, ?_, rfl⟩
    rw [hv]; rfl
def mj_l (ad : Nat → Nat) (ls : Array Slot) (nl : Nat) (L : mj_L) : Prop := L.length = nl ∧ lv_has ls nl (mj_lv ad L)
theorem mj_l.get {ad : Nat → Nat} {ls : Array Slot} {nl : Nat} {L : mj_L} {i : Nat} {v : Value} (h : mj_l ad ls nl L) (hi : L[i]? = some (some v)) : ls[i]? = some (.val (mj_v ad v)) := h.2.2.2 (i, mj_v ad v) (mj_lv_mem.mpr ⟨v, hi, rfl⟩)
theorem mj_cat (ad : Nat → Nat) (v : Value) : (mj_v ad v).category = v.category := by cases v <;> rfl
theorem mj_cats (ad : Nat → Nat) (vs : List Value) : ((vs.map (mj_v ad)).map fun v => v.category).sum = (vs.map fun v => v.category).sum := by
  rw [List.map_map]
  congr 1
  exact List.map_congr_left (fun v _ => mj_cat ad v)
def mj_cl (L : mj_L) (i : Nat) : mj_L := match i with
  | 0 => L
  | j + 1 => match L[j]? with
    | some (some (.long _)) => L.set j none
    | some (some (.double _)) => L.set j none
    | _ => L
def mj_st (L : mj_L) (i : Nat) (v : Value) : mj_L := (mj_cl L i).set i (some v)
def mj_st2 (L : mj_L) (i : Nat) (v : Value) : mj_L := ((mj_cl L i).set i (some v)).set (i + 1) none
theorem mj_cl_len {L : mj_L} {i : Nat} : (mj_cl L i).length = L.length := by
  unfold mj_cl
  split
  · rfl
  · split <;> simp
theorem mj_cl_get {L : mj_L} {i j : Nat} {v : Value} (h : (mj_cl L i)[j]? = some (some v)) : L[j]? = some (some v) ∧ ¬ (j + 1 = i ∧ v.category = 2) := by
  unfold mj_cl at h
  split at h
  · exact ⟨h, fun q => by omega⟩
  · rename_i i0
    split at h
    · rw [List.getElem?_set] at h
      split at h
      · split at h <;> cases h
      · rename_i hne
        exact ⟨h, fun q => hne (by omega)⟩
    · rw [List.getElem?_set] at h
      split at h
      · split at h <;> cases h
      · rename_i hne
        exact ⟨h, fun q => hne (by omega)⟩
    · rename_i hl hd
      refine ⟨h, fun q => ?_⟩
      obtain ⟨q1, q2⟩ := q
      have e : j = i0 := by omega
      subst e
      cases v <;> first | (exact absurd q2 (by decide)) | (exact hl _ h) | (exact hd _ h) | (simp [Value.category] at q2)
theorem mj_set1 {ad : Nat → Nat} {ls : Array Slot} {nl : Nat} {L L' : mj_L} {i : Nat} {v : Value} (hL : L.length = nl) (h : lv_has ls nl ((i, mj_v ad v) :: (mj_lv ad L').filter (fun q => !(q.1 == i) && !(q.1 + 1 == i && q.2.category == 2)))) (hLL : L' = L) : mj_l ad ls nl (mj_st L i v) := by
  subst hLL
  refine ⟨by simp [mj_st, mj_cl_len, hL], h.1, h.2.1, ?_⟩
  rintro ⟨j, x⟩ hq
  obtain ⟨u, hu, rfl⟩ := mj_lv_mem.mp hq
  refine h.2.2 (j, mj_v ad u) ?_
  unfold mj_st at hu
  rw [List.getElem?_set] at hu
  split at hu
  · rename_i he
    subst he
    split at hu
    · cases hu; exact List.mem_cons_self
    · cases hu
  · rename_i hne
    obtain ⟨h1, h2⟩ := mj_cl_get hu
    refine List.mem_cons_of_mem _ (List.mem_filter.mpr ⟨mj_lv_mem.mpr ⟨u, h1, rfl⟩, ?_⟩)
    have e1 : (j == i) = false := by simp; omega
    have e2 : (j + 1 == i && (mj_v ad u).category == 2) = false := by
      rw [mj_cat]
      simp only [Bool.and_eq_false_iff, beq_eq_false_iff_ne]
      by_cases hji : j + 1 = i
      · exact Or.inr (fun q => h2 ⟨hji, q⟩)
      · exact Or.inl hji
    simp only [e1, e2]
    rfl
theorem mj_set2 {ad : Nat → Nat} {ls : Array Slot} {nl : Nat} {L L' : mj_L} {i : Nat} {v : Value} (hL : L.length = nl) (h : lv_has ls nl ((i, mj_v ad v) :: (mj_lv ad L').filter (fun q => !(q.1 == i) && (!(q.1 == i + 1) && !(q.1 + 1 == i && q.2.category == 2))))) (hLL : L' = L) : mj_l ad ls nl (mj_st2 L i v) := by
  subst hLL
  refine ⟨by simp [mj_st2, mj_cl_len, hL], h.1, h.2.1, ?_⟩
  rintro ⟨j, x⟩ hq
  obtain ⟨u, hu, rfl⟩ := mj_lv_mem.mp hq
  refine h.2.2 (j, mj_v ad u) ?_
  unfold mj_st2 at hu
  rw [List.getElem?_set] at hu
  split at hu
  · split at hu <;> cases hu
  · rename_i hne2
    rw [List.getElem?_set] at hu
    split at hu
    · rename_i he
      subst he
      split at hu
      · cases hu; exact List.mem_cons_self
      · cases hu
    · rename_i hne
      obtain ⟨h1, h2⟩ := mj_cl_get hu
      refine List.mem_cons_of_mem _ (List.mem_filter.mpr ⟨mj_lv_mem.mpr ⟨u, h1, rfl⟩, ?_⟩)
      have e1 : (j == i) = false := by simp; omega
      have e3 : (j == i + 1) = false := by simp; omega
      have e2 : (j + 1 == i && (mj_v ad u).category == 2) = false := by
        rw [mj_cat]
        simp only [Bool.and_eq_false_iff, beq_eq_false_iff_ne]
        by_cases hji : j + 1 = i
        · exact Or.inr (fun q => h2 ⟨hji, q⟩)
        · exact Or.inl hji
      simp only [e1, e2, e3]
      rfl
/-! what lies outside the world and stays: two statics of Throwable, two tables -/
def mj_X (A : Nat → Prop) (U : State) (H : Heap) : Prop := vx_Zq Bundle.tN "UNASSIGNED_STACK" Bundle.steD A U H ∧ vx_Zq Bundle.tN "SUPPRESSED_SENTINEL" Bundle.listD A U H ∧ mj_Y A U H
theorem mj_X.warm {A : Nat → Prop} {u U : State} {H : Heap} (hW : u.WarmedH U.vm) (h : mj_X A u H) : mj_X A U H := ⟨h.1.moved hW.alike, h.2.1.moved hW.alike, h.2.2.warm hW⟩
theorem mj_X.calling {A : Nat → Prop} {U : State} {H : Heap} {g : JFrame} {mk : MethodId} {a : Array Value} (h : mj_X A U H) : mj_X A (U.calling g mk a) H := ⟨vx_Zq.moved (u := U) (U := U.calling g mk a) (Vm.Alike.refl U.vm) h.1, vx_Zq.moved (u := U) (U := U.calling g mk a) (Vm.Alike.refl U.vm) h.2.1, h.2.2.calling⟩
theorem mj_X.kept {A : Nat → Prop} {U : State} {H H1 : Heap} (h : mj_X A U H) (hq : ∀ a : Nat, a < H.size → ¬ A a → H1[a]? = H[a]?) : mj_X A U H1 := ⟨h.1.kept hq, h.2.1.kept hq, h.2.2.kept hq⟩
theorem mj_X.narrow {A B : Nat → Prop} {U : State} {H : Heap} (h : mj_X A U H) (hAB : ∀ q, B q → A q) : mj_X B U H := ⟨h.1.narrow hAB, h.2.1.narrow hAB, h.2.2.narrow hAB⟩
/-! the frame's fixed facts -/
def mj_F (l : Launch) (cc : ByteArray) (M : mj_M) (D : va_G) (A : Nat → Prop) (p : Program) (s : State) (m : MethodId) (args : Array Value) (meth : Method) (c : Code) : Prop :=
  p.tables.exec = Jvm.exec ∧ c.code = cc ∧ c.maxLocals = M.2.1 ∧ s.vm.findClass M.1 = some m.cls ∧ (∀ w ∈ M.2.2.1, w.before args s = true) ∧ va_K D vwCl [] s ∧ (∀ q, s.heap.size ≤ q → A q) ∧ mj_X A s s.heap ∧ (M.2.2.2.2.1 = true → meth.name = "<init>") ∧ (∀ t, M.2.2.2.2.2 = some t → c.exceptionTable.toList = t)
/-- the addresses of the places that stood at the start are kept; without makings all are -/
def mj_rel (b : Bool) (N : Nat) (ad0 ad : Nat → Nat) (w : mj_W) : Prop := (b = false → ad = ad0) ∧ (∀ k, (k < N ∨ 4000 ≤ k) → ad k = ad0 k) ∧ N ≤ w.length ∧ w.length ≤ 4000
theorem mj_rel.len {b : Bool} {N : Nat} {ad0 ad : Nat → Nat} {w w' : mj_W} (h : mj_rel b N ad0 ad w) (e : w'.length = w.length) : mj_rel b N ad0 ad w' := ⟨h.1, h.2.1, by rw [e]; exact h.2.2.1, by rw [e]; exact h.2.2.2⟩
def mj_ret (cc : ByteArray) (pc : Nat) (v : Option Value) : Prop := match v with
  | none => decode cc pc = .ok (.return_, 1)
  | some (.int _) => decode cc pc = .ok (.ireturn, 1)
  | some (.long _) => decode cc pc = .ok (.lreturn, 1)
  | some (.double _) => decode cc pc = .ok (.dreturn, 1)
  | _ => False
def mj_end (l : Launch) (cc : ByteArray) (M : mj_M) (b : Bool) (X : mj_R) (p : Program) (e : Env) (s : State) (m : MethodId) (args : Array Value) (below : List Frame) (meth : Method) (c : Code) (Q : State → Prop) (D : va_G) (A : Nat → Prop) (ad0 : Nat → Nat) (N : Nat) : Prop := match X with
  | .inl (v, w) => ∀ (ad : Nat → Nat) (cy : Nat → ClassId) (H : Heap) (locs : List Loc) (ls : Array Slot) (pc k n : Nat), mj_rel b N ad0 ad w → mj_P D A ad cy w s H → va_S A s.heap H locs → k ≤ M.2.2.2.1.cells → n ≤ M.2.2.2.1.slots → mj_ret cc pc v → W p l e M.2.2.2.1 s m args below meth c H locs k n Q (F0 m pc ls (v.toList.map (mj_v ad)))
  | .inr (E, w) => (∀ (ad : Nat → Nat) (cy : Nat → ClassId) (H : Heap) (locs : List Loc) (ls : Array Slot) (pc k n : Nat) (st : List Value) (q : Addr) (ce : Cell), mj_rel b N ad0 ad w → mj_P D A ad cy w s H → va_S A s.heap H locs → k ≤ M.2.2.2.1.cells → n ≤ M.2.2.2.1.slots → H[q]? = some ce → ce.vm = .none → s.vm.findClass E = some ce.cls → vx_W p l e M.2.2.2.1 s m args below meth c H locs k n Q (F0 m pc ls st) q)
    ∧ ∃ (Qc : Array Value → State → Outcome → State → Prop) (XC : String → State → State → Prop) (free : Addr → Prop), Q = vx_MQ below Qc XC args s M.2.2.2.1.cells M.2.2.2.1.slots free ∧ (∀ q, A q → free q) ∧ (∀ x ∈ c.exceptionTable.toList, False) ∧ meth.locks = false ∧ (∀ (ad : Nat → Nat) (cy : Nat → ClassId) (H : Heap) (locs : List Loc) (t : State), mj_rel b N ad0 ad w → mj_P D A ad cy w s H → va_S A s.heap H locs → s.vm.Alike t.vm → H.size ≤ t.heap.size → (∀ q : Nat, q < H.size → t.heap[q]? = H[q]?) → XC E s t)
/-- from here the machine goes to the end X -/
def GG (l : Launch) (cc : ByteArray) (M : mj_M) (b : Bool) (X : mj_R) (pc : Nat) (L : mj_L) (st : List Value) (w : mj_W) (k n : Nat) : Prop :=
  ∀ (p : Program) (e : Env) (s : State) (m : MethodId) (args : Array Value) (below : List Frame) (meth : Method) (c : Code) (Q : State → Prop) (D : va_G) (A : Nat → Prop) (ad0 : Nat → Nat) (N : Nat),
    mj_F l cc M D A p s m args meth c → mj_end l cc M b X p e s m args below meth c Q D A ad0 N →
    ∀ (ad : Nat → Nat) (cy : Nat → ClassId) (H : Heap) (locs : List Loc) (ls : Array Slot), mj_rel b N ad0 ad w → mj_P D A ad cy w s H → va_S A s.heap H locs → mj_l ad ls M.2.1 L →
      W p l e M.2.2.2.1 s m args below meth c H locs k n Q (F0 m pc ls (st.map (mj_v ad)))
section MJR
variable {l : Launch} {cc : ByteArray} {M : mj_M} {b : Bool} {X : mj_R} {pc : Nat} {L : mj_L} {st : List Value} {w : mj_W} {k n : Nat}

theorem G_iadd {x y : Int32} (hd : decode cc pc = .ok (.iadd, 1)) (kk : GG l cc M b X (pc + 1) L (.int (x + y) :: st) w k n) : GG l cc M b X pc L (.int y :: .int x :: st) w k n := by
  intro p e s m args below meth c Q D A ad0 N F E ad cy H locs ls r P S hl
  exact lv_iadd F.1 F.2.1 hd (kk p e s m args below meth c Q D A ad0 N F E ad cy H locs ls r P S hl)
theorem G_isub {x y : Int32} (hd : decode cc pc = .ok (.isub, 1)) (kk : GG l cc M b X (pc + 1) L (.int (x - y) :: st) w k n) : GG l cc M b X pc L (.int y :: .int x :: st) w k n := by
  intro p e s m args below meth c Q D A ad0 N F E ad cy H locs ls r P S hl
  exact lv_isub F.1 F.2.1 hd (kk p e s m args below meth c Q D A ad0 N F E ad cy H locs ls r P S hl)
theorem G_imul {x y : Int32} (hd : decode cc pc = .ok (.imul, 1)) (kk : GG l cc M b X (pc + 1) L (.int (x * y) :: st) w k n) : GG l cc M b X pc L (.int y :: .int x :: st) w k n := by
  intro p e s m args below meth c Q D A ad0 N F E ad cy H locs ls r P S hl
  exact lv_imul F.1 F.2.1 hd (kk p e s m args below meth c Q D A ad0 N F E ad cy H locs ls r P S hl)
theorem G_iand {x y : Int32} (hd : decode cc pc = .ok (.iand, 1)) (kk : GG l cc M b X (pc + 1) L (.int (x &&& y) :: st) w k n) : GG l cc M b X pc L (.int y :: .int x :: st) w k n := by
  intro p e s m args below meth c Q D A ad0 N F E ad cy H locs ls r P S hl
  exact lv_iand F.1 F.2.1 hd (kk p e s m args below meth c Q D A ad0 N F E ad cy H locs ls r P S hl)
theorem G_ixor {x y : Int32} (hd : decode cc pc = .ok (.ixor, 1)) (kk : GG l cc M b X (pc + 1) L (.int (x ^^^ y) :: st) w k n) : GG l cc M b X pc L (.int y :: .int x :: st) w k n := by
  intro p e s m args below meth c Q D A ad0 N F E ad cy H locs ls r P S hl
  exact lv_ixor F.1 F.2.1 hd (kk p e s m args below meth c Q D A ad0 N F E ad cy H locs ls r P S hl)
theorem G_idiv {x y : Int32} (hd : decode cc pc = .ok (.idiv, 1)) (hne : ¬ y = 0) (kk : GG l cc M b X (pc + 1) L (.int (x / y) :: st) w k n) : GG l cc M b X pc L (.int y :: .int x :: st) w k n := by
  intro p e s m args below meth c Q D A ad0 N F E ad cy H locs ls r P S hl
  exact lv_idiv F.1 F.2.1 hd hne (kk p e s m args below meth c Q D A ad0 N F E ad cy H locs ls r P S hl)
theorem G_irem {x y : Int32} (hd : decode cc pc = .ok (.irem, 1)) (hne : ¬ y = 0) (kk : GG l cc M b X (pc + 1) L (.int (x - x / y * y) :: st) w k n) : GG l cc M b X pc L (.int y :: .int x :: st) w k n := by
  intro p e s m args below meth c Q D A ad0 N F E ad cy H locs ls r P S hl
  exact lv_irem F.1 F.2.1 hd hne (kk p e s m args below meth c Q D A ad0 N F E ad cy H locs ls r P S hl)
theorem G_ineg {x : Int32} (hd : decode cc pc = .ok (.ineg, 1)) (kk : GG l cc M b X (pc + 1) L (.int (-x) :: st) w k n) : GG l cc M b X pc L (.int x :: st) w k n := by
  intro p e s m args below meth c Q D A ad0 N F E ad cy H locs ls r P S hl
  exact lv_ineg F.1 F.2.1 hd (kk p e s m args below meth c Q D A ad0 N F E ad cy H locs ls r P S hl)
theorem G_ladd {x y : Int64} (hd : decode cc pc = .ok (.ladd, 1)) (kk : GG l cc M b X (pc + 1) L (.long (x + y) :: st) w k n) : GG l cc M b X pc L (.long y :: .long x :: st) w k n := by
  intro p e s m args below meth c Q D A ad0 N F E ad cy H locs ls r P S hl
  exact lv_ladd F.1 F.2.1 hd (kk p e s m args below meth c Q D A ad0 N F E ad cy H locs ls r P S hl)
theorem G_lsub {x y : Int64} (hd : decode cc pc = .ok (.lsub, 1)) (kk : GG l cc M b X (pc + 1) L (.long (x - y) :: st) w k n) : GG l cc M b X pc L (.long y :: .long x :: st) w k n := by
  intro p e s m args below meth c Q D A ad0 N F E ad cy H locs ls r P S hl
  exact lv_lsub F.1 F.2.1 hd (kk p e s m args below meth c Q D A ad0 N F E ad cy H locs ls r P S hl)
theorem G_lmul {x y : Int64} (hd : decode cc pc = .ok (.lmul, 1)) (kk : GG l cc M b X (pc + 1) L (.long (x * y) :: st) w k n) : GG l cc M b X pc L (.long y :: .long x :: st) w k n := by
  intro p e s m args below meth c Q D A ad0 N F E ad cy H locs ls r P S hl
  exact lv_lmul F.1 F.2.1 hd (kk p e s m args below meth c Q D A ad0 N F E ad cy H locs ls r P S hl)
theorem G_lrem {x y : Int64} (hd : decode cc pc = .ok (.lrem, 1)) (hne : ¬ y = 0) (kk : GG l cc M b X (pc + 1) L (.long (x - x / y * y) :: st) w k n) : GG l cc M b X pc L (.long y :: .long x :: st) w k n := by
  intro p e s m args below meth c Q D A ad0 N F E ad cy H locs ls r P S hl
  exact lv_lrem F.1 F.2.1 hd hne (kk p e s m args below meth c Q D A ad0 N F E ad cy H locs ls r P S hl)
theorem G_lcmp {x y : Int64} (hd : decode cc pc = .ok (.lcmp, 1)) (kk : GG l cc M b X (pc + 1) L (.int (lg_cmp x y) :: st) w k n) : GG l cc M b X pc L (.long y :: .long x :: st) w k n := by
  intro p e s m args below meth c Q D A ad0 N F E ad cy H locs ls r P S hl
  exact W.lcmp F.1 F.2.1 hd (kk p e s m args below meth c Q D A ad0 N F E ad cy H locs ls r P S hl)
theorem G_lshl {x : Int64} {y : Int32} (hd : decode cc pc = .ok (.lshl, 1)) (kk : GG l cc M b X (pc + 1) L (.long (x <<< (y.toInt64 &&& 63)) :: st) w k n) : GG l cc M b X pc L (.int y :: .long x :: st) w k n := by
  intro p e s m args below meth c Q D A ad0 N F E ad cy H locs ls r P S hl
  exact lv_lshl F.1 F.2.1 hd rfl (kk p e s m args below meth c Q D A ad0 N F E ad cy H locs ls r P S hl)
theorem G_i2l {x : Int32} (hd : decode cc pc = .ok (.i2l, 1)) (kk : GG l cc M b X (pc + 1) L (.long x.toInt64 :: st) w k n) : GG l cc M b X pc L (.int x :: st) w k n := by
  intro p e s m args below meth c Q D A ad0 N F E ad cy H locs ls r P S hl
  exact lv_i2l F.1 F.2.1 hd rfl (kk p e s m args below meth c Q D A ad0 N F E ad cy H locs ls r P S hl)
theorem G_l2i {x : Int64} (hd : decode cc pc = .ok (.l2i, 1)) (kk : GG l cc M b X (pc + 1) L (.int x.toInt32 :: st) w k n) : GG l cc M b X pc L (.long x :: st) w k n := by
  intro p e s m args below meth c Q D A ad0 N F E ad cy H locs ls r P S hl
  exact lv_l2i F.1 F.2.1 hd rfl (kk p e s m args below meth c Q D A ad0 N F E ad cy H locs ls r P S hl)
theorem G_i2c {x : Int32} (hd : decode cc pc = .ok (.i2c, 1)) (kk : GG l cc M b X (pc + 1) L (.int (x.toUInt32 % 65536).toInt32 :: st) w k n) : GG l cc M b X pc L (.int x :: st) w k n := by
  intro p e s m args below meth c Q D A ad0 N F E ad cy H locs ls r P S hl
  exact lv_i2c F.1 F.2.1 hd rfl (kk p e s m args below meth c Q D A ad0 N F E ad cy H locs ls r P S hl)
theorem G_i2d {x : Int32} (hd : decode cc pc = .ok (.i2d, 1)) (kk : GG l cc M b X (pc + 1) L (.double (FP.i2d x) :: st) w k n) : GG l cc M b X pc L (.int x :: st) w k n := by
  intro p e s m args below meth c Q D A ad0 N F E ad cy H locs ls r P S hl
  exact lv_i2d F.1 F.2.1 hd (kk p e s m args below meth c Q D A ad0 N F E ad cy H locs ls r P S hl)
theorem G_d2l {x : UInt64} (hd : decode cc pc = .ok (.d2l, 1)) (kk : GG l cc M b X (pc + 1) L (.long (FP.d2l x) :: st) w k n) : GG l cc M b X pc L (.double x :: st) w k n := by
  intro p e s m args below meth c Q D A ad0 N F E ad cy H locs ls r P S hl
  exact lv_d2l F.1 F.2.1 hd (kk p e s m args below meth c Q D A ad0 N F E ad cy H locs ls r P S hl)
theorem G_ddiv {x y : UInt64} (hd : decode cc pc = .ok (.ddiv, 1)) (hne : vf_n64 (FP.ddiv x y)) (kk : GG l cc M b X (pc + 1) L (.double (FP.ddiv x y) :: st) w k n) : GG l cc M b X pc L (.double y :: .double x :: st) w k n := by
  intro p e s m args below meth c Q D A ad0 N F E ad cy H locs ls r P S hl
  exact lv_ddiv F.1 F.2.1 hd hne (kk p e s m args below meth c Q D A ad0 N F E ad cy H locs ls r P S hl)
theorem G_dmul {x y : UInt64} (hd : decode cc pc = .ok (.dmul, 1)) (hne : vf_n64 (FP.dmul x y)) (kk : GG l cc M b X (pc + 1) L (.double (FP.dmul x y) :: st) w k n) : GG l cc M b X pc L (.double y :: .double x :: st) w k n := by
  intro p e s m args below meth c Q D A ad0 N F E ad cy H locs ls r P S hl
  exact lv_dmul F.1 F.2.1 hd hne (kk p e s m args below meth c Q D A ad0 N F E ad cy H locs ls r P S hl)
theorem G_dsub {x y : UInt64} (hd : decode cc pc = .ok (.dsub, 1)) (hne : vf_n64 (FP.dsub x y)) (kk : GG l cc M b X (pc + 1) L (.double (FP.dsub x y) :: st) w k n) : GG l cc M b X pc L (.double y :: .double x :: st) w k n := by
  intro p e s m args below meth c Q D A ad0 N F E ad cy H locs ls r P S hl
  exact lv_dsub F.1 F.2.1 hd hne (kk p e s m args below meth c Q D A ad0 N F E ad cy H locs ls r P S hl)
theorem G_dcmp {x y : UInt64} {op : CmpOp} (hd : decode cc pc = .ok (.dcmp op, 1)) (kk : GG l cc M b X (pc + 1) L (.int (Op.cmpValue (FP.dcmp x y) op) :: st) w k n) : GG l cc M b X pc L (.double y :: .double x :: st) w k n := by
  intro p e s m args below meth c Q D A ad0 N F E ad cy H locs ls r P S hl
  exact lv_dcmp F.1 F.2.1 hd (kk p e s m args below meth c Q D A ad0 N F E ad cy H locs ls r P S hl)
theorem G_dconst0 (hd : decode cc pc = .ok (.dconst 0, 1)) (kk : GG l cc M b X (pc + 1) L (.double FP.dconst0 :: st) w k n) : GG l cc M b X pc L st w k n := by
  intro p e s m args below meth c Q D A ad0 N F E ad cy H locs ls r P S hl
  exact lv_dconst0 F.1 F.2.1 hd (kk p e s m args below meth c Q D A ad0 N F E ad cy H locs ls r P S hl)
theorem G_dconst1 (hd : decode cc pc = .ok (.dconst 1, 1)) (kk : GG l cc M b X (pc + 1) L (.double FP.dconst1 :: st) w k n) : GG l cc M b X pc L st w k n := by
  intro p e s m args below meth c Q D A ad0 N F E ad cy H locs ls r P S hl
  exact lv_dconst1 F.1 F.2.1 hd (kk p e s m args below meth c Q D A ad0 N F E ad cy H locs ls r P S hl)
theorem G_lconst {i : Fin 2} {v : Int64} (hd : decode cc pc = .ok (.lconst i, 1)) (hv : Int64.ofNat (i : Nat) = v) (kk : GG l cc M b X (pc + 1) L (.long v :: st) w k n) : GG l cc M b X pc L st w k n := by
  intro p e s m args below meth c Q D A ad0 N F E ad cy H locs ls r P S hl
  exact lv_lconst F.1 F.2.1 hd hv (kk p e s m args below meth c Q D A ad0 N F E ad cy H locs ls r P S hl)
theorem G_iconst {i : Int} {v : Int32} (hd : decode cc pc = .ok (.iconst i, 1)) (hv : Int32.ofInt i = v) (kk : GG l cc M b X (pc + 1) L (.int v :: st) w k n) : GG l cc M b X pc L st w k n := by
  intro p e s m args below meth c Q D A ad0 N F E ad cy H locs ls r P S hl
  exact lv_iconst F.1 F.2.1 hd hv (kk p e s m args below meth c Q D A ad0 N F E ad cy H locs ls r P S hl)
theorem G_bipush {i : Int} {v : Int32} (hd : decode cc pc = .ok (.bipush i, 2)) (hv : (Int8.ofInt i).toInt32 = v) (kk : GG l cc M b X (pc + 2) L (.int v :: st) w k n) : GG l cc M b X pc L st w k n := by
  intro p e s m args below meth c Q D A ad0 N F E ad cy H locs ls r P S hl
  exact lv_bipush F.1 F.2.1 hd hv (kk p e s m args below meth c Q D A ad0 N F E ad cy H locs ls r P S hl)
theorem G_sipush {i : Int} {v : Int32} (hd : decode cc pc = .ok (.sipush i, 3)) (hv : (Int16.ofInt i).toInt32 = v) (kk : GG l cc M b X (pc + 3) L (.int v :: st) w k n) : GG l cc M b X pc L st w k n := by
  intro p e s m args below meth c Q D A ad0 N F E ad cy H locs ls r P S hl
  exact lv_sipush F.1 F.2.1 hd hv (kk p e s m args below meth c Q D A ad0 N F E ad cy H locs ls r P S hl)
theorem G_ldc2 {i : Nat} {v : Int64} (hd : decode cc pc = .ok (.ldc2_w i, 3)) (hc : Cond.constantLong M.1 i v ∈ M.2.2.1) (kk : GG l cc M b X (pc + 3) L (.long v :: st) w k n) : GG l cc M b X pc L st w k n := by
  intro p e s m args below meth c Q D A ad0 N F E ad cy H locs ls r P S hl
  exact lv_ldc2 F.1 F.2.1 F.2.2.2.1 (F.2.2.2.2.1 _ hc) hd (kk p e s m args below meth c Q D A ad0 N F E ad cy H locs ls r P S hl)
theorem G_ldc2d {i : Nat} {v : UInt64} (hd : decode cc pc = .ok (.ldc2_w i, 3)) (hc : Cond.constantDouble M.1 i v ∈ M.2.2.1) (kk : GG l cc M b X (pc + 3) L (.double v :: st) w k n) : GG l cc M b X pc L st w k n := by
  intro p e s m args below meth c Q D A ad0 N F E ad cy H locs ls r P S hl
  exact lv_ldc2d F.1 F.2.1 F.2.2.2.1 (F.2.2.2.2.1 _ hc) hd (kk p e s m args below meth c Q D A ad0 N F E ad cy H locs ls r P S hl)
theorem G_iload {i : Nat} {x : Int32} (hd : decode cc pc = .ok (.iload i, 2)) (hi : L[i]? = some (some (.int x))) (kk : GG l cc M b X (pc + 2) L (.int x :: st) w k n) : GG l cc M b X pc L st w k n := by
  intro p e s m args below meth c Q D A ad0 N F E ad cy H locs ls r P S hl
  exact lv_iload F.1 F.2.1 hd (hl.get hi) (kk p e s m args below meth c Q D A ad0 N F E ad cy H locs ls r P S hl)
theorem G_iload_n {i : Fin 4} {x : Int32} (hd : decode cc pc = .ok (.iload_n i, 1)) (hi : L[(i : Nat)]? = some (some (.int x))) (kk : GG l cc M b X (pc + 1) L (.int x :: st) w k n) : GG l cc M b X pc L st w k n := by
  intro p e s m args below meth c Q D A ad0 N F E ad cy H locs ls r P S hl
  exact lv_iload_n F.1 F.2.1 hd rfl (hl.get hi) (kk p e s m args below meth c Q D A ad0 N F E ad cy H locs ls r P S hl)
theorem G_aload {i : Nat} {x : Nat} (hd : decode cc pc = .ok (.aload i, 2)) (hi : L[i]? = some (some (.ref x))) (kk : GG l cc M b X (pc + 2) L (.ref x :: st) w k n) : GG l cc M b X pc L st w k n := by
  intro p e s m args below meth c Q D A ad0 N F E ad cy H locs ls r P S hl
  exact lv_aload F.1 F.2.1 hd (hl.get hi) (kk p e s m args below meth c Q D A ad0 N F E ad cy H locs ls r P S hl)
theorem G_aload_n {i : Fin 4} {x : Nat} (hd : decode cc pc = .ok (.aload_n i, 1)) (hi : L[(i : Nat)]? = some (some (.ref x))) (kk : GG l cc M b X (pc + 1) L (.ref x :: st) w k n) : GG l cc M b X pc L st w k n := by
  intro p e s m args below meth c Q D A ad0 N F E ad cy H locs ls r P S hl
  exact lv_aload_n F.1 F.2.1 hd rfl (hl.get hi) (kk p e s m args below meth c Q D A ad0 N F E ad cy H locs ls r P S hl)
theorem G_lload {i : Nat} {x : Int64} (hd : decode cc pc = .ok (.lload i, 2)) (hi : L[i]? = some (some (.long x))) (kk : GG l cc M b X (pc + 2) L (.long x :: st) w k n) : GG l cc M b X pc L st w k n := by
  intro p e s m args below meth c Q D A ad0 N F E ad cy H locs ls r P S hl
  exact lv_lload F.1 F.2.1 hd (hl.get hi) (kk p e s m args below meth c Q D A ad0 N F E ad cy H locs ls r P S hl)
theorem G_lload_n {i : Fin 4} {x : Int64} (hd : decode cc pc = .ok (.lload_n i, 1)) (hi : L[(i : Nat)]? = some (some (.long x))) (kk : GG l cc M b X (pc + 1) L (.long x :: st) w k n) : GG l cc M b X pc L st w k n := by
  intro p e s m args below meth c Q D A ad0 N F E ad cy H locs ls r P S hl
  exact lv_lload_n F.1 F.2.1 hd rfl (hl.get hi) (kk p e s m args below meth c Q D A ad0 N F E ad cy H locs ls r P S hl)
theorem G_dload {i : Nat} {x : UInt64} (hd : decode cc pc = .ok (.dload i, 2)) (hi : L[i]? = some (some (.double x))) (kk : GG l cc M b X (pc + 2) L (.double x :: st) w k n) : GG l cc M b X pc L st w k n := by
  intro p e s m args below meth c Q D A ad0 N F E ad cy H locs ls r P S hl
  exact lv_dload F.1 F.2.1 hd (hl.get hi) (kk p e s m args below meth c Q D A ad0 N F E ad cy H locs ls r P S hl)
theorem G_dload_n {i : Fin 4} {x : UInt64} (hd : decode cc pc = .ok (.dload_n i, 1)) (hi : L[(i : Nat)]? = some (some (.double x))) (kk : GG l cc M b X (pc + 1) L (.double x :: st) w k n) : GG l cc M b X pc L st w k n := by
  intro p e s m args below meth c Q D A ad0 N F E ad cy H locs ls r P S hl
  exact lv_dload_n F.1 F.2.1 hd rfl (hl.get hi) (kk p e s m args below meth c Q D A ad0 N F E ad cy H locs ls r P S hl)
theorem G_istore {i : Nat} {x : Int32} {L' : mj_L} (hd : decode cc pc = .ok (.istore i, 2)) (hi : Nat.ble (i + 1) L.length = true) (hL : mj_st L i (.int x) = L') (kk : GG l cc M b X (pc + 2) L' st w k n) : GG l cc M b X pc L (.int x :: st) w k n := by
  intro p e s m args below meth c Q D A ad0 N F E ad cy H locs ls r P S hl
  subst hL
  exact lv_istore F.1 F.2.1 hd hl.2 (by rw [← hl.1]; exact Nat.le_of_ble_eq_true hi) rfl (fun ls' hl' => kk p e s m args below meth c Q D A ad0 N F E ad cy H locs ls' r P S (mj_set1 hl.1 hl' rfl))
theorem G_istore_n {i : Fin 4} {x : Int32} {L' : mj_L} (hd : decode cc pc = .ok (.istore_n i, 1)) (hi : Nat.ble ((i : Nat) + 1) L.length = true) (hL : mj_st L (i : Nat) (.int x) = L') (kk : GG l cc M b X (pc + 1) L' st w k n) : GG l cc M b X pc L (.int x :: st) w k n := by
  intro p e s m args below meth c Q D A ad0 N F E ad cy H locs ls r P S hl
  subst hL
  exact lv_istore_n F.1 F.2.1 hd rfl hl.2 (by rw [← hl.1]; exact Nat.le_of_ble_eq_true hi) rfl (fun ls' hl' => kk p e s m args below meth c Q D A ad0 N F E ad cy H locs ls' r P S (mj_set1 hl.1 hl' rfl))
theorem G_astore {i : Nat} {x : Nat} {L' : mj_L} (hd : decode cc pc = .ok (.astore i, 2)) (hi : Nat.ble (i + 1) L.length = true) (hL : mj_st L i (.ref x) = L') (kk : GG l cc M b X (pc + 2) L' st w k n) : GG l cc M b X pc L (.ref x :: st) w k n := by
  intro p e s m args below meth c Q D A ad0 N F E ad cy H locs ls r P S hl
  subst hL
  exact lv_astore F.1 F.2.1 hd hl.2 (by rw [← hl.1]; exact Nat.le_of_ble_eq_true hi) rfl (fun ls' hl' => kk p e s m args below meth c Q D A ad0 N F E ad cy H locs ls' r P S (mj_set1 hl.1 hl' rfl))
theorem G_astore_n {i : Fin 4} {x : Nat} {L' : mj_L} (hd : decode cc pc = .ok (.astore_n i, 1)) (hi : Nat.ble ((i : Nat) + 1) L.length = true) (hL : mj_st L (i : Nat) (.ref x) = L') (kk : GG l cc M b X (pc + 1) L' st w k n) : GG l cc M b X pc L (.ref x :: st) w k n := by
  intro p e s m args below meth c Q D A ad0 N F E ad cy H locs ls r P S hl
  subst hL
  exact lv_astore_n F.1 F.2.1 hd rfl hl.2 (by rw [← hl.1]; exact Nat.le_of_ble_eq_true hi) rfl (fun ls' hl' => kk p e s m args below meth c Q D A ad0 N F E ad cy H locs ls' r P S (mj_set1 hl.1 hl' rfl))
theorem G_lstore {i : Nat} {x : Int64} {L' : mj_L} (hd : decode cc pc = .ok (.lstore i, 2)) (hi : Nat.ble (i + 2) L.length = true) (hL : mj_st2 L i (.long x) = L') (kk : GG l cc M b X (pc + 2) L' st w k n) : GG l cc M b X pc L (.long x :: st) w k n := by
  intro p e s m args below meth c Q D A ad0 N F E ad cy H locs ls r P S hl
  subst hL
  exact lv_lstore F.1 F.2.1 hd hl.2 (by rw [← hl.1]; exact Nat.le_of_ble_eq_true hi) rfl (fun ls' hl' => kk p e s m args below meth c Q D A ad0 N F E ad cy H locs ls' r P S (mj_set2 hl.1 hl' rfl))
theorem G_lstore_n {i : Fin 4} {x : Int64} {L' : mj_L} (hd : decode cc pc = .ok (.lstore_n i, 1)) (hi : Nat.ble ((i : Nat) + 2) L.length = true) (hL : mj_st2 L (i : Nat) (.long x) = L') (kk : GG l cc M b X (pc + 1) L' st w k n) : GG l cc M b X pc L (.long x :: st) w k n := by
  intro p e s m args below meth c Q D A ad0 N F E ad cy H locs ls r P S hl
  subst hL
  exact lv_lstore_n F.1 F.2.1 hd rfl hl.2 (by rw [← hl.1]; exact Nat.le_of_ble_eq_true hi) rfl (fun ls' hl' => kk p e s m args below meth c Q D A ad0 N F E ad cy H locs ls' r P S (mj_set2 hl.1 hl' rfl))
theorem G_dstore {i : Nat} {x : UInt64} {L' : mj_L} (hd : decode cc pc = .ok (.dstore i, 2)) (hi : Nat.ble (i + 2) L.length = true) (hL : mj_st2 L i (.double x) = L') (kk : GG l cc M b X (pc + 2) L' st w k n) : GG l cc M b X pc L (.double x :: st) w k n := by
  intro p e s m args below meth c Q D A ad0 N F E ad cy H locs ls r P S hl
  subst hL
  exact lv_dstore F.1 F.2.1 hd hl.2 (by rw [← hl.1]; exact Nat.le_of_ble_eq_true hi) rfl (fun ls' hl' => kk p e s m args below meth c Q D A ad0 N F E ad cy H locs ls' r P S (mj_set2 hl.1 hl' rfl))
theorem G_dstore_n {i : Fin 4} {x : UInt64} {L' : mj_L} (hd : decode cc pc = .ok (.dstore_n i, 1)) (hi : Nat.ble ((i : Nat) + 2) L.length = true) (hL : mj_st2 L (i : Nat) (.double x) = L') (kk : GG l cc M b X (pc + 1) L' st w k n) : GG l cc M b X pc L (.double x :: st) w k n := by
  intro p e s m args below meth c Q D A ad0 N F E ad cy H locs ls r P S hl
  subst hL
  exact lv_dstore_n F.1 F.2.1 hd rfl hl.2 (by rw [← hl.1]; exact Nat.le_of_ble_eq_true hi) rfl (fun ls' hl' => kk p e s m args below meth c Q D A ad0 N F E ad cy H locs ls' r P S (mj_set2 hl.1 hl' rfl))
theorem G_iinc {i : Nat} {d : Int} {x v : Int32} {L' : mj_L} (hd : decode cc pc = .ok (.iinc i d, 3)) (hi : L[i]? = some (some (.int x))) (hv : x + Int32.ofInt d = v) (hL : mj_st L i (.int v) = L') (kk : GG l cc M b X (pc + 3) L' st w k n) : GG l cc M b X pc L st w k n := by
  intro p e s m args below meth c Q D A ad0 N F E ad cy H locs ls r P S hl
  subst hL
  obtain ⟨z, hz⟩ := List.getElem?_of_mem (mj_lv_mem.mpr ⟨Value.int x, hi, rfl⟩ : (i, Value.int x) ∈ mj_lv ad L)
  exact lv_iinc (k := z) F.1 F.2.1 hd hl.2 hz hv (by rw [← hl.1]; exact (List.getElem?_eq_some_iff.mp hi).1) rfl (fun ls' hl' => kk p e s m args below meth c Q D A ad0 N F E ad cy H locs ls' r P S (mj_set1 hl.1 hl' rfl))
theorem G_dup {v : Value} (hd : decode cc pc = .ok (.dup, 1)) (hv : v.category = 1) (kk : GG l cc M b X (pc + 1) L (v :: v :: st) w k n) : GG l cc M b X pc L (v :: st) w k n := by
  intro p e s m args below meth c Q D A ad0 N F E ad cy H locs ls r P S hl
  exact lv_dup F.1 F.2.1 hd ((mj_cat ad v).trans hv) (kk p e s m args below meth c Q D A ad0 N F E ad cy H locs ls r P S hl)
theorem G_dup2 {u v : Value} (hd : decode cc pc = .ok (.dup2, 1)) (hu : u.category = 1) (hv : v.category = 1) (kk : GG l cc M b X (pc + 1) L (u :: v :: u :: v :: st) w k n) : GG l cc M b X pc L (u :: v :: st) w k n := by
  intro p e s m args below meth c Q D A ad0 N F E ad cy H locs ls r P S hl
  exact lv_dup2_11 F.1 F.2.1 hd ((mj_cat ad u).trans hu) ((mj_cat ad v).trans hv) (kk p e s m args below meth c Q D A ad0 N F E ad cy H locs ls r P S hl)
theorem G_pop {v : Value} (hd : decode cc pc = .ok (.pop, 1)) (hv : v.category = 1) (kk : GG l cc M b X (pc + 1) L st w k n) : GG l cc M b X pc L (v :: st) w k n := by
  intro p e s m args below meth c Q D A ad0 N F E ad cy H locs ls r P S hl
  exact lv_pop F.1 F.2.1 hd ((mj_cat ad v).trans hv) (kk p e s m args below meth c Q D A ad0 N F E ad cy H locs ls r P S hl)
theorem G_icmp_eq {x y : Int32} {off : Int} (tgt : Nat) (hd : decode cc pc = .ok (.if_icmp .eq off, 3)) (ht : (pc : Int) + off = (tgt : Int)) (kt : x = y → GG l cc M b X tgt L st w k n) (kf : ¬ x = y → GG l cc M b X (pc + 3) L st w k n) : GG l cc M b X pc L (.int y :: .int x :: st) w k n := by
  intro p e s m args below meth c Q D A ad0 N F E ad cy H locs ls r P S hl
  exact lv_icmp_eq F.1 F.2.1 hd ht (fun q => kt q p e s m args below meth c Q D A ad0 N F E ad cy H locs ls r P S hl) (fun q => kf q p e s m args below meth c Q D A ad0 N F E ad cy H locs ls r P S hl)
theorem G_if_eq {x : Int32} {off : Int} (tgt : Nat) (hd : decode cc pc = .ok (.ifCond .eq off, 3)) (ht : (pc : Int) + off = (tgt : Int)) (kt : x = 0 → GG l cc M b X tgt L st w k n) (kf : ¬ x = 0 → GG l cc M b X (pc + 3) L st w k n) : GG l cc M b X pc L (.int x :: st) w k n := by
  intro p e s m args below meth c Q D A ad0 N F E ad cy H locs ls r P S hl
  exact lv_if_eq F.1 F.2.1 hd ht (fun q => kt q p e s m args below meth c Q D A ad0 N F E ad cy H locs ls r P S hl) (fun q => kf q p e s m args below meth c Q D A ad0 N F E ad cy H locs ls r P S hl)
theorem G_icmp_ne {x y : Int32} {off : Int} (tgt : Nat) (hd : decode cc pc = .ok (.if_icmp .ne off, 3)) (ht : (pc : Int) + off = (tgt : Int)) (kt : ¬ x = y → GG l cc M b X tgt L st w k n) (kf : x = y → GG l cc M b X (pc + 3) L st w k n) : GG l cc M b X pc L (.int y :: .int x :: st) w k n := by
  intro p e s m args below meth c Q D A ad0 N F E ad cy H locs ls r P S hl
  exact lv_icmp_ne F.1 F.2.1 hd ht (fun q => kt q p e s m args below meth c Q D A ad0 N F E ad cy H locs ls r P S hl) (fun q => kf q p e s m args below meth c Q D A ad0 N F E ad cy H locs ls r P S hl)
theorem G_if_ne {x : Int32} {off : Int} (tgt : Nat) (hd : decode cc pc = .ok (.ifCond .ne off, 3)) (ht : (pc : Int) + off = (tgt : Int)) (kt : ¬ x = 0 → GG l cc M b X tgt L st w k n) (kf : x = 0 → GG l cc M b X (pc + 3) L st w k n) : GG l cc M b X pc L (.int x :: st) w k n := by
  intro p e s m args below meth c Q D A ad0 N F E ad cy H locs ls r P S hl
  exact lv_if_ne F.1 F.2.1 hd ht (fun q => kt q p e s m args below meth c Q D A ad0 N F E ad cy H locs ls r P S hl) (fun q => kf q p e s m args below meth c Q D A ad0 N F E ad cy H locs ls r P S hl)
theorem G_icmp_lt {x y : Int32} {off : Int} (tgt : Nat) (hd : decode cc pc = .ok (.if_icmp .lt off, 3)) (ht : (pc : Int) + off = (tgt : Int)) (kt : x < y → GG l cc M b X tgt L st w k n) (kf : ¬ x < y → GG l cc M b X (pc + 3) L st w k n) : GG l cc M b X pc L (.int y :: .int x :: st) w k n := by
  intro p e s m args below meth c Q D A ad0 N F E ad cy H locs ls r P S hl
  exact lv_icmp_lt F.1 F.2.1 hd ht (fun q => kt q p e s m args below meth c Q D A ad0 N F E ad cy H locs ls r P S hl) (fun q => kf q p e s m args below meth c Q D A ad0 N F E ad cy H locs ls r P S hl)
theorem G_if_lt {x : Int32} {off : Int} (tgt : Nat) (hd : decode cc pc = .ok (.ifCond .lt off, 3)) (ht : (pc : Int) + off = (tgt : Int)) (kt : x < 0 → GG l cc M b X tgt L st w k n) (kf : ¬ x < 0 → GG l cc M b X (pc + 3) L st w k n) : GG l cc M b X pc L (.int x :: st) w k n := by
  intro p e s m args below meth c Q D A ad0 N F E ad cy H locs ls r P S hl
  exact lv_if_lt F.1 F.2.1 hd ht (fun q => kt q p e s m args below meth c Q D A ad0 N F E ad cy H locs ls r P S hl) (fun q => kf q p e s m args below meth c Q D A ad0 N F E ad cy H locs ls r P S hl)
theorem G_icmp_ge {x y : Int32} {off : Int} (tgt : Nat) (hd : decode cc pc = .ok (.if_icmp .ge off, 3)) (ht : (pc : Int) + off = (tgt : Int)) (kt : y ≤ x → GG l cc M b X tgt L st w k n) (kf : ¬ y ≤ x → GG l cc M b X (pc + 3) L st w k n) : GG l cc M b X pc L (.int y :: .int x :: st) w k n := by
  intro p e s m args below meth c Q D A ad0 N F E ad cy H locs ls r P S hl
  exact lv_icmp_ge F.1 F.2.1 hd ht (fun q => kt q p e s m args below meth c Q D A ad0 N F E ad cy H locs ls r P S hl) (fun q => kf q p e s m args below meth c Q D A ad0 N F E ad cy H locs ls r P S hl)
theorem G_if_ge {x : Int32} {off : Int} (tgt : Nat) (hd : decode cc pc = .ok (.ifCond .ge off, 3)) (ht : (pc : Int) + off = (tgt : Int)) (kt : 0 ≤ x → GG l cc M b X tgt L st w k n) (kf : ¬ 0 ≤ x → GG l cc M b X (pc + 3) L st w k n) : GG l cc M b X pc L (.int x :: st) w k n := by
  intro p e s m args below meth c Q D A ad0 N F E ad cy H locs ls r P S hl
  exact lv_if_ge F.1 F.2.1 hd ht (fun q => kt q p e s m args below meth c Q D A ad0 N F E ad cy H locs ls r P S hl) (fun q => kf q p e s m args below meth c Q D A ad0 N F E ad cy H locs ls r P S hl)
theorem G_icmp_gt {x y : Int32} {off : Int} (tgt : Nat) (hd : decode cc pc = .ok (.if_icmp .gt off, 3)) (ht : (pc : Int) + off = (tgt : Int)) (kt : y < x → GG l cc M b X tgt L st w k n) (kf : ¬ y < x → GG l cc M b X (pc + 3) L st w k n) : GG l cc M b X pc L (.int y :: .int x :: st) w k n := by
  intro p e s m args below meth c Q D A ad0 N F E ad cy H locs ls r P S hl
  exact lv_icmp_gt F.1 F.2.1 hd ht (fun q => kt q p e s m args below meth c Q D A ad0 N F E ad cy H locs ls r P S hl) (fun q => kf q p e s m args below meth c Q D A ad0 N F E ad cy H locs ls r P S hl)
theorem G_if_gt {x : Int32} {off : Int} (tgt : Nat) (hd : decode cc pc = .ok (.ifCond .gt off, 3)) (ht : (pc : Int) + off = (tgt : Int)) (kt : 0 < x → GG l cc M b X tgt L st w k n) (kf : ¬ 0 < x → GG l cc M b X (pc + 3) L st w k n) : GG l cc M b X pc L (.int x :: st) w k n := by
  intro p e s m args below meth c Q D A ad0 N F E ad cy H locs ls r P S hl
  exact lv_if_gt F.1 F.2.1 hd ht (fun q => kt q p e s m args below meth c Q D A ad0 N F E ad cy H locs ls r P S hl) (fun q => kf q p e s m args below meth c Q D A ad0 N F E ad cy H locs ls r P S hl)
theorem G_icmp_le {x y : Int32} {off : Int} (tgt : Nat) (hd : decode cc pc = .ok (.if_icmp .le off, 3)) (ht : (pc : Int) + off = (tgt : Int)) (kt : x ≤ y → GG l cc M b X tgt L st w k n) (kf : ¬ x ≤ y → GG l cc M b X (pc + 3) L st w k n) : GG l cc M b X pc L (.int y :: .int x :: st) w k n := by
  intro p e s m args below meth c Q D A ad0 N F E ad cy H locs ls r P S hl
  exact lv_icmp_le F.1 F.2.1 hd ht (fun q => kt q p e s m args below meth c Q D A ad0 N F E ad cy H locs ls r P S hl) (fun q => kf q p e s m args below meth c Q D A ad0 N F E ad cy H locs ls r P S hl)
theorem G_if_le {x : Int32} {off : Int} (tgt : Nat) (hd : decode cc pc = .ok (.ifCond .le off, 3)) (ht : (pc : Int) + off = (tgt : Int)) (kt : x ≤ 0 → GG l cc M b X tgt L st w k n) (kf : ¬ x ≤ 0 → GG l cc M b X (pc + 3) L st w k n) : GG l cc M b X pc L (.int x :: st) w k n := by
  intro p e s m args below meth c Q D A ad0 N F E ad cy H locs ls r P S hl
  exact lv_if_le F.1 F.2.1 hd ht (fun q => kt q p e s m args below meth c Q D A ad0 N F E ad cy H locs ls r P S hl) (fun q => kf q p e s m args below meth c Q D A ad0 N F E ad cy H locs ls r P S hl)
theorem G_goto {off : Int} (tgt : Nat) (hd : decode cc pc = .ok (.goto off, 3)) (ht : (pc : Int) + off = (tgt : Int)) (kk : GG l cc M b X tgt L st w k n) : GG l cc M b X pc L st w k n := by
  intro p e s m args below meth c Q D A ad0 N F E ad cy H locs ls r P S hl
  exact lv_goto F.1 F.2.1 hd ht (kk p e s m args below meth c Q D A ad0 N F E ad cy H locs ls r P S hl)
theorem G_tabIn {dflt lo hi : Int} {offs : Array Int} {len : Nat} {x : Int32} {off : Int} (tgt : Nat) (hd : decode cc pc = .ok (.tableswitch dflt lo hi offs, len)) (h1 : ¬ x.toInt < lo) (h2 : ¬ hi < x.toInt) (ho : offs[(x.toInt - lo).toNat]? = some off) (ht : (pc : Int) + off = (tgt : Int)) (kk : GG l cc M b X tgt L st w k n) : GG l cc M b X pc L (.int x :: st) w k n := by
  intro p e s m args below meth c Q D A ad0 N F E ad cy H locs ls r P S hl
  exact lv_tableIn F.1 F.2.1 hd h1 h2 ho ht (kk p e s m args below meth c Q D A ad0 N F E ad cy H locs ls r P S hl)
theorem G_tabOut {dflt lo hi : Int} {offs : Array Int} {len : Nat} {x : Int32} (tgt : Nat) (hd : decode cc pc = .ok (.tableswitch dflt lo hi offs, len)) (h : x.toInt < lo ∨ hi < x.toInt) (ht : (pc : Int) + dflt = (tgt : Int)) (kk : GG l cc M b X tgt L st w k n) : GG l cc M b X pc L (.int x :: st) w k n := by
  intro p e s m args below meth c Q D A ad0 N F E ad cy H locs ls r P S hl
  exact lv_tableOut F.1 F.2.1 hd h ht (kk p e s m args below meth c Q D A ad0 N F E ad cy H locs ls r P S hl)
theorem G_look {dflt : Int} {ps : Array (Int × Int)} {len : Nat} {x : Int32} {off : Int} (tgt : Nat) (hd : decode cc pc = .ok (.lookupswitch dflt ps, len)) (hp : (ps.toList.zip (ps.toList.drop 1)).all (fun (a, next) => a.1 < next.1) = true) (ho : Op.lookupswitch.offset ps.toList dflt x.toInt = off) (ht : (pc : Int) + off = (tgt : Int)) (kk : GG l cc M b X tgt L st w k n) : GG l cc M b X pc L (.int x :: st) w k n := by
  intro p e s m args below meth c Q D A ad0 N F E ad cy H locs ls r P S hl
  exact lv_lookup F.1 F.2.1 hd hp ho ht (kk p e s m args below meth c Q D A ad0 N F E ad cy H locs ls r P S hl)
theorem G_eqi {x y : Int32} (h : x = y) (kk : GG l cc M b X pc L (.int y :: st) w k n) : GG l cc M b X pc L (.int x :: st) w k n := by subst h; exact kk
theorem G_iaddN {a c s : Nat} (hd : decode cc pc = .ok (.iadd, 1)) (hs : a + c = s) (kk : GG l cc M b X (pc + 1) L (.int (nI s) :: st) w k n) : GG l cc M b X pc L (.int (nI c) :: .int (nI a) :: st) w k n := G_iadd hd (G_eqi (by rw [nI_add, hs]) kk)
theorem G_imulN {a c s : Nat} (hd : decode cc pc = .ok (.imul, 1)) (hs : a * c = s) (kk : GG l cc M b X (pc + 1) L (.int (nI s) :: st) w k n) : GG l cc M b X pc L (.int (nI c) :: .int (nI a) :: st) w k n := G_imul hd (G_eqi (by rw [pk_mul, hs]) kk)
theorem G_isubN {a c s : Nat} (hd : decode cc pc = .ok (.isub, 1)) (hs : a = s + c) (kk : GG l cc M b X (pc + 1) L (.int (nI s) :: st) w k n) : GG l cc M b X pc L (.int (nI c) :: .int (nI a) :: st) w k n := G_isub hd (G_eqi (by rw [pk_sub (by omega)]; congr 1; omega) kk)
theorem G_idivN {a c s : Nat} (hd : decode cc pc = .ok (.idiv, 1)) (hb : a < 2147483648 ∧ 0 < c ∧ c < 2147483648) (hs : a / c = s) (kk : GG l cc M b X (pc + 1) L (.int (nI s) :: st) w k n) : GG l cc M b X pc L (.int (nI c) :: .int (nI a) :: st) w k n := G_idiv hd (nI_ne0 hb.2.1 hb.2.2) (G_eqi (by rw [pk_div hb.1 hb.2.1 hb.2.2, hs]) kk)
theorem G_iremN {a c s : Nat} (hd : decode cc pc = .ok (.irem, 1)) (hb : a < 2147483648 ∧ 0 < c ∧ c < 2147483648) (hs : a % c = s) (kk : GG l cc M b X (pc + 1) L (.int (nI s) :: st) w k n) : GG l cc M b X pc L (.int (nI c) :: .int (nI a) :: st) w k n := G_irem hd (nI_ne0 hb.2.1 hb.2.2) (G_eqi (by rw [pk_rem hb.1 hb.2.1 hb.2.2, hs]) kk)
theorem G_iincN {i a s : Nat} {L' : mj_L} (hd : decode cc pc = .ok (.iinc i 1, 3)) (hi : L[i]? = some (some (.int (nI a)))) (hs : a + 1 = s) (hL : mj_st L i (.int (nI s)) = L') (kk : GG l cc M b X (pc + 3) L' st w k n) : GG l cc M b X pc L st w k n := G_iinc hd hi (by rw [← hs]; exact nI_1 a) hL kk
theorem G_icmp_eqN {a c : Nat} {off : Int} (tgt : Nat) (hd : decode cc pc = .ok (.if_icmp .eq off, 3)) (ht : (pc : Int) + off = (tgt : Int)) (ha : a < 2147483648 ∧ c < 2147483648) (kt : a = c → GG l cc M b X tgt L st w k n) (kf : ¬ a = c → GG l cc M b X (pc + 3) L st w k n) : GG l cc M b X pc L (.int (nI c) :: .int (nI a) :: st) w k n := G_icmp_eq tgt hd ht (fun q => kt ((nI_eq ha.1 ha.2).mp q)) (fun q => kf (fun z => q ((nI_eq ha.1 ha.2).mpr z)))
theorem G_icmp_neN {a c : Nat} {off : Int} (tgt : Nat) (hd : decode cc pc = .ok (.if_icmp .ne off, 3)) (ht : (pc : Int) + off = (tgt : Int)) (ha : a < 2147483648 ∧ c < 2147483648) (kt : ¬ a = c → GG l cc M b X tgt L st w k n) (kf : a = c → GG l cc M b X (pc + 3) L st w k n) : GG l cc M b X pc L (.int (nI c) :: .int (nI a) :: st) w k n := G_icmp_ne tgt hd ht (fun q => kt (fun z => q ((nI_eq ha.1 ha.2).mpr z))) (fun q => kf ((nI_eq ha.1 ha.2).mp q))
theorem G_icmp_ltN {a c : Nat} {off : Int} (tgt : Nat) (hd : decode cc pc = .ok (.if_icmp .lt off, 3)) (ht : (pc : Int) + off = (tgt : Int)) (ha : a < 2147483648 ∧ c < 2147483648) (kt : a < c → GG l cc M b X tgt L st w k n) (kf : c ≤ a → GG l cc M b X (pc + 3) L st w k n) : GG l cc M b X pc L (.int (nI c) :: .int (nI a) :: st) w k n := G_icmp_lt tgt hd ht (fun q => kt ((nI_ltI ha.1 ha.2).mp q)) (fun q => kf (by have z : ¬ _ := fun z => q ((nI_ltI ha.1 ha.2).mpr z); omega))
theorem G_icmp_geN {a c : Nat} {off : Int} (tgt : Nat) (hd : decode cc pc = .ok (.if_icmp .ge off, 3)) (ht : (pc : Int) + off = (tgt : Int)) (ha : a < 2147483648 ∧ c < 2147483648) (kt : c ≤ a → GG l cc M b X tgt L st w k n) (kf : a < c → GG l cc M b X (pc + 3) L st w k n) : GG l cc M b X pc L (.int (nI c) :: .int (nI a) :: st) w k n := G_icmp_ge tgt hd ht (fun q => kt ((nI_leI ha.2 ha.1).mp q)) (fun q => kf (by have z : ¬ _ := fun z => q ((nI_leI ha.2 ha.1).mpr z); omega))
theorem G_icmp_gtN {a c : Nat} {off : Int} (tgt : Nat) (hd : decode cc pc = .ok (.if_icmp .gt off, 3)) (ht : (pc : Int) + off = (tgt : Int)) (ha : a < 2147483648 ∧ c < 2147483648) (kt : c < a → GG l cc M b X tgt L st w k n) (kf : a ≤ c → GG l cc M b X (pc + 3) L st w k n) : GG l cc M b X pc L (.int (nI c) :: .int (nI a) :: st) w k n := G_icmp_gt tgt hd ht (fun q => kt ((nI_ltI ha.2 ha.1).mp q)) (fun q => kf (by have z : ¬ _ := fun z => q ((nI_ltI ha.2 ha.1).mpr z); omega))
theorem G_icmp_leN {a c : Nat} {off : Int} (tgt : Nat) (hd : decode cc pc = .ok (.if_icmp .le off, 3)) (ht : (pc : Int) + off = (tgt : Int)) (ha : a < 2147483648 ∧ c < 2147483648) (kt : a ≤ c → GG l cc M b X tgt L st w k n) (kf : c < a → GG l cc M b X (pc + 3) L st w k n) : GG l cc M b X pc L (.int (nI c) :: .int (nI a) :: st) w k n := G_icmp_le tgt hd ht (fun q => kt ((nI_leI ha.1 ha.2).mp q)) (fun q => kf (by have z : ¬ _ := fun z => q ((nI_leI ha.1 ha.2).mpr z); omega))
theorem G_if_ltN {a : Nat} {off : Int} (tgt : Nat) (hd : decode cc pc = .ok (.ifCond .lt off, 3)) (ht : (pc : Int) + off = (tgt : Int)) (ha : a < 2147483648) (kf : GG l cc M b X (pc + 3) L st w k n) : GG l cc M b X pc L (.int (nI a) :: st) w k n := G_if_lt tgt hd ht (fun q => absurd q (nI_pos ha)) (fun _ => kf)
theorem G_if_geN {a : Nat} {off : Int} (tgt : Nat) (hd : decode cc pc = .ok (.ifCond .ge off, 3)) (ht : (pc : Int) + off = (tgt : Int)) (ha : a < 2147483648) (kt : GG l cc M b X tgt L st w k n) : GG l cc M b X pc L (.int (nI a) :: st) w k n := G_if_ge tgt hd ht (fun _ => kt) (fun q => absurd (nI_pos' ha) q)
theorem G_if_eqN {a : Nat} {off : Int} (tgt : Nat) (hd : decode cc pc = .ok (.ifCond .eq off, 3)) (ht : (pc : Int) + off = (tgt : Int)) (ha : a < 2147483648) (kt : a = 0 → GG l cc M b X tgt L st w k n) (kf : 0 < a → GG l cc M b X (pc + 3) L st w k n) : GG l cc M b X pc L (.int (nI a) :: st) w k n := G_if_eq tgt hd ht (fun q => kt ((nI_eq (b := 0) ha (by omega)).mp q)) (fun q => kf (by have z : ¬ a = 0 := fun z => q ((nI_eq (b := 0) ha (by omega)).mpr z); omega))
theorem G_if_neN {a : Nat} {off : Int} (tgt : Nat) (hd : decode cc pc = .ok (.ifCond .ne off, 3)) (ht : (pc : Int) + off = (tgt : Int)) (ha : a < 2147483648) (kt : 0 < a → GG l cc M b X tgt L st w k n) (kf : a = 0 → GG l cc M b X (pc + 3) L st w k n) : GG l cc M b X pc L (.int (nI a) :: st) w k n := G_if_ne tgt hd ht (fun q => kt (by have z : ¬ a = 0 := fun z => q ((nI_eq (b := 0) ha (by omega)).mpr z); omega)) (fun q => kf ((nI_eq (b := 0) ha (by omega)).mp q))
end MJR

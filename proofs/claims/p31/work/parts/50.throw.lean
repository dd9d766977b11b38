/-! THROWS: the row -/
theorem thN_ot : thN.all (fun w => w.onTables) = true := by decide +kernel
theorem mj_Y.bad {A : Nat → Prop} {U : State} {H : Heap} (h : mj_Y A U H) {args : Array Value} : ∀ w ∈ thN, w.before args U = true := fun w hw => va_any (List.all_eq_true.mp thN_ot w hw) (h.1 w hw)
def mj_th (M : mj_M) (cls text : String) (names : List String) (ik is ic : Nat) : Prop :=
  (∀ w ∈ Cond.classLink M.1 ik cls :: Cond.initialized cls :: (vx_atS M.1 ic cls names).filter goodWord, w ∈ M.2.2.1) ∧ (∀ w ∈ (vx_atS M.1 ic cls names).filter (fun w => !goodWord w), w ∈ thN) ∧ (∀ w ∈ Cond.classLink M.1 ik cls :: Cond.initialized cls :: vx_atS M.1 ic cls names, vx_ot w = true) ∧ (Bundle.fit cls = true ∧ ∀ n ∈ names, Bundle.fit n = true) ∧ (∀ A U H, mj_Y A U H → ∃ a, vk_R M.1 is text a U)
theorem G_throwS {l : Launch} {cc : ByteArray} {M : mj_M} {b : Bool} {pc : Nat} {L : mj_L} {rest : List Value} {w : mj_W} {k n : Nat} {cls text : String} {names : List String} {ik is ic : Nat} (hl : l.stackTraces = false) (T : mj_th M cls text names ik is ic)
    (d0 : decode cc pc = .ok (.new ik, 3)) (d3 : decode cc (pc + 3) = .ok (.dup, 1)) (d4 : decode cc (pc + 4) = .ok (.ldc is, 2)) (d6 : decode cc (pc + 6) = .ok (.invokespecial ic, 3)) (d9 : decode cc (pc + 9) = .ok (.athrow, 1))
    (hR : names.length + 3 < M.2.2.2.1.frames ∧ (rest.map fun v => v.category).sum + (13 * (names.length + 1) + 43) ≤ M.2.2.2.1.locals ∧ k + 1 ≤ M.2.2.2.1.cells ∧ n + 6 ≤ M.2.2.2.1.slots) : GG l cc M b (.inr (cls, w)) pc L rest w k n := by
  intro p e s m args below meth c Q D A ad0 N F E ad cy H locs ls r P S hl2
  obtain ⟨-, Qc, XC, free, hQ, hfree, hexc, hlocks, hXC⟩ := E
  subst hQ
  have Y := (mj_hX F).2.2
  obtain ⟨a, ha⟩ := T.2.2.2.2 _ _ _ Y
  exact vx_throwS F.1 F.2.1 hl F.2.2.2.1 T.2.2.2.1.1 T.2.2.2.1.2 (F.2.2.2.2.1 _ (T.1 _ (List.mem_cons_self ..))) (F.2.2.2.2.1 _ (T.1 _ (List.mem_cons_of_mem _ (List.mem_cons_self ..)))) ha (vx_hat (fun w hw => F.2.2.2.2.1 w (T.1 w (List.mem_cons_of_mem _ (List.mem_cons_of_mem _ hw)))) T.2.1 Y.bad) T.2.2.1 (mj_hX F).1 (mj_hX F).2.1 S (F.2.2.1.trans hl2.2.1.symm).symm d0 d3 d4 d6 d9 (fun x hx => (hexc x hx).elim) hR.1 (by rw [mj_cats]; exact hR.2.1) hR.2.2.1 hR.2.2.2 hlocks (fun t h1 h2 h3 => hXC ad cy H locs t r P S h1 h2 h3) (fun z hz => hfree _ (S.2.2 z hz)) hR.2.2.1 hR.2.2.2
abbrev MT3_requireArgument : mj_M := (RX3, 1, wsX3_requireArgument, { frames := 6, cells := 1, slots := 6, locals := 100 }, false, none)
abbrev MT3_requireIndex : mj_M := (RX3, 2, wsX3_requireIndex, { frames := 6, cells := 1, slots := 6, locals := 100 }, false, none)
abbrev MT3_requireState : mj_M := (RX3, 1, wsX3_requireState, { frames := 6, cells := 1, slots := 6, locals := 100 }, false, none)
theorem hA_th : mj_th MT3_requireArgument "java/lang/IllegalArgumentException" "the argument is not right" ["java/lang/RuntimeException", "java/lang/Exception"] 231 233 235 := ⟨by decide +kernel, by decide +kernel, fun w hw => List.all_eq_true.mp th_otA w hw, ⟨by decide +kernel, by decide +kernel⟩, fun _ _ _ h => h.2.2.1⟩
theorem hI_th : mj_th MT3_requireIndex "java/lang/IndexOutOfBoundsException" "there is no such number" ["java/lang/RuntimeException", "java/lang/Exception"] 224 226 228 := ⟨by decide +kernel, by decide +kernel, fun w hw => List.all_eq_true.mp th_otI w hw, ⟨by decide +kernel, by decide +kernel⟩, fun _ _ _ h => h.2.1⟩
theorem hS_th : mj_th MT3_requireState "java/lang/IllegalStateException" "that is not possible now" ["java/lang/RuntimeException", "java/lang/Exception"] 236 238 240 := ⟨by decide +kernel, by decide +kernel, fun w hw => List.all_eq_true.mp th_otS w hw, ⟨by decide +kernel, by decide +kernel⟩, fun _ _ _ h => h.2.2.2.1⟩
/-! a method that ends with an exception of the class E, the world then w1 -/
def mj_Xc (D : va_G) (ad : Nat → Nat) (cy : Nat → ClassId) (w : mj_W) (sz : Nat) (E : String) (w1 : mj_W) : String → State → State → Prop := fun E' st t => E' = E ∧ (∃ (ad1 : Nat → Nat) (cy1 : Nat → ClassId), mj_rel false w.length ad ad1 w1 ∧ va_P D vwCl (mj_w ad1 cy1 w1) t.heap ∧ va_D (va_A (mj_w ad cy w) sz) (mj_w ad1 cy1 w1) ∧ mj_T cy1 w1 t) ∧ va_F (va_A (mj_w ad cy w) sz) st t
def MCX (l : Launch) (y : MethodName) (ws : List Cond) (rm : Room) (as : List Value) (w : mj_W) (E : String) (w1 : mj_W) : Prop :=
  w.length ≤ 4000 → ∀ (D : va_G) (ad : Nat → Nat) (cy : Nat → ClassId) (sz : Nat), vx_Met l y ws rm (mj_Pc D ad cy w sz as) (fun _ _ _ _ => False) (mj_Xc D ad cy w sz E w1) rm.cells rm.slots (va_A (mj_w ad cy w) sz)
theorem mj_MCX {l : Launch} {y : MethodName} {ws ws' : List Cond} {rm : Room} {as : List Value} {w w1 : mj_W} {E : String} {cc : ByteArray} {nl : Nat} {ret : Option FieldType} (hy : plainName y.cls = true) (hw : ws = Cond.code y cc nl ret :: ws') (hlen : (mj_sl as).length ≤ nl)
    (hG : GG l cc (y.cls, nl, ws, rm, y.name == "<init>", none) false (.inr (E, w1)) 0 (mj_in as nl) [] w 0 0) : MCX l y ws rm as w E w1 := by
  intro hw4 D ad cy sz
  refine vx_ofW (cc := cc) (maxL := nl) (ret := ret) hy hw ?_
  intro p e s m args below meth c s₁ B hml hex hv
  obtain ⟨rfl, hsz, hP, hK, hD, hT, hX⟩ := hv
  have hts := atoms_spec (ws := ws) B.pre
  subst hsz
  rw [lg_entry_eq]
  have hlen' : (lg_sl (as.map (mj_v ad))).length ≤ nl := by rw [mj_sl_len]; exact hlen
  have hl := lv_entry (as.map (mj_v ad)) (n := nl) hlen'
  have post : ∀ (ad1 : Nat → Nat) (cy1 : Nat → ClassId) (H1 : Heap) (locs1 : List Loc) (t : State), mj_rel false w.length ad ad1 w1 → mj_P D (va_A (mj_w ad cy w) s.heap.size) ad1 cy1 w1 s H1 → va_S (va_A (mj_w ad cy w) s.heap.size) s.heap H1 locs1 → s.vm.Alike t.vm → H1.size ≤ t.heap.size → (∀ q : Nat, q < H1.size → t.heap[q]? = H1[q]?) → mj_Xc D ad cy w s.heap.size E w1 E s t := fun ad1 cy1 H1 locs1 t hrel hP1 hS1 hvm hz hq => ⟨rfl, ⟨ad1, cy1, hrel, hP1.1.kept (fun k0 q0 hk0 => hq _ (vx_lt hP1.1 hk0)), hP1.2.1, hP1.2.2.moved hvm⟩, Nat.le_trans hS1.1 hz, fun q h1 h2 => by rw [hq q (Nat.lt_of_lt_of_le h1 hS1.1)]; exact hS1.2.1 q h1 h2⟩
  refine hG p e s m _ below meth c _ D (va_A (mj_w ad cy w) s.heap.size) ad w.length ⟨B.exec, B.bytes, hml, findClass_of_methodNamed B.named, hts, hK, fun q h => Or.inr h, hX, fun q => ?_, fun t q => by cases q⟩ ⟨?_, fun _ _ _ _ => False, mj_Xc D ad cy w s.heap.size E w1, va_A (mj_w ad cy w) s.heap.size, rfl, fun q h => h, hex, B.notSynchronized, post⟩ ad cy s.heap [] _ ⟨fun _ => rfl, fun _ _ => rfl, Nat.le_refl _, hw4⟩ ⟨hP, hD.self, hT⟩ va_S.rf ⟨?_, hl.1, hl.2.1, ?_⟩
  · have q' : y.name = "<init>" := by simpa using q
    exact (name_of_methodNamed B.named B.method).1.trans q'
  · intro ad1 cy1 H1 locs1 ls1 pc1 k1 n1 st1 q1 ce1 hrel hP1 hS1 hk1 hn1 hce hcv hcl
    exact vx_out (fun x hx => (hex x hx).elim) B.notSynchronized hce hcv hcl (fun t ht hvm => post ad1 cy1 H1 locs1 t hrel hP1 hS1 hvm (by rw [ht]; exact Nat.le_refl _) (fun q _ => by rw [ht])) hS1.2.2 hk1 hn1
  · simp only [mj_in, List.length_append, List.length_replicate]; omega
  · rintro ⟨i, x⟩ hq
    obtain ⟨u, hu, rfl⟩ := mj_lv_mem.mp hq
    have h := mj_sl_mem ad _ as 0 i u hu
    rw [Nat.zero_add] at h
    exact hl.2.2 _ h

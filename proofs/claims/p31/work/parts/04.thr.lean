/-! words of a throw that are not good words, carried where the classes are alike -/
def ng3 : Cond → Bool
  | .declares _ => true
  | .castable _ _ => true
  | _ => false
theorem ng3_moved {w : Cond} {u U : State} (hvm : u.vm.Alike U.vm) (hw : ng3 w = true) (h : w.before #[] u = true) : w.before #[] U = true := by
  unfold ng3 at hw
  split at hw
  · exact va_tabs rfl (rfl : (u.setVm U.vm).vm = U.vm) (by rw [Cond.declares_setVm hvm]; exact h)
  · exact va_tabs rfl (rfl : (u.setVm U.vm).vm = U.vm) (by rw [Cond.castable_setVm hvm]; exact h)
  · cases hw
abbrev thA : List Cond := vx_atS RX3 235 "java/lang/IllegalArgumentException" ["java/lang/RuntimeException", "java/lang/Exception"]
abbrev thI : List Cond := vx_atS RX3 228 "java/lang/IndexOutOfBoundsException" ["java/lang/RuntimeException", "java/lang/Exception"]
abbrev thS : List Cond := vx_atS RX3 240 "java/lang/IllegalStateException" ["java/lang/RuntimeException", "java/lang/Exception"]
def thN : List Cond := (thA ++ thI ++ thS).filter (fun w => !goodWord w)
theorem thN_ng : thN.all ng3 = true := by decide +kernel
theorem th_otA : (Cond.classLink RX3 231 "java/lang/IllegalArgumentException" :: Cond.initialized "java/lang/IllegalArgumentException" :: thA).all vx_ot = true := by decide +kernel
theorem th_otI : (Cond.classLink RX3 224 "java/lang/IndexOutOfBoundsException" :: Cond.initialized "java/lang/IndexOutOfBoundsException" :: thI).all vx_ot = true := by decide +kernel
theorem th_otS : (Cond.classLink RX3 236 "java/lang/IllegalStateException" :: Cond.initialized "java/lang/IllegalStateException" :: thS).all vx_ot = true := by decide +kernel
theorem th_fit : (["java/lang/IllegalArgumentException", "java/lang/IndexOutOfBoundsException", "java/lang/IllegalStateException", "java/lang/RuntimeException", "java/lang/Exception"].all Bundle.fit) = true := by decide +kernel
/-- the world facts that a throw and the two tables stand on -/
def mj_Y (A : Nat → Prop) (U : State) (H : Heap) : Prop := (∀ w ∈ thN, w.before #[] U = true) ∧ (∃ a, vk_R RX3 226 "there is no such number" a U) ∧ (∃ a, vk_R RX3 233 "the argument is not right" a U) ∧ (∃ a, vk_R RX3 238 "that is not possible now" a U) ∧ ∃ t1 t2 : Nat, va_Z RX3 "LOWEST_SETTING" "[I" (.ref t1) A U H ∧ va_T .int t1 3 (fun j => .int (if j = 2 then 1 else 0)) A U H ∧ va_Z RX3 "HIGHEST_SETTING" "[I" (.ref t2) A U H ∧ va_T .int t2 3 (fun j => .int (if j = 0 then 9 else if j = 1 then 50 else 30)) A U H
theorem mj_Y.warm {A : Nat → Prop} {u U : State} {H : Heap} (hW : u.WarmedH U.vm) (h : mj_Y A u H) : mj_Y A U H := by
  obtain ⟨h1, ⟨a, h2⟩, ⟨b, h3⟩, ⟨c, h4⟩, t1, t2, h5, h6, h7, h8⟩ := h
  exact ⟨fun w hw => ng3_moved hW.alike (List.all_eq_true.mp thN_ng w hw) (h1 w hw), ⟨a, h2.warm hW⟩, ⟨b, h3.warm hW⟩, ⟨c, h4.warm hW⟩, t1, t2, h5.moved hW.alike, h6.moved hW.alike, h7.moved hW.alike, h8.moved hW.alike⟩
theorem mj_Y.calling {A : Nat → Prop} {U : State} {H : Heap} {g : JFrame} {mk : MethodId} {a : Array Value} (h : mj_Y A U H) : mj_Y A (U.calling g mk a) H := by
  obtain ⟨h1, ⟨a1, h2⟩, ⟨b, h3⟩, ⟨c, h4⟩, t1, t2, h5, h6, h7, h8⟩ := h
  have e : (U.calling g mk a).vm = U.vm := rfl
  have k : U.vm.Alike (U.calling g mk a).vm := Vm.Alike.refl U.vm
  exact ⟨fun w hw => ng3_moved k (List.all_eq_true.mp thN_ng w hw) (h1 w hw), ⟨a1, h2.same e⟩, ⟨b, h3.same e⟩, ⟨c, h4.same e⟩, t1, t2, h5.moved k, h6.moved k, h7.moved k, h8.moved k⟩
theorem mj_Y.kept {A : Nat → Prop} {U : State} {H H1 : Heap} (h : mj_Y A U H) (hq : ∀ a : Nat, a < H.size → ¬ A a → H1[a]? = H[a]?) : mj_Y A U H1 := by
  obtain ⟨h1, h2, h3, h4, t1, t2, h5, h6, h7, h8⟩ := h
  exact ⟨h1, h2, h3, h4, t1, t2, h5.kept hq, h6.kept hq, h7.kept hq, h8.kept hq⟩
theorem mj_Y.narrow {A B : Nat → Prop} {U : State} {H : Heap} (h : mj_Y A U H) (hAB : ∀ q, B q → A q) : mj_Y B U H := by
  obtain ⟨h1, h2, h3, h4, t1, t2, h5, h6, h7, h8⟩ := h
  exact ⟨h1, h2, h3, h4, t1, t2, h5.narrow hAB, h6.narrow hAB, h7.narrow hAB, h8.narrow hAB⟩

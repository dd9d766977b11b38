/-! THE LAW: what a turn draws out of the script -/
abbrev ML_law : mj_M := (RL, 20, wsL_law, room_1, false, none)
theorem kLw_X3_init : mj_cwI ML_law 166 yX3_init wsX3_init rmI3 0 := ⟨_, _, _, gL_law_X3_init, rfl, by decide +kernel, rfl, by decide +kernel, by decide⟩
theorem kL_law_L_begins : mj_cwS ML_law 167 yL_begins wsL_begins rmL_begins 4 := ⟨_, _, _, _, gL_law_L_begins, rfl, by decide +kernel, by decide⟩
theorem kL_law_L_cell : mj_cwS ML_law 170 yL_cell wsL_cell rmL_cell 2 := ⟨_, _, _, _, gL_law_L_cell, rfl, by decide +kernel, by decide⟩
theorem kL_law_L_low : mj_cwS ML_law 107 yL_low wsL_low rmL_low 2 := ⟨_, _, _, _, gL_law_L_low, rfl, by decide +kernel, by decide⟩
theorem kL_law_L_told : mj_cwS ML_law 174 yL_told wsL_told rmL_told 1 := ⟨_, _, _, _, gL_law_L_told, rfl, by decide +kernel, by decide⟩
theorem kL_law_L_call : mj_cwS ML_law 178 yL_call wsL_call rmL_call 6 := ⟨_, _, _, _, gL_law_L_call, rfl, by decide +kernel, by decide⟩
theorem kL_law_L_undo : mj_cwSW ML_law 182 yL_undo [(0, 4, 5, 31)] wsL_undo r0L_undo 1 := ⟨_, _, _, _, gL_law_L_undo, rfl, by decide +kernel, by decide⟩
theorem kL_law_L_due : mj_cwS ML_law 185 yL_due wsL_due rmL_due 12 := ⟨_, _, _, _, gL_law_L_due, rfl, by decide +kernel, by decide⟩
theorem kL_law_L_isSo : mj_cwS ML_law 189 yL_isSo wsL_isSo rmL_isSo 9 := ⟨_, _, _, _, gL_law_L_isSo, rfl, by decide +kernel, by decide⟩
def LC (p : Program) (l : Launch) (s : State) (m : MethodId) (args : Array Value) (meth : Method) (c : Code) (D : va_G) (A : Nat → Prop) (ad0 : Nat → Nat) (a Ls : Nat) (xs : Nat → Int32) : Prop := mj_F l code ML_law D A p s m args meth c ∧ (∀ U : State, s.WarmedH U.vm → ∀ q ∈ ctN, q.before #[] U = true) ∧ va_X a Ls xs s s.heap ∧ a < s.heap.size ∧ ¬ A a ∧ ad0 4000 = a ∧ Ls ≤ 260 ∧ l.stackTraces = false
/-- the first of a call's numbers, by its kind -/
def PA (kd : Nat) (v : Int32) : Prop := (kd = 3 ∧ (v = -1 ∨ ∃ j, j < 5 ∧ v = nI j)) ∨ (¬ kd = 3 ∧ ∃ j, v = nI j ∧ j < 61 ∧ (kd = 1 → 1 ≤ j ∧ j ≤ 60) ∧ ((kd = 0 ∨ kd = 2 ∨ kd = 7) → j < 6) ∧ ((kd = 4 ∨ kd = 5) → j < 5) ∧ (kd = 6 → j < 4) ∧ (kd = 8 → j < 3))
def PB (kd : Nat) (va v : Int32) : Prop := (kd = 3 ∧ (v = -1 ∨ ∃ j, j < 5 ∧ v = nI j)) ∨ (¬ kd = 3 ∧ ∃ j, v = nI j ∧ (kd = 0 → j < 5) ∧ (kd = 5 → j < 2) ∧ (kd = 6 → 10 ≤ j ∧ j ≤ 90) ∧ (kd = 7 → 5 ≤ j ∧ j ≤ 40) ∧ (kd = 8 → ∃ j0, va = nI j0 ∧ ((j0 = 0 ∧ j ≤ 9) ∨ (j0 = 1 ∧ j ≤ 50) ∨ (j0 = 2 ∧ 1 ≤ j ∧ j ≤ 30))))
def PE (kd : Nat) (v : Int32) : Prop := ∃ j, v = nI j ∧ ((kd = 0 ∨ kd = 3) → j < 4) ∧ (kd = 5 → 50 ≤ j ∧ j ≤ 900)
theorem m1_low {j : Nat} (hj : j < 6) : nI j - 1 = -1 ∨ ∃ q, q < 5 ∧ nI j - 1 = nI q := by
  rcases Nat.eq_zero_or_pos j with h | h
  · subst h
    exact Or.inl rfl
  · exact Or.inr ⟨j - 1, by omega, by rw [show (1 : Int32) = nI 1 from rfl, pk_sub (by omega)]⟩
section LL
variable {p : Program} {l : Launch} {e : Env} {s : State} {m : MethodId} {args : Array Value} {below : List Frame} {meth : Method} {c : Code} {Q : State → Prop} {D : va_G} {A : Nat → Prop} {ad0 : Nat → Nat} {N : Nat} {a Ls : Nat} {xs : Nat → Int32}
theorem lw_kind (C : LC p l s m args meth c D A ad0 a Ls xs) {w : mj_W} {k n i : Nat} {vx vy : Int32} {q0 : Nat} (hk : k ≤ 600104 ∧ n ≤ 7301314) (hi : i < 44) (hq : q0 < 20) (K : ∀ kd : Nat, kd ≤ 8 → GT p l e s m args below meth c Q D A ad0 N ML_law 153 [some (.ref 4000), some (.ref 0), some (.ref 11), some (.ref 12), some (.ref 13), some (.ref 14), some (.ref 15), some (.ref 16), some (.ref 17), some (.int (nI (i))), some (.int vx), some (.int vy), some (.int (nI (q0))), none, none, none, none, none, none, none] [.int (nI (kd))] (w) k n) : GT p l e s m args below meth c Q D A ad0 N ML_law 98 [some (.ref 4000), some (.ref 0), some (.ref 11), some (.ref 12), some (.ref 13), some (.ref 14), some (.ref 15), some (.ref 16), some (.ref 17), some (.int (nI (i))), some (.int vx), some (.int vy), some (.int (nI (q0))), none, none, none, none, none, none, none] [] (w) k n := by
  have F := C.1
  refine T_iload F dL_law_98 rfl ?_
  refine T_iconst F (v := 5) dL_law_100 (by decide) ?_
  refine T_icmp_ltN F (a1 := i) (c1 := 5) 111 dL_law_101 (by decide) (by omega) (fun c101 => ?_) (fun c101 => ?_)
  · refine T_iconst F (v := 0) dL_law_111 (by decide) ?_
    refine T_goto F 153 dL_law_112 (by decide) ?_
    exact K (0) (by omega)
  · refine T_iload F dL_law_104 rfl ?_
    refine T_bipush F (v := 6) dL_law_106 (by decide) ?_
    refine T_icmp_geN F (a1 := q0) (c1 := 6) 115 dL_law_108 (by decide) (by omega) (fun c108 => ?_) (fun c108 => ?_)
    · refine T_iload F dL_law_115 rfl ?_
      refine T_bipush F (v := 11) dL_law_117 (by decide) ?_
      refine T_icmp_geN F (a1 := q0) (c1 := 11) 126 dL_law_119 (by decide) (by omega) (fun c119 => ?_) (fun c119 => ?_)
      · refine T_iload F dL_law_126 rfl ?_
        refine T_bipush F (v := 11) dL_law_128 (by decide) ?_
        refine T_icmp_neN F (a1 := q0) (c1 := 11) 137 dL_law_130 (by decide) (by omega) (fun c130 => ?_) (fun c130 => ?_)
        · refine T_iload F dL_law_137 rfl ?_
          refine T_bipush F (v := 15) dL_law_139 (by decide) ?_
          refine T_icmp_geN F (a1 := q0) (c1 := 15) 148 dL_law_141 (by decide) (by omega) (fun c141 => ?_) (fun c141 => ?_)
          · refine T_iload F dL_law_148 rfl ?_
            refine T_bipush F (v := 11) dL_law_150 (by decide) ?_
            refine T_isubN F (a1 := q0) (c1 := 11) (s1 := ((q0) - 11)) dL_law_152 (by omega) ?_
            exact K (((q0) - 11)) (by omega)
          · refine T_iconst F (v := 3) dL_law_144 (by decide) ?_
            refine T_goto F 153 dL_law_145 (by decide) ?_
            exact K (3) (by omega)
        · refine T_iconst F (v := 2) dL_law_133 (by decide) ?_
          refine T_goto F 153 dL_law_134 (by decide) ?_
          exact K (2) (by omega)
      · refine T_iconst F (v := 1) dL_law_122 (by decide) ?_
        refine T_goto F 153 dL_law_123 (by decide) ?_
        exact K (1) (by omega)
    · refine T_iconst F (v := 0) dL_law_111 (by decide) ?_
      refine T_goto F 153 dL_law_112 (by decide) ?_
      exact K (0) (by omega)
theorem lw_a (C : LC p l s m args meth c D A ad0 a Ls xs) {w : mj_W} {k n i : Nat} {vx vy : Int32} {kd : Nat} (hk : k ≤ 600104 ∧ n ≤ 7301314) (hkd : kd ≤ 8) (K : ∀ va : Int32, PA kd va → GT p l e s m args below meth c Q D A ad0 N ML_law 274 [some (.ref 4000), some (.ref 0), some (.ref 11), some (.ref 12), some (.ref 13), some (.ref 14), some (.ref 15), some (.ref 16), some (.ref 17), some (.int (nI (i))), some (.int vx), some (.int vy), some (.int (nI (kd))), none, none, none, none, none, none, none] [.int va] (w) k n) : GT p l e s m args below meth c Q D A ad0 N ML_law 155 [some (.ref 4000), some (.ref 0), some (.ref 11), some (.ref 12), some (.ref 13), some (.ref 14), some (.ref 15), some (.ref 16), some (.ref 17), some (.int (nI (i))), some (.int vx), some (.int vy), some (.int (nI (kd))), none, none, none, none, none, none, none] [] (w) k n := by
  have F := C.1
  rcases (show kd = 0 ∨ kd = 1 ∨ kd = 2 ∨ kd = 3 ∨ kd = 4 ∨ kd = 5 ∨ kd = 6 ∨ kd = 7 ∨ kd = 8 by omega) with rfl | rfl | rfl | rfl | rfl | rfl | rfl | rfl | rfl
  · refine T_iload F dL_law_155 rfl ?_
    refine T_if_eqN F (a1 := 0) 173 dL_law_157 (by decide) (by omega) (fun _ => ?_) (fun c157 => (show False by omega).elim)
    refine T_iload F dL_law_173 rfl ?_
    refine T_bipush F (v := 6) dL_law_175 (by decide) ?_
    refine T_callSi F dL_law_177 kL_law_L_low ⟨rfl, rfl⟩ hk (lm_low (n := 6) (by omega)) rfl rfl rfl ?_
    refine T_goto F 274 dL_law_180 (by decide) ?_
    have hz := lowN_lt vy (n := 6) (by decide)
    exact K _ (Or.inr ⟨by decide, (lowN vy 6), rfl, by omega, fun z => by omega, fun z => by omega, fun z => by omega, fun z => by omega, fun z => by omega⟩)
  · refine T_iload F dL_law_155 rfl ?_
    refine T_if_eqN F (a1 := 1) 173 dL_law_157 (by decide) (by omega) (fun c157 => (show False by omega).elim) (fun _ => ?_)
    refine T_iload F dL_law_160 rfl ?_
    refine T_iconst F (v := 2) dL_law_162 (by decide) ?_
    refine T_icmp_eqN F (a1 := 1) (c1 := 2) 173 dL_law_163 (by decide) (by omega) (fun c163 => (show False by omega).elim) (fun _ => ?_)
    refine T_iload F dL_law_166 rfl ?_
    refine T_bipush F (v := 7) dL_law_168 (by decide) ?_
    refine T_icmp_neN F (a1 := 1) (c1 := 7) 183 dL_law_170 (by decide) (by omega) (fun _ => ?_) (fun c170 => (show False by omega).elim)
    refine T_iload F dL_law_183 rfl ?_
    refine T_iconst F (v := 1) dL_law_185 (by decide) ?_
    refine T_icmp_neN F (a1 := 1) (c1 := 1) 218 dL_law_186 (by decide) (by omega) (fun c186 => (show False by omega).elim) (fun _ => ?_)
    refine T_iconst F (v := 1) dL_law_189 (by decide) ?_
    refine T_iload F dL_law_190 rfl ?_
    refine T_iload F dL_law_192 rfl ?_
    refine T_bipush F (v := 20) dL_law_194 (by decide) ?_
    refine T_ishr F dL_law_196 ?_
    refine T_iconst F (v := 5) dL_law_197 (by decide) ?_
    refine T_callSi F dL_law_198 kL_law_L_low ⟨rfl, rfl⟩ hk (lm_low (n := 5) (by omega)) rfl rfl rfl ?_
    have hz0 := lowN_lt (vy >>> ((20 : Int32) &&& 31)) (n := 5) (by decide)
    refine T_if_neN F (a1 := (lowN (vy >>> ((20 : Int32) &&& 31)) 5)) 209 dL_law_201 (by decide) (by omega) (fun c201 => ?_) (fun c201 => ?_)
    · refine T_bipush F (v := 6) dL_law_209 (by decide) ?_
      refine T_callSi F dL_law_211 kL_law_L_low ⟨rfl, rfl⟩ hk (lm_low (n := 6) (by omega)) rfl rfl rfl ?_
      refine T_iaddN F (a1 := 1) (c1 := (lowN vy 6)) (s1 := (lowN vy 6) + 1) dL_law_214 (by omega) ?_
      refine T_goto F 274 dL_law_215 (by decide) ?_
      have hz := lowN_lt vy (n := 6) (by decide)
      exact K _ (Or.inr ⟨by decide, (lowN vy 6) + 1, rfl, by omega, fun _ => by omega, fun z => by omega, fun z => by omega, fun z => by omega, fun z => by omega⟩)
    · refine T_bipush F (v := 60) dL_law_204 (by decide) ?_
      refine T_goto F 211 dL_law_206 (by decide) ?_
      refine T_callSi F dL_law_211 kL_law_L_low ⟨rfl, rfl⟩ hk (lm_low (n := 60) (by omega)) rfl rfl rfl ?_
      refine T_iaddN F (a1 := 1) (c1 := (lowN vy 60)) (s1 := (lowN vy 60) + 1) dL_law_214 (by omega) ?_
      refine T_goto F 274 dL_law_215 (by decide) ?_
      have hz := lowN_lt vy (n := 60) (by decide)
      exact K _ (Or.inr ⟨by decide, (lowN vy 60) + 1, rfl, by omega, fun _ => by omega, fun z => by omega, fun z => by omega, fun z => by omega, fun z => by omega⟩)
  · refine T_iload F dL_law_155 rfl ?_
    refine T_if_eqN F (a1 := 2) 173 dL_law_157 (by decide) (by omega) (fun c157 => (show False by omega).elim) (fun _ => ?_)
    refine T_iload F dL_law_160 rfl ?_
    refine T_iconst F (v := 2) dL_law_162 (by decide) ?_
    refine T_icmp_eqN F (a1 := 2) (c1 := 2) 173 dL_law_163 (by decide) (by omega) (fun _ => ?_) (fun c163 => (show False by omega).elim)
    refine T_iload F dL_law_173 rfl ?_
    refine T_bipush F (v := 6) dL_law_175 (by decide) ?_
    refine T_callSi F dL_law_177 kL_law_L_low ⟨rfl, rfl⟩ hk (lm_low (n := 6) (by omega)) rfl rfl rfl ?_
    refine T_goto F 274 dL_law_180 (by decide) ?_
    have hz := lowN_lt vy (n := 6) (by decide)
    exact K _ (Or.inr ⟨by decide, (lowN vy 6), rfl, by omega, fun z => by omega, fun z => by omega, fun z => by omega, fun z => by omega, fun z => by omega⟩)
  · refine T_iload F dL_law_155 rfl ?_
    refine T_if_eqN F (a1 := 3) 173 dL_law_157 (by decide) (by omega) (fun c157 => (show False by omega).elim) (fun _ => ?_)
    refine T_iload F dL_law_160 rfl ?_
    refine T_iconst F (v := 2) dL_law_162 (by decide) ?_
    refine T_icmp_eqN F (a1 := 3) (c1 := 2) 173 dL_law_163 (by decide) (by omega) (fun c163 => (show False by omega).elim) (fun _ => ?_)
    refine T_iload F dL_law_166 rfl ?_
    refine T_bipush F (v := 7) dL_law_168 (by decide) ?_
    refine T_icmp_neN F (a1 := 3) (c1 := 7) 183 dL_law_170 (by decide) (by omega) (fun _ => ?_) (fun c170 => (show False by omega).elim)
    refine T_iload F dL_law_183 rfl ?_
    refine T_iconst F (v := 1) dL_law_185 (by decide) ?_
    refine T_icmp_neN F (a1 := 3) (c1 := 1) 218 dL_law_186 (by decide) (by omega) (fun _ => ?_) (fun c186 => (show False by omega).elim)
    refine T_iload F dL_law_218 rfl ?_
    refine T_iconst F (v := 3) dL_law_220 (by decide) ?_
    refine T_icmp_neN F (a1 := 3) (c1 := 3) 236 dL_law_221 (by decide) (by omega) (fun c221 => (show False by omega).elim) (fun _ => ?_)
    refine T_iload F dL_law_224 rfl ?_
    refine T_bipush F (v := 6) dL_law_226 (by decide) ?_
    refine T_callSi F dL_law_228 kL_law_L_low ⟨rfl, rfl⟩ hk (lm_low (n := 6) (by omega)) rfl rfl rfl ?_
    refine T_iconst F (v := 1) dL_law_231 (by decide) ?_
    refine T_isub F dL_law_232 ?_
    refine T_goto F 274 dL_law_233 (by decide) ?_
    exact K _ (Or.inl ⟨rfl, m1_low (lowN_lt _ (by decide))⟩)
  · refine T_iload F dL_law_155 rfl ?_
    refine T_if_eqN F (a1 := 4) 173 dL_law_157 (by decide) (by omega) (fun c157 => (show False by omega).elim) (fun _ => ?_)
    refine T_iload F dL_law_160 rfl ?_
    refine T_iconst F (v := 2) dL_law_162 (by decide) ?_
    refine T_icmp_eqN F (a1 := 4) (c1 := 2) 173 dL_law_163 (by decide) (by omega) (fun c163 => (show False by omega).elim) (fun _ => ?_)
    refine T_iload F dL_law_166 rfl ?_
    refine T_bipush F (v := 7) dL_law_168 (by decide) ?_
    refine T_icmp_neN F (a1 := 4) (c1 := 7) 183 dL_law_170 (by decide) (by omega) (fun _ => ?_) (fun c170 => (show False by omega).elim)
    refine T_iload F dL_law_183 rfl ?_
    refine T_iconst F (v := 1) dL_law_185 (by decide) ?_
    refine T_icmp_neN F (a1 := 4) (c1 := 1) 218 dL_law_186 (by decide) (by omega) (fun _ => ?_) (fun c186 => (show False by omega).elim)
    refine T_iload F dL_law_218 rfl ?_
    refine T_iconst F (v := 3) dL_law_220 (by decide) ?_
    refine T_icmp_neN F (a1 := 4) (c1 := 3) 236 dL_law_221 (by decide) (by omega) (fun _ => ?_) (fun c221 => (show False by omega).elim)
    refine T_iload F dL_law_236 rfl ?_
    refine T_bipush F (v := 6) dL_law_238 (by decide) ?_
    refine T_icmp_neN F (a1 := 4) (c1 := 6) 252 dL_law_240 (by decide) (by omega) (fun _ => ?_) (fun c240 => (show False by omega).elim)
    refine T_iload F dL_law_252 rfl ?_
    refine T_bipush F (v := 8) dL_law_254 (by decide) ?_
    refine T_icmp_neN F (a1 := 4) (c1 := 8) 268 dL_law_256 (by decide) (by omega) (fun _ => ?_) (fun c256 => (show False by omega).elim)
    refine T_iload F dL_law_268 rfl ?_
    refine T_iconst F (v := 5) dL_law_270 (by decide) ?_
    refine T_callSi F dL_law_271 kL_law_L_low ⟨rfl, rfl⟩ hk (lm_low (n := 5) (by omega)) rfl rfl rfl ?_
    have hz := lowN_lt vy (n := 5) (by decide)
    exact K _ (Or.inr ⟨by decide, (lowN vy 5), rfl, by omega, fun z => by omega, fun z => by omega, fun z => by omega, fun z => by omega, fun z => by omega⟩)
  · refine T_iload F dL_law_155 rfl ?_
    refine T_if_eqN F (a1 := 5) 173 dL_law_157 (by decide) (by omega) (fun c157 => (show False by omega).elim) (fun _ => ?_)
    refine T_iload F dL_law_160 rfl ?_
    refine T_iconst F (v := 2) dL_law_162 (by decide) ?_
    refine T_icmp_eqN F (a1 := 5) (c1 := 2) 173 dL_law_163 (by decide) (by omega) (fun c163 => (show False by omega).elim) (fun _ => ?_)
    refine T_iload F dL_law_166 rfl ?_
    refine T_bipush F (v := 7) dL_law_168 (by decide) ?_
    refine T_icmp_neN F (a1 := 5) (c1 := 7) 183 dL_law_170 (by decide) (by omega) (fun _ => ?_) (fun c170 => (show False by omega).elim)
    refine T_iload F dL_law_183 rfl ?_
    refine T_iconst F (v := 1) dL_law_185 (by decide) ?_
    refine T_icmp_neN F (a1 := 5) (c1 := 1) 218 dL_law_186 (by decide) (by omega) (fun _ => ?_) (fun c186 => (show False by omega).elim)
    refine T_iload F dL_law_218 rfl ?_
    refine T_iconst F (v := 3) dL_law_220 (by decide) ?_
    refine T_icmp_neN F (a1 := 5) (c1 := 3) 236 dL_law_221 (by decide) (by omega) (fun _ => ?_) (fun c221 => (show False by omega).elim)
    refine T_iload F dL_law_236 rfl ?_
    refine T_bipush F (v := 6) dL_law_238 (by decide) ?_
    refine T_icmp_neN F (a1 := 5) (c1 := 6) 252 dL_law_240 (by decide) (by omega) (fun _ => ?_) (fun c240 => (show False by omega).elim)
    refine T_iload F dL_law_252 rfl ?_
    refine T_bipush F (v := 8) dL_law_254 (by decide) ?_
    refine T_icmp_neN F (a1 := 5) (c1 := 8) 268 dL_law_256 (by decide) (by omega) (fun _ => ?_) (fun c256 => (show False by omega).elim)
    refine T_iload F dL_law_268 rfl ?_
    refine T_iconst F (v := 5) dL_law_270 (by decide) ?_
    refine T_callSi F dL_law_271 kL_law_L_low ⟨rfl, rfl⟩ hk (lm_low (n := 5) (by omega)) rfl rfl rfl ?_
    have hz := lowN_lt vy (n := 5) (by decide)
    exact K _ (Or.inr ⟨by decide, (lowN vy 5), rfl, by omega, fun z => by omega, fun z => by omega, fun z => by omega, fun z => by omega, fun z => by omega⟩)
  · refine T_iload F dL_law_155 rfl ?_
    refine T_if_eqN F (a1 := 6) 173 dL_law_157 (by decide) (by omega) (fun c157 => (show False by omega).elim) (fun _ => ?_)
    refine T_iload F dL_law_160 rfl ?_
    refine T_iconst F (v := 2) dL_law_162 (by decide) ?_
    refine T_icmp_eqN F (a1 := 6) (c1 := 2) 173 dL_law_163 (by decide) (by omega) (fun c163 => (show False by omega).elim) (fun _ => ?_)
    refine T_iload F dL_law_166 rfl ?_
    refine T_bipush F (v := 7) dL_law_168 (by decide) ?_
    refine T_icmp_neN F (a1 := 6) (c1 := 7) 183 dL_law_170 (by decide) (by omega) (fun _ => ?_) (fun c170 => (show False by omega).elim)
    refine T_iload F dL_law_183 rfl ?_
    refine T_iconst F (v := 1) dL_law_185 (by decide) ?_
    refine T_icmp_neN F (a1 := 6) (c1 := 1) 218 dL_law_186 (by decide) (by omega) (fun _ => ?_) (fun c186 => (show False by omega).elim)
    refine T_iload F dL_law_218 rfl ?_
    refine T_iconst F (v := 3) dL_law_220 (by decide) ?_
    refine T_icmp_neN F (a1 := 6) (c1 := 3) 236 dL_law_221 (by decide) (by omega) (fun _ => ?_) (fun c221 => (show False by omega).elim)
    refine T_iload F dL_law_236 rfl ?_
    refine T_bipush F (v := 6) dL_law_238 (by decide) ?_
    refine T_icmp_neN F (a1 := 6) (c1 := 6) 252 dL_law_240 (by decide) (by omega) (fun c240 => (show False by omega).elim) (fun _ => ?_)
    refine T_iload F dL_law_243 rfl ?_
    refine T_iconst F (v := 4) dL_law_245 (by decide) ?_
    refine T_callSi F dL_law_246 kL_law_L_low ⟨rfl, rfl⟩ hk (lm_low (n := 4) (by omega)) rfl rfl rfl ?_
    refine T_goto F 274 dL_law_249 (by decide) ?_
    have hz := lowN_lt vy (n := 4) (by decide)
    exact K _ (Or.inr ⟨by decide, (lowN vy 4), rfl, by omega, fun z => by omega, fun z => by omega, fun z => by omega, fun z => by omega, fun z => by omega⟩)
  · refine T_iload F dL_law_155 rfl ?_
    refine T_if_eqN F (a1 := 7) 173 dL_law_157 (by decide) (by omega) (fun c157 => (show False by omega).elim) (fun _ => ?_)
    refine T_iload F dL_law_160 rfl ?_
    refine T_iconst F (v := 2) dL_law_162 (by decide) ?_
    refine T_icmp_eqN F (a1 := 7) (c1 := 2) 173 dL_law_163 (by decide) (by omega) (fun c163 => (show False by omega).elim) (fun _ => ?_)
    refine T_iload F dL_law_166 rfl ?_
    refine T_bipush F (v := 7) dL_law_168 (by decide) ?_
    refine T_icmp_neN F (a1 := 7) (c1 := 7) 183 dL_law_170 (by decide) (by omega) (fun c170 => (show False by omega).elim) (fun _ => ?_)
    refine T_iload F dL_law_173 rfl ?_
    refine T_bipush F (v := 6) dL_law_175 (by decide) ?_
    refine T_callSi F dL_law_177 kL_law_L_low ⟨rfl, rfl⟩ hk (lm_low (n := 6) (by omega)) rfl rfl rfl ?_
    refine T_goto F 274 dL_law_180 (by decide) ?_
    have hz := lowN_lt vy (n := 6) (by decide)
    exact K _ (Or.inr ⟨by decide, (lowN vy 6), rfl, by omega, fun z => by omega, fun z => by omega, fun z => by omega, fun z => by omega, fun z => by omega⟩)
  · refine T_iload F dL_law_155 rfl ?_
    refine T_if_eqN F (a1 := 8) 173 dL_law_157 (by decide) (by omega) (fun c157 => (show False by omega).elim) (fun _ => ?_)
    refine T_iload F dL_law_160 rfl ?_
    refine T_iconst F (v := 2) dL_law_162 (by decide) ?_
    refine T_icmp_eqN F (a1 := 8) (c1 := 2) 173 dL_law_163 (by decide) (by omega) (fun c163 => (show False by omega).elim) (fun _ => ?_)
    refine T_iload F dL_law_166 rfl ?_
    refine T_bipush F (v := 7) dL_law_168 (by decide) ?_
    refine T_icmp_neN F (a1 := 8) (c1 := 7) 183 dL_law_170 (by decide) (by omega) (fun _ => ?_) (fun c170 => (show False by omega).elim)
    refine T_iload F dL_law_183 rfl ?_
    refine T_iconst F (v := 1) dL_law_185 (by decide) ?_
    refine T_icmp_neN F (a1 := 8) (c1 := 1) 218 dL_law_186 (by decide) (by omega) (fun _ => ?_) (fun c186 => (show False by omega).elim)
    refine T_iload F dL_law_218 rfl ?_
    refine T_iconst F (v := 3) dL_law_220 (by decide) ?_
    refine T_icmp_neN F (a1 := 8) (c1 := 3) 236 dL_law_221 (by decide) (by omega) (fun _ => ?_) (fun c221 => (show False by omega).elim)
    refine T_iload F dL_law_236 rfl ?_
    refine T_bipush F (v := 6) dL_law_238 (by decide) ?_
    refine T_icmp_neN F (a1 := 8) (c1 := 6) 252 dL_law_240 (by decide) (by omega) (fun _ => ?_) (fun c240 => (show False by omega).elim)
    refine T_iload F dL_law_252 rfl ?_
    refine T_bipush F (v := 8) dL_law_254 (by decide) ?_
    refine T_icmp_neN F (a1 := 8) (c1 := 8) 268 dL_law_256 (by decide) (by omega) (fun c256 => (show False by omega).elim) (fun _ => ?_)
    refine T_iload F dL_law_259 rfl ?_
    refine T_iconst F (v := 3) dL_law_261 (by decide) ?_
    refine T_callSi F dL_law_262 kL_law_L_low ⟨rfl, rfl⟩ hk (lm_low (n := 3) (by omega)) rfl rfl rfl ?_
    refine T_goto F 274 dL_law_265 (by decide) ?_
    have hz := lowN_lt vy (n := 3) (by decide)
    exact K _ (Or.inr ⟨by decide, (lowN vy 3), rfl, by omega, fun z => by omega, fun z => by omega, fun z => by omega, fun z => by omega, fun z => by omega⟩)
theorem lw_b (C : LC p l s m args meth c D A ad0 a Ls xs) {w : mj_W} {k n i : Nat} {vx vy : Int32} {kd : Nat} {va : Int32} (hk : k ≤ 600104 ∧ n ≤ 7301314) (hkd : kd ≤ 8) (hPA : PA kd va) (K : ∀ vb : Int32, PB kd va vb → GT p l e s m args below meth c Q D A ad0 N ML_law 418 [some (.ref 4000), some (.ref 0), some (.ref 11), some (.ref 12), some (.ref 13), some (.ref 14), some (.ref 15), some (.ref 16), some (.ref 17), some (.int (nI (i))), some (.int vx), some (.int vy), some (.int (nI (kd))), some (.int va), none, none, none, none, none, none] [.int vb] (w) k n) : GT p l e s m args below meth c Q D A ad0 N ML_law 276 [some (.ref 4000), some (.ref 0), some (.ref 11), some (.ref 12), some (.ref 13), some (.ref 14), some (.ref 15), some (.ref 16), some (.ref 17), some (.int (nI (i))), some (.int vx), some (.int vy), some (.int (nI (kd))), some (.int va), none, none, none, none, none, none] [] (w) k n := by
  have F := C.1
  rcases (show kd = 0 ∨ kd = 1 ∨ kd = 2 ∨ kd = 3 ∨ kd = 4 ∨ kd = 5 ∨ kd = 6 ∨ kd = 7 ∨ kd = 8 by omega) with rfl | rfl | rfl | rfl | rfl | rfl | rfl | rfl | rfl
  · refine T_iload F dL_law_276 rfl ?_
    refine T_if_neN F (a1 := 0) 292 dL_law_278 (by decide) (by omega) (fun c278 => (show False by omega).elim) (fun _ => ?_)
    refine T_iload F dL_law_281 rfl ?_
    refine T_iconst F (v := 3) dL_law_283 (by decide) ?_
    refine T_ishr F dL_law_284 ?_
    refine T_iconst F (v := 5) dL_law_285 (by decide) ?_
    refine T_callSi F dL_law_286 kL_law_L_low ⟨rfl, rfl⟩ hk (lm_low (n := 5) (by omega)) rfl rfl rfl ?_
    refine T_goto F 418 dL_law_289 (by decide) ?_
    have hz := lowN_lt (vy >>> ((3 : Int32) &&& 31)) (n := 5) (by decide)
    exact K _ (Or.inr ⟨by decide, (lowN (vy >>> ((3 : Int32) &&& 31)) 5), rfl, fun z => by omega, fun z => by omega, fun z => by omega, fun z => by omega, fun z => absurd z (by decide)⟩)
  · obtain ⟨j0, rfl, hj61, -, -, -, -, hj8⟩ := (hPA.resolve_left (fun z => absurd z.1 (by decide))).2
    refine T_iload F dL_law_276 rfl ?_
    refine T_if_neN F (a1 := 1) 292 dL_law_278 (by decide) (by omega) (fun _ => ?_) (fun c278 => (show False by omega).elim)
    refine T_iload F dL_law_292 rfl ?_
    refine T_iconst F (v := 3) dL_law_294 (by decide) ?_
    refine T_icmp_neN F (a1 := 1) (c1 := 3) 312 dL_law_295 (by decide) (by omega) (fun _ => ?_) (fun c295 => (show False by omega).elim)
    refine T_iload F dL_law_312 rfl ?_
    refine T_iconst F (v := 5) dL_law_314 (by decide) ?_
    refine T_icmp_neN F (a1 := 1) (c1 := 5) 329 dL_law_315 (by decide) (by omega) (fun _ => ?_) (fun c315 => (show False by omega).elim)
    refine T_iload F dL_law_329 rfl ?_
    refine T_bipush F (v := 6) dL_law_331 (by decide) ?_
    refine T_icmp_neN F (a1 := 1) (c1 := 6) 351 dL_law_333 (by decide) (by omega) (fun _ => ?_) (fun c333 => (show False by omega).elim)
    refine T_iload F dL_law_351 rfl ?_
    refine T_bipush F (v := 7) dL_law_353 (by decide) ?_
    refine T_icmp_neN F (a1 := 1) (c1 := 7) 372 dL_law_355 (by decide) (by omega) (fun _ => ?_) (fun c355 => (show False by omega).elim)
    refine T_iload F dL_law_372 rfl ?_
    refine T_if_neN F (a1 := j0) 389 dL_law_374 (by decide) (by omega) (fun c374 => ?_) (fun c374 => ?_)
    · refine T_iload F dL_law_389 rfl ?_
      refine T_iconst F (v := 1) dL_law_391 (by decide) ?_
      refine T_icmp_neN F (a1 := j0) (c1 := 1) 407 dL_law_392 (by decide) (by omega) (fun c392 => ?_) (fun c392 => ?_)
      · refine T_iconst F (v := 1) dL_law_407 (by decide) ?_
        refine T_iload F dL_law_408 rfl ?_
        refine T_iconst F (v := 3) dL_law_410 (by decide) ?_
        refine T_ishr F dL_law_411 ?_
        refine T_bipush F (v := 30) dL_law_412 (by decide) ?_
        refine T_callSi F dL_law_414 kL_law_L_low ⟨rfl, rfl⟩ hk (lm_low (n := 30) (by omega)) rfl rfl rfl ?_
        refine T_iaddN F (a1 := 1) (c1 := (lowN (vy >>> ((3 : Int32) &&& 31)) 30)) (s1 := (lowN (vy >>> ((3 : Int32) &&& 31)) 30) + 1) dL_law_417 (by omega) ?_
        have hz := lowN_lt (vy >>> ((3 : Int32) &&& 31)) (n := 30) (by decide)
        exact K _ (Or.inr ⟨by decide, (lowN (vy >>> ((3 : Int32) &&& 31)) 30) + 1, rfl, fun z => by omega, fun z => by omega, fun z => by omega, fun z => by omega, fun z => absurd z (by decide)⟩)
      · refine T_iload F dL_law_395 rfl ?_
        refine T_iconst F (v := 3) dL_law_397 (by decide) ?_
        refine T_ishr F dL_law_398 ?_
        refine T_bipush F (v := 51) dL_law_399 (by decide) ?_
        refine T_callSi F dL_law_401 kL_law_L_low ⟨rfl, rfl⟩ hk (lm_low (n := 51) (by omega)) rfl rfl rfl ?_
        refine T_goto F 418 dL_law_404 (by decide) ?_
        have hz := lowN_lt (vy >>> ((3 : Int32) &&& 31)) (n := 51) (by decide)
        exact K _ (Or.inr ⟨by decide, (lowN (vy >>> ((3 : Int32) &&& 31)) 51), rfl, fun z => by omega, fun z => by omega, fun z => by omega, fun z => by omega, fun z => absurd z (by decide)⟩)
    · refine T_iload F dL_law_377 rfl ?_
      refine T_iconst F (v := 3) dL_law_379 (by decide) ?_
      refine T_ishr F dL_law_380 ?_
      refine T_bipush F (v := 10) dL_law_381 (by decide) ?_
      refine T_callSi F dL_law_383 kL_law_L_low ⟨rfl, rfl⟩ hk (lm_low (n := 10) (by omega)) rfl rfl rfl ?_
      refine T_goto F 418 dL_law_386 (by decide) ?_
      have hz := lowN_lt (vy >>> ((3 : Int32) &&& 31)) (n := 10) (by decide)
      exact K _ (Or.inr ⟨by decide, (lowN (vy >>> ((3 : Int32) &&& 31)) 10), rfl, fun z => by omega, fun z => by omega, fun z => by omega, fun z => by omega, fun z => absurd z (by decide)⟩)
  · obtain ⟨j0, rfl, hj61, -, -, -, -, hj8⟩ := (hPA.resolve_left (fun z => absurd z.1 (by decide))).2
    refine T_iload F dL_law_276 rfl ?_
    refine T_if_neN F (a1 := 2) 292 dL_law_278 (by decide) (by omega) (fun _ => ?_) (fun c278 => (show False by omega).elim)
    refine T_iload F dL_law_292 rfl ?_
    refine T_iconst F (v := 3) dL_law_294 (by decide) ?_
    refine T_icmp_neN F (a1 := 2) (c1 := 3) 312 dL_law_295 (by decide) (by omega) (fun _ => ?_) (fun c295 => (show False by omega).elim)
    refine T_iload F dL_law_312 rfl ?_
    refine T_iconst F (v := 5) dL_law_314 (by decide) ?_
    refine T_icmp_neN F (a1 := 2) (c1 := 5) 329 dL_law_315 (by decide) (by omega) (fun _ => ?_) (fun c315 => (show False by omega).elim)
    refine T_iload F dL_law_329 rfl ?_
    refine T_bipush F (v := 6) dL_law_331 (by decide) ?_
    refine T_icmp_neN F (a1 := 2) (c1 := 6) 351 dL_law_333 (by decide) (by omega) (fun _ => ?_) (fun c333 => (show False by omega).elim)
    refine T_iload F dL_law_351 rfl ?_
    refine T_bipush F (v := 7) dL_law_353 (by decide) ?_
    refine T_icmp_neN F (a1 := 2) (c1 := 7) 372 dL_law_355 (by decide) (by omega) (fun _ => ?_) (fun c355 => (show False by omega).elim)
    refine T_iload F dL_law_372 rfl ?_
    refine T_if_neN F (a1 := j0) 389 dL_law_374 (by decide) (by omega) (fun c374 => ?_) (fun c374 => ?_)
    · refine T_iload F dL_law_389 rfl ?_
      refine T_iconst F (v := 1) dL_law_391 (by decide) ?_
      refine T_icmp_neN F (a1 := j0) (c1 := 1) 407 dL_law_392 (by decide) (by omega) (fun c392 => ?_) (fun c392 => ?_)
      · refine T_iconst F (v := 1) dL_law_407 (by decide) ?_
        refine T_iload F dL_law_408 rfl ?_
        refine T_iconst F (v := 3) dL_law_410 (by decide) ?_
        refine T_ishr F dL_law_411 ?_
        refine T_bipush F (v := 30) dL_law_412 (by decide) ?_
        refine T_callSi F dL_law_414 kL_law_L_low ⟨rfl, rfl⟩ hk (lm_low (n := 30) (by omega)) rfl rfl rfl ?_
        refine T_iaddN F (a1 := 1) (c1 := (lowN (vy >>> ((3 : Int32) &&& 31)) 30)) (s1 := (lowN (vy >>> ((3 : Int32) &&& 31)) 30) + 1) dL_law_417 (by omega) ?_
        have hz := lowN_lt (vy >>> ((3 : Int32) &&& 31)) (n := 30) (by decide)
        exact K _ (Or.inr ⟨by decide, (lowN (vy >>> ((3 : Int32) &&& 31)) 30) + 1, rfl, fun z => by omega, fun z => by omega, fun z => by omega, fun z => by omega, fun z => absurd z (by decide)⟩)
      · refine T_iload F dL_law_395 rfl ?_
        refine T_iconst F (v := 3) dL_law_397 (by decide) ?_
        refine T_ishr F dL_law_398 ?_
        refine T_bipush F (v := 51) dL_law_399 (by decide) ?_
        refine T_callSi F dL_law_401 kL_law_L_low ⟨rfl, rfl⟩ hk (lm_low (n := 51) (by omega)) rfl rfl rfl ?_
        refine T_goto F 418 dL_law_404 (by decide) ?_
        have hz := lowN_lt (vy >>> ((3 : Int32) &&& 31)) (n := 51) (by decide)
        exact K _ (Or.inr ⟨by decide, (lowN (vy >>> ((3 : Int32) &&& 31)) 51), rfl, fun z => by omega, fun z => by omega, fun z => by omega, fun z => by omega, fun z => absurd z (by decide)⟩)
    · refine T_iload F dL_law_377 rfl ?_
      refine T_iconst F (v := 3) dL_law_379 (by decide) ?_
      refine T_ishr F dL_law_380 ?_
      refine T_bipush F (v := 10) dL_law_381 (by decide) ?_
      refine T_callSi F dL_law_383 kL_law_L_low ⟨rfl, rfl⟩ hk (lm_low (n := 10) (by omega)) rfl rfl rfl ?_
      refine T_goto F 418 dL_law_386 (by decide) ?_
      have hz := lowN_lt (vy >>> ((3 : Int32) &&& 31)) (n := 10) (by decide)
      exact K _ (Or.inr ⟨by decide, (lowN (vy >>> ((3 : Int32) &&& 31)) 10), rfl, fun z => by omega, fun z => by omega, fun z => by omega, fun z => by omega, fun z => absurd z (by decide)⟩)
  · refine T_iload F dL_law_276 rfl ?_
    refine T_if_neN F (a1 := 3) 292 dL_law_278 (by decide) (by omega) (fun _ => ?_) (fun c278 => (show False by omega).elim)
    refine T_iload F dL_law_292 rfl ?_
    refine T_iconst F (v := 3) dL_law_294 (by decide) ?_
    refine T_icmp_neN F (a1 := 3) (c1 := 3) 312 dL_law_295 (by decide) (by omega) (fun c295 => (show False by omega).elim) (fun _ => ?_)
    refine T_iload F dL_law_298 rfl ?_
    refine T_iconst F (v := 3) dL_law_300 (by decide) ?_
    refine T_ishr F dL_law_301 ?_
    refine T_bipush F (v := 6) dL_law_302 (by decide) ?_
    refine T_callSi F dL_law_304 kL_law_L_low ⟨rfl, rfl⟩ hk (lm_low (n := 6) (by omega)) rfl rfl rfl ?_
    refine T_iconst F (v := 1) dL_law_307 (by decide) ?_
    refine T_isub F dL_law_308 ?_
    refine T_goto F 418 dL_law_309 (by decide) ?_
    exact K _ (Or.inl ⟨rfl, m1_low (lowN_lt _ (by decide))⟩)
  · obtain ⟨j0, rfl, hj61, -, -, -, -, hj8⟩ := (hPA.resolve_left (fun z => absurd z.1 (by decide))).2
    refine T_iload F dL_law_276 rfl ?_
    refine T_if_neN F (a1 := 4) 292 dL_law_278 (by decide) (by omega) (fun _ => ?_) (fun c278 => (show False by omega).elim)
    refine T_iload F dL_law_292 rfl ?_
    refine T_iconst F (v := 3) dL_law_294 (by decide) ?_
    refine T_icmp_neN F (a1 := 4) (c1 := 3) 312 dL_law_295 (by decide) (by omega) (fun _ => ?_) (fun c295 => (show False by omega).elim)
    refine T_iload F dL_law_312 rfl ?_
    refine T_iconst F (v := 5) dL_law_314 (by decide) ?_
    refine T_icmp_neN F (a1 := 4) (c1 := 5) 329 dL_law_315 (by decide) (by omega) (fun _ => ?_) (fun c315 => (show False by omega).elim)
    refine T_iload F dL_law_329 rfl ?_
    refine T_bipush F (v := 6) dL_law_331 (by decide) ?_
    refine T_icmp_neN F (a1 := 4) (c1 := 6) 351 dL_law_333 (by decide) (by omega) (fun _ => ?_) (fun c333 => (show False by omega).elim)
    refine T_iload F dL_law_351 rfl ?_
    refine T_bipush F (v := 7) dL_law_353 (by decide) ?_
    refine T_icmp_neN F (a1 := 4) (c1 := 7) 372 dL_law_355 (by decide) (by omega) (fun _ => ?_) (fun c355 => (show False by omega).elim)
    refine T_iload F dL_law_372 rfl ?_
    refine T_if_neN F (a1 := j0) 389 dL_law_374 (by decide) (by omega) (fun c374 => ?_) (fun c374 => ?_)
    · refine T_iload F dL_law_389 rfl ?_
      refine T_iconst F (v := 1) dL_law_391 (by decide) ?_
      refine T_icmp_neN F (a1 := j0) (c1 := 1) 407 dL_law_392 (by decide) (by omega) (fun c392 => ?_) (fun c392 => ?_)
      · refine T_iconst F (v := 1) dL_law_407 (by decide) ?_
        refine T_iload F dL_law_408 rfl ?_
        refine T_iconst F (v := 3) dL_law_410 (by decide) ?_
        refine T_ishr F dL_law_411 ?_
        refine T_bipush F (v := 30) dL_law_412 (by decide) ?_
        refine T_callSi F dL_law_414 kL_law_L_low ⟨rfl, rfl⟩ hk (lm_low (n := 30) (by omega)) rfl rfl rfl ?_
        refine T_iaddN F (a1 := 1) (c1 := (lowN (vy >>> ((3 : Int32) &&& 31)) 30)) (s1 := (lowN (vy >>> ((3 : Int32) &&& 31)) 30) + 1) dL_law_417 (by omega) ?_
        have hz := lowN_lt (vy >>> ((3 : Int32) &&& 31)) (n := 30) (by decide)
        exact K _ (Or.inr ⟨by decide, (lowN (vy >>> ((3 : Int32) &&& 31)) 30) + 1, rfl, fun z => by omega, fun z => by omega, fun z => by omega, fun z => by omega, fun z => absurd z (by decide)⟩)
      · refine T_iload F dL_law_395 rfl ?_
        refine T_iconst F (v := 3) dL_law_397 (by decide) ?_
        refine T_ishr F dL_law_398 ?_
        refine T_bipush F (v := 51) dL_law_399 (by decide) ?_
        refine T_callSi F dL_law_401 kL_law_L_low ⟨rfl, rfl⟩ hk (lm_low (n := 51) (by omega)) rfl rfl rfl ?_
        refine T_goto F 418 dL_law_404 (by decide) ?_
        have hz := lowN_lt (vy >>> ((3 : Int32) &&& 31)) (n := 51) (by decide)
        exact K _ (Or.inr ⟨by decide, (lowN (vy >>> ((3 : Int32) &&& 31)) 51), rfl, fun z => by omega, fun z => by omega, fun z => by omega, fun z => by omega, fun z => absurd z (by decide)⟩)
    · refine T_iload F dL_law_377 rfl ?_
      refine T_iconst F (v := 3) dL_law_379 (by decide) ?_
      refine T_ishr F dL_law_380 ?_
      refine T_bipush F (v := 10) dL_law_381 (by decide) ?_
      refine T_callSi F dL_law_383 kL_law_L_low ⟨rfl, rfl⟩ hk (lm_low (n := 10) (by omega)) rfl rfl rfl ?_
      refine T_goto F 418 dL_law_386 (by decide) ?_
      have hz := lowN_lt (vy >>> ((3 : Int32) &&& 31)) (n := 10) (by decide)
      exact K _ (Or.inr ⟨by decide, (lowN (vy >>> ((3 : Int32) &&& 31)) 10), rfl, fun z => by omega, fun z => by omega, fun z => by omega, fun z => by omega, fun z => absurd z (by decide)⟩)
  · refine T_iload F dL_law_276 rfl ?_
    refine T_if_neN F (a1 := 5) 292 dL_law_278 (by decide) (by omega) (fun _ => ?_) (fun c278 => (show False by omega).elim)
    refine T_iload F dL_law_292 rfl ?_
    refine T_iconst F (v := 3) dL_law_294 (by decide) ?_
    refine T_icmp_neN F (a1 := 5) (c1 := 3) 312 dL_law_295 (by decide) (by omega) (fun _ => ?_) (fun c295 => (show False by omega).elim)
    refine T_iload F dL_law_312 rfl ?_
    refine T_iconst F (v := 5) dL_law_314 (by decide) ?_
    refine T_icmp_neN F (a1 := 5) (c1 := 5) 329 dL_law_315 (by decide) (by omega) (fun c315 => (show False by omega).elim) (fun _ => ?_)
    refine T_iload F dL_law_318 rfl ?_
    refine T_iconst F (v := 3) dL_law_320 (by decide) ?_
    refine T_ishr F dL_law_321 ?_
    refine T_iconst F (v := 2) dL_law_322 (by decide) ?_
    refine T_callSi F dL_law_323 kL_law_L_low ⟨rfl, rfl⟩ hk (lm_low (n := 2) (by omega)) rfl rfl rfl ?_
    refine T_goto F 418 dL_law_326 (by decide) ?_
    have hz := lowN_lt (vy >>> ((3 : Int32) &&& 31)) (n := 2) (by decide)
    exact K _ (Or.inr ⟨by decide, (lowN (vy >>> ((3 : Int32) &&& 31)) 2), rfl, fun z => by omega, fun z => by omega, fun z => by omega, fun z => by omega, fun z => absurd z (by decide)⟩)
  · refine T_iload F dL_law_276 rfl ?_
    refine T_if_neN F (a1 := 6) 292 dL_law_278 (by decide) (by omega) (fun _ => ?_) (fun c278 => (show False by omega).elim)
    refine T_iload F dL_law_292 rfl ?_
    refine T_iconst F (v := 3) dL_law_294 (by decide) ?_
    refine T_icmp_neN F (a1 := 6) (c1 := 3) 312 dL_law_295 (by decide) (by omega) (fun _ => ?_) (fun c295 => (show False by omega).elim)
    refine T_iload F dL_law_312 rfl ?_
    refine T_iconst F (v := 5) dL_law_314 (by decide) ?_
    refine T_icmp_neN F (a1 := 6) (c1 := 5) 329 dL_law_315 (by decide) (by omega) (fun _ => ?_) (fun c315 => (show False by omega).elim)
    refine T_iload F dL_law_329 rfl ?_
    refine T_bipush F (v := 6) dL_law_331 (by decide) ?_
    refine T_icmp_neN F (a1 := 6) (c1 := 6) 351 dL_law_333 (by decide) (by omega) (fun c333 => (show False by omega).elim) (fun _ => ?_)
    refine T_bipush F (v := 10) dL_law_336 (by decide) ?_
    refine T_iload F dL_law_338 rfl ?_
    refine T_iconst F (v := 3) dL_law_340 (by decide) ?_
    refine T_ishr F dL_law_341 ?_
    refine T_bipush F (v := 81) dL_law_342 (by decide) ?_
    refine T_callSi F dL_law_344 kL_law_L_low ⟨rfl, rfl⟩ hk (lm_low (n := 81) (by omega)) rfl rfl rfl ?_
    refine T_iaddN F (a1 := 10) (c1 := (lowN (vy >>> ((3 : Int32) &&& 31)) 81)) (s1 := 10 + (lowN (vy >>> ((3 : Int32) &&& 31)) 81)) dL_law_347 (by omega) ?_
    refine T_goto F 418 dL_law_348 (by decide) ?_
    have hz := lowN_lt (vy >>> ((3 : Int32) &&& 31)) (n := 81) (by decide)
    exact K _ (Or.inr ⟨by decide, 10 + (lowN (vy >>> ((3 : Int32) &&& 31)) 81), rfl, fun z => by omega, fun z => by omega, fun z => by omega, fun z => by omega, fun z => absurd z (by decide)⟩)
  · refine T_iload F dL_law_276 rfl ?_
    refine T_if_neN F (a1 := 7) 292 dL_law_278 (by decide) (by omega) (fun _ => ?_) (fun c278 => (show False by omega).elim)
    refine T_iload F dL_law_292 rfl ?_
    refine T_iconst F (v := 3) dL_law_294 (by decide) ?_
    refine T_icmp_neN F (a1 := 7) (c1 := 3) 312 dL_law_295 (by decide) (by omega) (fun _ => ?_) (fun c295 => (show False by omega).elim)
    refine T_iload F dL_law_312 rfl ?_
    refine T_iconst F (v := 5) dL_law_314 (by decide) ?_
    refine T_icmp_neN F (a1 := 7) (c1 := 5) 329 dL_law_315 (by decide) (by omega) (fun _ => ?_) (fun c315 => (show False by omega).elim)
    refine T_iload F dL_law_329 rfl ?_
    refine T_bipush F (v := 6) dL_law_331 (by decide) ?_
    refine T_icmp_neN F (a1 := 7) (c1 := 6) 351 dL_law_333 (by decide) (by omega) (fun _ => ?_) (fun c333 => (show False by omega).elim)
    refine T_iload F dL_law_351 rfl ?_
    refine T_bipush F (v := 7) dL_law_353 (by decide) ?_
    refine T_icmp_neN F (a1 := 7) (c1 := 7) 372 dL_law_355 (by decide) (by omega) (fun c355 => (show False by omega).elim) (fun _ => ?_)
    refine T_iconst F (v := 5) dL_law_358 (by decide) ?_
    refine T_iload F dL_law_359 rfl ?_
    refine T_iconst F (v := 3) dL_law_361 (by decide) ?_
    refine T_ishr F dL_law_362 ?_
    refine T_bipush F (v := 36) dL_law_363 (by decide) ?_
    refine T_callSi F dL_law_365 kL_law_L_low ⟨rfl, rfl⟩ hk (lm_low (n := 36) (by omega)) rfl rfl rfl ?_
    refine T_iaddN F (a1 := 5) (c1 := (lowN (vy >>> ((3 : Int32) &&& 31)) 36)) (s1 := 5 + (lowN (vy >>> ((3 : Int32) &&& 31)) 36)) dL_law_368 (by omega) ?_
    refine T_goto F 418 dL_law_369 (by decide) ?_
    have hz := lowN_lt (vy >>> ((3 : Int32) &&& 31)) (n := 36) (by decide)
    exact K _ (Or.inr ⟨by decide, 5 + (lowN (vy >>> ((3 : Int32) &&& 31)) 36), rfl, fun z => by omega, fun z => by omega, fun z => by omega, fun z => by omega, fun z => absurd z (by decide)⟩)
  · obtain ⟨j0, rfl, hj61, -, -, -, -, hj8⟩ := (hPA.resolve_left (fun z => absurd z.1 (by decide))).2
    refine T_iload F dL_law_276 rfl ?_
    refine T_if_neN F (a1 := 8) 292 dL_law_278 (by decide) (by omega) (fun _ => ?_) (fun c278 => (show False by omega).elim)
    refine T_iload F dL_law_292 rfl ?_
    refine T_iconst F (v := 3) dL_law_294 (by decide) ?_
    refine T_icmp_neN F (a1 := 8) (c1 := 3) 312 dL_law_295 (by decide) (by omega) (fun _ => ?_) (fun c295 => (show False by omega).elim)
    refine T_iload F dL_law_312 rfl ?_
    refine T_iconst F (v := 5) dL_law_314 (by decide) ?_
    refine T_icmp_neN F (a1 := 8) (c1 := 5) 329 dL_law_315 (by decide) (by omega) (fun _ => ?_) (fun c315 => (show False by omega).elim)
    refine T_iload F dL_law_329 rfl ?_
    refine T_bipush F (v := 6) dL_law_331 (by decide) ?_
    refine T_icmp_neN F (a1 := 8) (c1 := 6) 351 dL_law_333 (by decide) (by omega) (fun _ => ?_) (fun c333 => (show False by omega).elim)
    refine T_iload F dL_law_351 rfl ?_
    refine T_bipush F (v := 7) dL_law_353 (by decide) ?_
    refine T_icmp_neN F (a1 := 8) (c1 := 7) 372 dL_law_355 (by decide) (by omega) (fun _ => ?_) (fun c355 => (show False by omega).elim)
    refine T_iload F dL_law_372 rfl ?_
    refine T_if_neN F (a1 := j0) 389 dL_law_374 (by decide) (by omega) (fun c374 => ?_) (fun c374 => ?_)
    · refine T_iload F dL_law_389 rfl ?_
      refine T_iconst F (v := 1) dL_law_391 (by decide) ?_
      refine T_icmp_neN F (a1 := j0) (c1 := 1) 407 dL_law_392 (by decide) (by omega) (fun c392 => ?_) (fun c392 => ?_)
      · refine T_iconst F (v := 1) dL_law_407 (by decide) ?_
        refine T_iload F dL_law_408 rfl ?_
        refine T_iconst F (v := 3) dL_law_410 (by decide) ?_
        refine T_ishr F dL_law_411 ?_
        refine T_bipush F (v := 30) dL_law_412 (by decide) ?_
        refine T_callSi F dL_law_414 kL_law_L_low ⟨rfl, rfl⟩ hk (lm_low (n := 30) (by omega)) rfl rfl rfl ?_
        refine T_iaddN F (a1 := 1) (c1 := (lowN (vy >>> ((3 : Int32) &&& 31)) 30)) (s1 := (lowN (vy >>> ((3 : Int32) &&& 31)) 30) + 1) dL_law_417 (by omega) ?_
        have hz := lowN_lt (vy >>> ((3 : Int32) &&& 31)) (n := 30) (by decide)
        exact K _ (Or.inr ⟨by decide, (lowN (vy >>> ((3 : Int32) &&& 31)) 30) + 1, rfl, fun z => by omega, fun z => by omega, fun z => by omega, fun z => by omega, fun z => ⟨j0, rfl, by have := hj8 rfl; omega⟩⟩)
      · refine T_iload F dL_law_395 rfl ?_
        refine T_iconst F (v := 3) dL_law_397 (by decide) ?_
        refine T_ishr F dL_law_398 ?_
        refine T_bipush F (v := 51) dL_law_399 (by decide) ?_
        refine T_callSi F dL_law_401 kL_law_L_low ⟨rfl, rfl⟩ hk (lm_low (n := 51) (by omega)) rfl rfl rfl ?_
        refine T_goto F 418 dL_law_404 (by decide) ?_
        have hz := lowN_lt (vy >>> ((3 : Int32) &&& 31)) (n := 51) (by decide)
        exact K _ (Or.inr ⟨by decide, (lowN (vy >>> ((3 : Int32) &&& 31)) 51), rfl, fun z => by omega, fun z => by omega, fun z => by omega, fun z => by omega, fun z => ⟨j0, rfl, by have := hj8 rfl; omega⟩⟩)
    · refine T_iload F dL_law_377 rfl ?_
      refine T_iconst F (v := 3) dL_law_379 (by decide) ?_
      refine T_ishr F dL_law_380 ?_
      refine T_bipush F (v := 10) dL_law_381 (by decide) ?_
      refine T_callSi F dL_law_383 kL_law_L_low ⟨rfl, rfl⟩ hk (lm_low (n := 10) (by omega)) rfl rfl rfl ?_
      refine T_goto F 418 dL_law_386 (by decide) ?_
      have hz := lowN_lt (vy >>> ((3 : Int32) &&& 31)) (n := 10) (by decide)
      exact K _ (Or.inr ⟨by decide, (lowN (vy >>> ((3 : Int32) &&& 31)) 10), rfl, fun z => by omega, fun z => by omega, fun z => by omega, fun z => by omega, fun z => ⟨j0, rfl, by have := hj8 rfl; omega⟩⟩)
theorem lw_e (C : LC p l s m args meth c D A ad0 a Ls xs) {w : mj_W} {k n i : Nat} {vx vy : Int32} {kd : Nat} {va vb : Int32} (hk : k ≤ 600104 ∧ n ≤ 7301314) (hkd : kd ≤ 8) (K : ∀ ve : Int32, PE kd ve → GT p l e s m args below meth c Q D A ad0 N ML_law 457 [some (.ref 4000), some (.ref 0), some (.ref 11), some (.ref 12), some (.ref 13), some (.ref 14), some (.ref 15), some (.ref 16), some (.ref 17), some (.int (nI (i))), some (.int vx), some (.int vy), some (.int (nI (kd))), some (.int va), some (.int vb), none, none, none, none, none] [.int ve] (w) k n) : GT p l e s m args below meth c Q D A ad0 N ML_law 420 [some (.ref 4000), some (.ref 0), some (.ref 11), some (.ref 12), some (.ref 13), some (.ref 14), some (.ref 15), some (.ref 16), some (.ref 17), some (.int (nI (i))), some (.int vx), some (.int vy), some (.int (nI (kd))), some (.int va), some (.int vb), none, none, none, none, none] [] (w) k n := by
  have F := C.1
  rcases (show kd = 0 ∨ kd = 1 ∨ kd = 2 ∨ kd = 3 ∨ kd = 4 ∨ kd = 5 ∨ kd = 6 ∨ kd = 7 ∨ kd = 8 by omega) with rfl | rfl | rfl | rfl | rfl | rfl | rfl | rfl | rfl
  · refine T_iload F dL_law_420 rfl ?_
    refine T_if_eqN F (a1 := 0) 431 dL_law_422 (by decide) (by omega) (fun _ => ?_) (fun c422 => (show False by omega).elim)
    refine T_iload F dL_law_431 rfl ?_
    refine T_bipush F (v := 10) dL_law_433 (by decide) ?_
    refine T_ishr F dL_law_435 ?_
    refine T_iconst F (v := 4) dL_law_436 (by decide) ?_
    refine T_callSi F dL_law_437 kL_law_L_low ⟨rfl, rfl⟩ hk (lm_low (n := 4) (by omega)) rfl rfl rfl ?_
    refine T_goto F 457 dL_law_440 (by decide) ?_
    have hz := lowN_lt (vy >>> ((10 : Int32) &&& 31)) (n := 4) (by decide)
    exact K _ ⟨(lowN (vy >>> ((10 : Int32) &&& 31)) 4), rfl, fun z => by omega, fun z => by omega⟩
  · refine T_iload F dL_law_420 rfl ?_
    refine T_if_eqN F (a1 := 1) 431 dL_law_422 (by decide) (by omega) (fun c422 => (show False by omega).elim) (fun _ => ?_)
    refine T_iload F dL_law_425 rfl ?_
    refine T_iconst F (v := 3) dL_law_427 (by decide) ?_
    refine T_icmp_neN F (a1 := 1) (c1 := 3) 443 dL_law_428 (by decide) (by omega) (fun _ => ?_) (fun c428 => (show False by omega).elim)
    refine T_bipush F (v := 50) dL_law_443 (by decide) ?_
    refine T_iload F dL_law_445 rfl ?_
    refine T_bipush F (v := 10) dL_law_447 (by decide) ?_
    refine T_ishr F dL_law_449 ?_
    refine T_sipush F (v := 851) dL_law_450 (by decide) ?_
    refine T_callSi F dL_law_453 kL_law_L_low ⟨rfl, rfl⟩ hk (lm_low (n := 851) (by omega)) rfl rfl rfl ?_
    refine T_iaddN F (a1 := 50) (c1 := (lowN (vy >>> ((10 : Int32) &&& 31)) 851)) (s1 := 50 + (lowN (vy >>> ((10 : Int32) &&& 31)) 851)) dL_law_456 (by omega) ?_
    have hz := lowN_lt (vy >>> ((10 : Int32) &&& 31)) (n := 851) (by decide)
    exact K _ ⟨50 + (lowN (vy >>> ((10 : Int32) &&& 31)) 851), rfl, fun z => by omega, fun z => by omega⟩
  · refine T_iload F dL_law_420 rfl ?_
    refine T_if_eqN F (a1 := 2) 431 dL_law_422 (by decide) (by omega) (fun c422 => (show False by omega).elim) (fun _ => ?_)
    refine T_iload F dL_law_425 rfl ?_
    refine T_iconst F (v := 3) dL_law_427 (by decide) ?_
    refine T_icmp_neN F (a1 := 2) (c1 := 3) 443 dL_law_428 (by decide) (by omega) (fun _ => ?_) (fun c428 => (show False by omega).elim)
    refine T_bipush F (v := 50) dL_law_443 (by decide) ?_
    refine T_iload F dL_law_445 rfl ?_
    refine T_bipush F (v := 10) dL_law_447 (by decide) ?_
    refine T_ishr F dL_law_449 ?_
    refine T_sipush F (v := 851) dL_law_450 (by decide) ?_
    refine T_callSi F dL_law_453 kL_law_L_low ⟨rfl, rfl⟩ hk (lm_low (n := 851) (by omega)) rfl rfl rfl ?_
    refine T_iaddN F (a1 := 50) (c1 := (lowN (vy >>> ((10 : Int32) &&& 31)) 851)) (s1 := 50 + (lowN (vy >>> ((10 : Int32) &&& 31)) 851)) dL_law_456 (by omega) ?_
    have hz := lowN_lt (vy >>> ((10 : Int32) &&& 31)) (n := 851) (by decide)
    exact K _ ⟨50 + (lowN (vy >>> ((10 : Int32) &&& 31)) 851), rfl, fun z => by omega, fun z => by omega⟩
  · refine T_iload F dL_law_420 rfl ?_
    refine T_if_eqN F (a1 := 3) 431 dL_law_422 (by decide) (by omega) (fun c422 => (show False by omega).elim) (fun _ => ?_)
    refine T_iload F dL_law_425 rfl ?_
    refine T_iconst F (v := 3) dL_law_427 (by decide) ?_
    refine T_icmp_neN F (a1 := 3) (c1 := 3) 443 dL_law_428 (by decide) (by omega) (fun c428 => (show False by omega).elim) (fun _ => ?_)
    refine T_iload F dL_law_431 rfl ?_
    refine T_bipush F (v := 10) dL_law_433 (by decide) ?_
    refine T_ishr F dL_law_435 ?_
    refine T_iconst F (v := 4) dL_law_436 (by decide) ?_
    refine T_callSi F dL_law_437 kL_law_L_low ⟨rfl, rfl⟩ hk (lm_low (n := 4) (by omega)) rfl rfl rfl ?_
    refine T_goto F 457 dL_law_440 (by decide) ?_
    have hz := lowN_lt (vy >>> ((10 : Int32) &&& 31)) (n := 4) (by decide)
    exact K _ ⟨(lowN (vy >>> ((10 : Int32) &&& 31)) 4), rfl, fun z => by omega, fun z => by omega⟩
  · refine T_iload F dL_law_420 rfl ?_
    refine T_if_eqN F (a1 := 4) 431 dL_law_422 (by decide) (by omega) (fun c422 => (show False by omega).elim) (fun _ => ?_)
    refine T_iload F dL_law_425 rfl ?_
    refine T_iconst F (v := 3) dL_law_427 (by decide) ?_
    refine T_icmp_neN F (a1 := 4) (c1 := 3) 443 dL_law_428 (by decide) (by omega) (fun _ => ?_) (fun c428 => (show False by omega).elim)
    refine T_bipush F (v := 50) dL_law_443 (by decide) ?_
    refine T_iload F dL_law_445 rfl ?_
    refine T_bipush F (v := 10) dL_law_447 (by decide) ?_
    refine T_ishr F dL_law_449 ?_
    refine T_sipush F (v := 851) dL_law_450 (by decide) ?_
    refine T_callSi F dL_law_453 kL_law_L_low ⟨rfl, rfl⟩ hk (lm_low (n := 851) (by omega)) rfl rfl rfl ?_
    refine T_iaddN F (a1 := 50) (c1 := (lowN (vy >>> ((10 : Int32) &&& 31)) 851)) (s1 := 50 + (lowN (vy >>> ((10 : Int32) &&& 31)) 851)) dL_law_456 (by omega) ?_
    have hz := lowN_lt (vy >>> ((10 : Int32) &&& 31)) (n := 851) (by decide)
    exact K _ ⟨50 + (lowN (vy >>> ((10 : Int32) &&& 31)) 851), rfl, fun z => by omega, fun z => by omega⟩
  · refine T_iload F dL_law_420 rfl ?_
    refine T_if_eqN F (a1 := 5) 431 dL_law_422 (by decide) (by omega) (fun c422 => (show False by omega).elim) (fun _ => ?_)
    refine T_iload F dL_law_425 rfl ?_
    refine T_iconst F (v := 3) dL_law_427 (by decide) ?_
    refine T_icmp_neN F (a1 := 5) (c1 := 3) 443 dL_law_428 (by decide) (by omega) (fun _ => ?_) (fun c428 => (show False by omega).elim)
    refine T_bipush F (v := 50) dL_law_443 (by decide) ?_
    refine T_iload F dL_law_445 rfl ?_
    refine T_bipush F (v := 10) dL_law_447 (by decide) ?_
    refine T_ishr F dL_law_449 ?_
    refine T_sipush F (v := 851) dL_law_450 (by decide) ?_
    refine T_callSi F dL_law_453 kL_law_L_low ⟨rfl, rfl⟩ hk (lm_low (n := 851) (by omega)) rfl rfl rfl ?_
    refine T_iaddN F (a1 := 50) (c1 := (lowN (vy >>> ((10 : Int32) &&& 31)) 851)) (s1 := 50 + (lowN (vy >>> ((10 : Int32) &&& 31)) 851)) dL_law_456 (by omega) ?_
    have hz := lowN_lt (vy >>> ((10 : Int32) &&& 31)) (n := 851) (by decide)
    exact K _ ⟨50 + (lowN (vy >>> ((10 : Int32) &&& 31)) 851), rfl, fun z => by omega, fun z => by omega⟩
  · refine T_iload F dL_law_420 rfl ?_
    refine T_if_eqN F (a1 := 6) 431 dL_law_422 (by decide) (by omega) (fun c422 => (show False by omega).elim) (fun _ => ?_)
    refine T_iload F dL_law_425 rfl ?_
    refine T_iconst F (v := 3) dL_law_427 (by decide) ?_
    refine T_icmp_neN F (a1 := 6) (c1 := 3) 443 dL_law_428 (by decide) (by omega) (fun _ => ?_) (fun c428 => (show False by omega).elim)
    refine T_bipush F (v := 50) dL_law_443 (by decide) ?_
    refine T_iload F dL_law_445 rfl ?_
    refine T_bipush F (v := 10) dL_law_447 (by decide) ?_
    refine T_ishr F dL_law_449 ?_
    refine T_sipush F (v := 851) dL_law_450 (by decide) ?_
    refine T_callSi F dL_law_453 kL_law_L_low ⟨rfl, rfl⟩ hk (lm_low (n := 851) (by omega)) rfl rfl rfl ?_
    refine T_iaddN F (a1 := 50) (c1 := (lowN (vy >>> ((10 : Int32) &&& 31)) 851)) (s1 := 50 + (lowN (vy >>> ((10 : Int32) &&& 31)) 851)) dL_law_456 (by omega) ?_
    have hz := lowN_lt (vy >>> ((10 : Int32) &&& 31)) (n := 851) (by decide)
    exact K _ ⟨50 + (lowN (vy >>> ((10 : Int32) &&& 31)) 851), rfl, fun z => by omega, fun z => by omega⟩
  · refine T_iload F dL_law_420 rfl ?_
    refine T_if_eqN F (a1 := 7) 431 dL_law_422 (by decide) (by omega) (fun c422 => (show False by omega).elim) (fun _ => ?_)
    refine T_iload F dL_law_425 rfl ?_
    refine T_iconst F (v := 3) dL_law_427 (by decide) ?_
    refine T_icmp_neN F (a1 := 7) (c1 := 3) 443 dL_law_428 (by decide) (by omega) (fun _ => ?_) (fun c428 => (show False by omega).elim)
    refine T_bipush F (v := 50) dL_law_443 (by decide) ?_
    refine T_iload F dL_law_445 rfl ?_
    refine T_bipush F (v := 10) dL_law_447 (by decide) ?_
    refine T_ishr F dL_law_449 ?_
    refine T_sipush F (v := 851) dL_law_450 (by decide) ?_
    refine T_callSi F dL_law_453 kL_law_L_low ⟨rfl, rfl⟩ hk (lm_low (n := 851) (by omega)) rfl rfl rfl ?_
    refine T_iaddN F (a1 := 50) (c1 := (lowN (vy >>> ((10 : Int32) &&& 31)) 851)) (s1 := 50 + (lowN (vy >>> ((10 : Int32) &&& 31)) 851)) dL_law_456 (by omega) ?_
    have hz := lowN_lt (vy >>> ((10 : Int32) &&& 31)) (n := 851) (by decide)
    exact K _ ⟨50 + (lowN (vy >>> ((10 : Int32) &&& 31)) 851), rfl, fun z => by omega, fun z => by omega⟩
  · refine T_iload F dL_law_420 rfl ?_
    refine T_if_eqN F (a1 := 8) 431 dL_law_422 (by decide) (by omega) (fun c422 => (show False by omega).elim) (fun _ => ?_)
    refine T_iload F dL_law_425 rfl ?_
    refine T_iconst F (v := 3) dL_law_427 (by decide) ?_
    refine T_icmp_neN F (a1 := 8) (c1 := 3) 443 dL_law_428 (by decide) (by omega) (fun _ => ?_) (fun c428 => (show False by omega).elim)
    refine T_bipush F (v := 50) dL_law_443 (by decide) ?_
    refine T_iload F dL_law_445 rfl ?_
    refine T_bipush F (v := 10) dL_law_447 (by decide) ?_
    refine T_ishr F dL_law_449 ?_
    refine T_sipush F (v := 851) dL_law_450 (by decide) ?_
    refine T_callSi F dL_law_453 kL_law_L_low ⟨rfl, rfl⟩ hk (lm_low (n := 851) (by omega)) rfl rfl rfl ?_
    refine T_iaddN F (a1 := 50) (c1 := (lowN (vy >>> ((10 : Int32) &&& 31)) 851)) (s1 := 50 + (lowN (vy >>> ((10 : Int32) &&& 31)) 851)) dL_law_456 (by omega) ?_
    have hz := lowN_lt (vy >>> ((10 : Int32) &&& 31)) (n := 851) (by decide)
    exact K _ ⟨50 + (lowN (vy >>> ((10 : Int32) &&& 31)) 851), rfl, fun z => by omega, fun z => by omega⟩
theorem lw_z (C : LC p l s m args meth c D A ad0 a Ls xs) {w : mj_W} {k n i : Nat} {vx vy : Int32} {kd : Nat} {va vb ve : Int32} (hk : k ≤ 600104 ∧ n ≤ 7301314) (K : ∀ j : Nat, 1 ≤ j ∧ j ≤ 12 → GT p l e s m args below meth c Q D A ad0 N ML_law 487 [some (.ref 4000), some (.ref 0), some (.ref 11), some (.ref 12), some (.ref 13), some (.ref 14), some (.ref 15), some (.ref 16), some (.ref 17), some (.int (nI (i))), some (.int vx), some (.int vy), some (.int (nI (kd))), some (.int va), some (.int vb), some (.int ve), none, none, none, none] [.int (nI (j))] (w) k n) : GT p l e s m args below meth c Q D A ad0 N ML_law 459 [some (.ref 4000), some (.ref 0), some (.ref 11), some (.ref 12), some (.ref 13), some (.ref 14), some (.ref 15), some (.ref 16), some (.ref 17), some (.int (nI (i))), some (.int vx), some (.int vy), some (.int (nI (kd))), some (.int va), some (.int vb), some (.int ve), none, none, none, none] [] (w) k n := by
  have F := C.1
  refine T_iconst F (v := 1) dL_law_459 (by decide) ?_
  refine T_iload F dL_law_460 rfl ?_
  refine T_bipush F (v := 12) dL_law_462 (by decide) ?_
  refine T_ishr F dL_law_464 ?_
  refine T_iload F dL_law_465 rfl ?_
  refine T_bipush F (v := 20) dL_law_467 (by decide) ?_
  refine T_ishr F dL_law_469 ?_
  refine T_iconst F (v := 4) dL_law_470 (by decide) ?_
  refine T_callSi F dL_law_471 kL_law_L_low ⟨rfl, rfl⟩ hk (lm_low (n := 4) (by omega)) rfl rfl rfl ?_
  have hz0 := lowN_lt (vy >>> ((20 : Int32) &&& 31)) (n := 4) (by decide)
  refine T_if_neN F (a1 := (lowN (vy >>> ((20 : Int32) &&& 31)) 4)) 482 dL_law_474 (by decide) (by omega) (fun c474 => ?_) (fun c474 => ?_)
  · refine T_iconst F (v := 3) dL_law_482 (by decide) ?_
    refine T_callSi F dL_law_483 kL_law_L_low ⟨rfl, rfl⟩ hk (lm_low (n := 3) (by omega)) rfl rfl rfl ?_
    refine T_iaddN F (a1 := 1) (c1 := (lowN (vy >>> ((12 : Int32) &&& 31)) 3)) (s1 := (lowN (vy >>> ((12 : Int32) &&& 31)) 3) + 1) dL_law_486 (by omega) ?_
    have hz := lowN_lt (vy >>> ((12 : Int32) &&& 31)) (n := 3) (by decide)
    exact K ((lowN (vy >>> ((12 : Int32) &&& 31)) 3) + 1) (by omega)
  · refine T_bipush F (v := 12) dL_law_477 (by decide) ?_
    refine T_goto F 483 dL_law_479 (by decide) ?_
    refine T_callSi F dL_law_483 kL_law_L_low ⟨rfl, rfl⟩ hk (lm_low (n := 12) (by omega)) rfl rfl rfl ?_
    refine T_iaddN F (a1 := 1) (c1 := (lowN (vy >>> ((12 : Int32) &&& 31)) 12)) (s1 := (lowN (vy >>> ((12 : Int32) &&& 31)) 12) + 1) dL_law_486 (by omega) ?_
    have hz := lowN_lt (vy >>> ((12 : Int32) &&& 31)) (n := 12) (by decide)
    exact K ((lowN (vy >>> ((12 : Int32) &&& 31)) 12) + 1) (by omega)
end LL

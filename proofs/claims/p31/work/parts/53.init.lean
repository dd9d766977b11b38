/-! MAKINGS: the constructors -/
def rz (l : List (Nat × Int32)) : mj_S := fun j => (l.lookup j).getD 0
theorem rz_upd (l : List (Nat × Int32)) (j : Nat) (v : Int32) : upd (rz l) j v = rz ((j, v) :: l) := by
  funext k
  by_cases h : k = j
  · subst h
    rw [pk_us]
    simp [rz]
  · rw [pk_un h]
    have hb : (k == j) = false := by simpa using h
    simp [rz, List.lookup_cons, hb]
section IA
variable {l : Launch} {lp ap : Nat} {Ω : mj_S → mj_W}
theorem r_setToWork (hΩ : LV lp ap Ω) {r : mj_S} {c : Nat} {h b : Int32} (hc : c < 6) : MC l yX0_setToWork wsX0_setToWork rmX0_setToWork false [.ref lp, .int (nI (c)), .int h, .int b] (Ω r) none (Ω (upd (upd r (143 + c) h) (149 + c) b)) := by
  refine mj_MC (cc := cX0_setToWork) (nl := 4) (ret := none) (plainFor_of_name (by decide)) rfl (rfl) (Nat.le_of_ble_eq_true rfl) ?_
  show GG l cX0_setToWork MX0_setToWork false (.inl (none, Ω (upd (upd r (143 + c) h) (149 + c) b))) 0 [some (.ref lp), some (.int (nI (c))), some (.int h), some (.int b)] [] (Ω r) 0 0
  refine G_aload_n dX0_setToWork_0 rfl ?_
  refine G_sipush (v := 143) dX0_setToWork_1 (by decide) ?_
  refine G_iload_n dX0_setToWork_4 rfl ?_
  refine G_iaddN (a := 143) (c := c) (s := 143 + c) dX0_setToWork_5 (by omega) ?_
  refine G_iload_n dX0_setToWork_6 rfl ?_
  refine G_callVv dX0_setToWork_7 kX0_setToWork_X0_put ⟨rfl, rfl⟩ ⟨Nat.zero_le _, Nat.zero_le _⟩ (c_put hΩ (r := r) (j := 143 + c) (v := h) (by omega)) rfl rfl ((hΩ _).1) rfl rfl ?_
  refine G_aload_n dX0_setToWork_10 rfl ?_
  refine G_sipush (v := 149) dX0_setToWork_11 (by decide) ?_
  refine G_iload_n dX0_setToWork_14 rfl ?_
  refine G_iaddN (a := 149) (c := c) (s := 149 + c) dX0_setToWork_15 (by omega) ?_
  refine G_iload_n dX0_setToWork_16 rfl ?_
  refine G_callVv dX0_setToWork_17 kX0_setToWork_X0_put ⟨rfl, rfl⟩ ⟨Nat.zero_le _, Nat.zero_le _⟩ (c_put hΩ (r := (upd r (143 + c) h)) (j := 149 + c) (v := b) (by omega)) rfl rfl ((hΩ _).1) rfl rfl ?_
  exact G_vret dX0_setToWork_20 ⟨Nat.zero_le _, Nat.zero_le _⟩ (rfl)
theorem r_letRest (hΩ : LV lp ap Ω) {r : mj_S} {c : Nat} (hc : c < 6) : MC l yX0_letRest wsX0_letRest rmX0_letRest false [.ref lp, .int (nI (c))] (Ω r) none (Ω (upd (upd r (143 + c) (-1)) (149 + c) (-1))) := by
  refine mj_MC (cc := cX0_letRest) (nl := 2) (ret := none) (plainFor_of_name (by decide)) rfl (rfl) (Nat.le_of_ble_eq_true rfl) ?_
  show GG l cX0_letRest MX0_letRest false (.inl (none, Ω (upd (upd r (143 + c) (-1)) (149 + c) (-1)))) 0 [some (.ref lp), some (.int (nI (c)))] [] (Ω r) 0 0
  refine G_aload_n dX0_letRest_0 rfl ?_
  refine G_iload_n dX0_letRest_1 rfl ?_
  refine G_iconst (v := (-1)) dX0_letRest_2 (by decide) ?_
  refine G_iconst (v := (-1)) dX0_letRest_3 (by decide) ?_
  refine G_callVv dX0_letRest_4 kX0_letRest_X0_setToWork ⟨rfl, rfl⟩ ⟨Nat.zero_le _, Nat.zero_le _⟩ (r_setToWork hΩ (r := r) (c := c) (by omega)) rfl rfl ((hΩ _).1) rfl rfl ?_
  exact G_vret dX0_letRest_7 ⟨Nat.zero_le _, Nat.zero_le _⟩ (rfl)
theorem z_put (hΩ : LV lp ap Ω) {t : List (Nat × Int32)} {j : Nat} {v : Int32} (hj : j < 161) : MC l yX0_put wsX0_put rmX0_put false [.ref lp, .int (nI j), .int v] (Ω (rz t)) none (Ω (rz ((j, v) :: t))) := by
  rw [← rz_upd]
  exact c_put hΩ hj
theorem z_add (hΩ : LV lp ap Ω) {t : List (Nat × Int32)} {j : Nat} {v x : Int32} (hj : j < 161) (hx : rz t j + v = x) : MC l yX0_add wsX0_add rmX0_add false [.ref lp, .int (nI j), .int v] (Ω (rz t)) none (Ω (rz ((j, x) :: t))) := by
  rw [← rz_upd, ← hx]
  exact c_add hΩ hj
theorem z_rest (hΩ : LV lp ap Ω) {t : List (Nat × Int32)} {c : Nat} (hc : c < 6) : MC l yX0_letRest wsX0_letRest rmX0_letRest false [.ref lp, .int (nI c)] (Ω (rz t)) none (Ω (rz ((149 + c, -1) :: (143 + c, -1) :: t))) := by
  rw [← rz_upd, ← rz_upd]
  exact r_letRest hΩ hc
end IA
def s_f0 : mj_S := rz [(150, -1), (144, -1), (138, 20), (149, -1), (143, -1), (137, 18), (148, -1), (142, -1), (136, 16), (147, -1), (141, -1), (135, 14), (146, -1), (140, -1), (134, 12), (145, -1), (139, -1), (133, 10), (68, 0), (67, 3), (66, 3), (65, 3), (64, 3), (63, 0), (62, 3), (61, 3), (60, 3), (59, 3), (58, 0), (57, 3), (56, 3), (55, 3), (54, 3), (53, 0), (52, 40), (48, 2000), (51, 40), (47, 2000), (50, 40), (46, 2000), (49, 40), (45, 2000), (14, 300), (13, 300), (12, 300), (11, 300), (10, 300), (9, 1), (4, 8), (3, 10), (2, 3)]
theorem lvΩ {w : mj_W} {lp : Nat} (hlp : lp < w.length) : LV lp w.length (fun r => (w ++ [.inl (.int, (161, .inl r))] : mj_W).set lp (.inr (0, [.ref w.length]))) := by
  intro f
  refine ⟨?_, ?_, fun g => ?_⟩
  · rw [List.getElem?_set, if_pos rfl, if_pos (by simp; omega)]
  · rw [List.getElem?_set, if_neg (by omega), List.getElem?_append_right (Nat.le_refl _), Nat.sub_self]
    rfl
  · rw [List.set_comm _ _ (by omega), List.set_append_right _ _ (Nat.le_refl _), Nat.sub_self]
    rfl
theorem mj_lob_lt {n k : Nat} (h : k < n) : mj_lob n (.ref k) = true := by simp [mj_lob, h]
abbrev rmI0 : Room := { frames := 3, cells := 1, slots := 161, locals := 66 }
abbrev MI0 : mj_M := (RX0, 3, wsX0_init, rmI0, true, none)
abbrev rmI1 : Room := { frames := 1, cells := 1, slots := 966, locals := 21 }
abbrev MI1 : mj_M := (RX1, 2, wsX1_init, rmI1, true, none)
abbrev rmI2 : Room := { frames := 1, cells := 1, slots := 60, locals := 21 }
abbrev MI2 : mj_M := (RX2, 1, wsX2_init, rmI2, true, none)
abbrev rmI3 : Room := { frames := 4, cells := 10, slots := 2330, locals := 88 }
abbrev exT : List Cond := [Cond.methodLinkNest RX3 33 yX2_init RX3]
abbrev MI3 : mj_M := (RX3, 1, wsX3_init ++ exT, rmI3, true, none)
abbrev rmI4 : Room := { frames := 1, cells := 5, slots := 1473, locals := 21 }
theorem hoI0 : Cond.methodLink MI0.1 5 Lib.objectInit ∈ MI0.2.2.1 ∧ Cond.instanceMethod Lib.objectInit ∈ MI0.2.2.1 ∧ Cond.code Lib.objectInit ⟨#[0xb1]⟩ 1 none ∈ MI0.2.2.1 := by decide +kernel
theorem hoI1 : Cond.methodLink MI1.1 3 Lib.objectInit ∈ MI1.2.2.1 ∧ Cond.instanceMethod Lib.objectInit ∈ MI1.2.2.1 ∧ Cond.code Lib.objectInit ⟨#[0xb1]⟩ 1 none ∈ MI1.2.2.1 := by decide +kernel
theorem hoI2 : Cond.methodLink MI2.1 3 Lib.objectInit ∈ MI2.2.2.1 ∧ Cond.instanceMethod Lib.objectInit ∈ MI2.2.2.1 ∧ Cond.code Lib.objectInit ⟨#[0xb1]⟩ 1 none ∈ MI2.2.2.1 := by decide +kernel
theorem hoI3 : Cond.methodLink MI3.1 3 Lib.objectInit ∈ MI3.2.2.1 ∧ Cond.instanceMethod Lib.objectInit ∈ MI3.2.2.1 ∧ Cond.code Lib.objectInit ⟨#[0xb1]⟩ 1 none ∈ MI3.2.2.1 := by decide +kernel
theorem haI0 : Cond.arrayClass (newarray.typeOf .int) ∈ MI0.2.2.1 := by decide +kernel
theorem haI1 : Cond.arrayClass (newarray.typeOf .int) ∈ MI1.2.2.1 := by decide +kernel
theorem haI2 : Cond.arrayClass (newarray.typeOf .char) ∈ MI2.2.2.1 := by decide +kernel
theorem pI0_11 : mj_flp MI0 11 0 0 (.array .int) := ⟨_, _, _, tyX0, rfl, by decide +kernel, by decide, by decide +kernel, tyX0_ok, nmX0, by decide +kernel, by decide +kernel⟩
theorem pI1_18 : mj_flp MI1 18 1 1 .int := ⟨_, _, _, tyX1, rfl, by decide +kernel, by decide, by decide +kernel, tyX1_ok, nmX1, by decide +kernel, by decide +kernel⟩
theorem pI1_26 : mj_flp MI1 26 1 0 (.array .int) := ⟨_, _, _, tyX1, rfl, by decide +kernel, by decide, by decide +kernel, tyX1_ok, nmX1, by decide +kernel, by decide +kernel⟩
theorem fI1_18 : mj_fl MI1 18 1 1 := ⟨_, _, _, rfl, by decide +kernel, by decide, by decide +kernel⟩
theorem pI2_9 : mj_flp MI2 9 2 0 (.array .char) := ⟨_, _, _, tyX2, rfl, by decide +kernel, by decide, by decide +kernel, tyX2_ok, nmX2, by decide +kernel, by decide +kernel⟩
theorem pI3_12 : mj_flp MI3 12 3 0 (.object "PeatHearths$Land") := ⟨_, _, _, tyX3, rfl, by decide +kernel, by decide, by decide +kernel, tyX3_ok, nmX3, by decide +kernel, by decide +kernel⟩
theorem pI3_16 : mj_flp MI3 16 3 1 (.object "PeatHearths$Land") := ⟨_, _, _, tyX3, rfl, by decide +kernel, by decide, by decide +kernel, tyX3_ok, nmX3, by decide +kernel, by decide +kernel⟩
theorem pI3_24 : mj_flp MI3 24 3 2 (.object "PeatHearths$Shelf") := ⟨_, _, _, tyX3, rfl, by decide +kernel, by decide, by decide +kernel, tyX3_ok, nmX3, by decide +kernel, by decide +kernel⟩
theorem pI3_28 : mj_flp MI3 28 3 3 (.object "PeatHearths$Shelf") := ⟨_, _, _, tyX3, rfl, by decide +kernel, by decide, by decide +kernel, tyX3_ok, nmX3, by decide +kernel, by decide +kernel⟩
theorem pI3_34 : mj_flp MI3 34 3 4 (.object "PeatHearths$Text") := ⟨_, _, _, tyX3, rfl, by decide +kernel, by decide, by decide +kernel, tyX3_ok, nmX3, by decide +kernel, by decide +kernel⟩
theorem kI1_min : Cond.methodLink MI1.1 9 Lib.Math.min.name ∈ MI1.2.2.1 ∧ Cond.static Lib.Math.min.name ∈ MI1.2.2.1 ∧ Cond.initialized "java/lang/Math" ∈ MI1.2.2.1 ∧ Cond.code Lib.Math.min.name Lib.Math.min.code 2 (some .int) ∈ MI1.2.2.1 := by decide +kernel
theorem kI1_max : Cond.methodLink MI1.1 15 Lib.Math.max.name ∈ MI1.2.2.1 ∧ Cond.static Lib.Math.max.name ∈ MI1.2.2.1 ∧ Cond.initialized "java/lang/Math" ∈ MI1.2.2.1 ∧ Cond.code Lib.Math.max.name Lib.Math.max.code 2 (some .int) ∈ MI1.2.2.1 := by decide +kernel
theorem kI3_X0 : mj_cwI MI3 11 yX0_init wsX0_init rmI0 0 := ⟨_, _, _, fun w h => ⟨List.mem_append_left _ (gX3_init_X0_init w h).1, (gX3_init_X0_init w h).2⟩, rfl, by decide +kernel, rfl, by decide +kernel, by decide⟩
theorem kI3_X1 : mj_cwI MI3 21 yX1_init wsX1_init rmI1 1 := ⟨_, _, _, fun w h => ⟨List.mem_append_left _ (gX3_init_X1_init w h).1, (gX3_init_X1_init w h).2⟩, rfl, by decide +kernel, rfl, by decide +kernel, by decide⟩
theorem kI3_X2 : mj_cwN MI3 33 yX2_init RX3 wsX2_init rmI2 0 := ⟨_, _, _, fun w h => ⟨List.mem_append_left _ (gX3_init_X2_init_n33 w h).1, (gX3_init_X2_init_n33 w h).2⟩, rfl, by decide +kernel, rfl, by decide +kernel, by decide⟩
theorem nI3_9 : Cond.classLink MI3.1 9 RX0 ∈ MI3.2.2.1 ∧ Cond.instantiable RX0 1 ∈ MI3.2.2.1 ∧ Cond.initialized RX0 ∈ MI3.2.2.1 := by decide +kernel
theorem nI3_19 : Cond.classLink MI3.1 19 RX1 ∈ MI3.2.2.1 ∧ Cond.instantiable RX1 4 ∈ MI3.2.2.1 ∧ Cond.initialized RX1 ∈ MI3.2.2.1 := by decide +kernel
theorem nI3_31 : Cond.classLink MI3.1 31 RX2 ∈ MI3.2.2.1 ∧ Cond.instantiable RX2 2 ∈ MI3.2.2.1 ∧ Cond.initialized RX2 ∈ MI3.2.2.1 := by decide +kernel
theorem uI3_0 : ∀ x ∈ u_ws RX0 TX0 1, x ∈ MI3.2.2.1 := by decide +kernel
theorem uI3_1 : ∀ x ∈ u_ws RX1 TX1 4, x ∈ MI3.2.2.1 := by decide +kernel
theorem uI3_2 : ∀ x ∈ u_ws RX2 TX2 2, x ∈ MI3.2.2.1 := by decide +kernel
theorem bornX0 : ∀ j, j < 1 → defaultValue (tyX0 j) = vp_V [.null] j := fun j hj => by rcases (show j = 0 by omega) with rfl <;> rfl
theorem bornX1 : ∀ j, j < 4 → defaultValue (tyX1 j) = vp_V [.null, .int 0, .int 0, .int 0] j := fun j hj => by rcases (show j = 0 ∨ j = 1 ∨ j = 2 ∨ j = 3 by omega) with rfl | rfl | rfl | rfl <;> rfl
theorem bornX2 : ∀ j, j < 2 → defaultValue (tyX2 j) = vp_V [.null, .int 0] j := fun j hj => by rcases (show j = 0 ∨ j = 1 by omega) with rfl | rfl <;> rfl
section IC
variable {l : Launch} {cc : ByteArray} {M : mj_M} {X : mj_R} {pc : Nat} {L : mj_L} {st : List Value} {w w' : mj_W} {k n idx : Nat}
theorem G_newK (K : Nat) {ci N1 : Nat} {C : String} {T : u_T} {fs : List Value} {ty : Nat → FieldType} (hd : decode cc pc = .ok (.new idx, 3)) (hcl : vwCl[ci]? = some (C, T, N1)) (hin : ∀ x ∈ u_ws C T N1, x ∈ M.2.2.1) (hty : ∀ k, k < N1 → parseFieldDescriptor (T k).2.2.1 = some (ty k)) (hws : Cond.classLink M.1 idx C ∈ M.2.2.1 ∧ Cond.instantiable C N1 ∈ M.2.2.1 ∧ Cond.initialized C ∈ M.2.2.1) (hfs : ∀ j, j < N1 → defaultValue (ty j) = vp_V fs j) (href : fs.all mj_nr = true) (hK : w.length = K) (hw : mj_wfb K w = true) (hl4 : Nat.blt K 4000 = true) (hlo : mj_losb K L st = true) (hk : k + 1 ≤ M.2.2.2.1.cells ∧ n + N1 ≤ M.2.2.2.1.slots) (hw' : w ++ [.inr (ci, fs)] = w') (kk : GG l cc M true X (pc + 3) L (.ref K :: st) w' (k + 1) (n + N1)) : GG l cc M true X pc L st w k n := by
  subst hK; subst hw'
  exact G_new hd hcl hin hty hws hfs href hw (Nat.le_of_ble_eq_true hl4) hlo hk kk
theorem G_newaK (K : Nat) {atype : ArrayType} {ty : FieldType} {x : Int32} {N1 : Nat} {a0 : vp_A} (hd : decode cc pc = .ok (.newarray atype, 2)) (hty : newarray.typeOf atype = ty) (harr : Cond.arrayClass (newarray.typeOf atype) ∈ M.2.2.1) (ha0 : ∀ cA : ClassId, vp_cell cA a0 = arrV cA N1 (fun _ => defaultValue ty)) (hx : ¬ x < 0 ∧ x.toNatClampNeg = N1) (hby : Nat.ble (N1 * componentBytes ty) 536870912 = true) (hK : w.length = K) (hw : mj_wfb K w = true) (hl4 : K < 4000) (hlo : mj_losb K L st = true) (hk : k + 1 ≤ M.2.2.2.1.cells ∧ n + N1 ≤ M.2.2.2.1.slots) (hw' : w ++ [.inl (ty, a0)] = w') (kk : GG l cc M true X (pc + 2) L (.ref K :: st) w' (k + 1) (n + N1)) : GG l cc M true X pc L (.int x :: st) w k n := by
  subst hK; subst hw'
  exact G_newa hd hty harr ha0 hx hby hw hl4 hlo hk kk
end IC
section ID
variable {l : Launch}
def s_z0 : mj_S := rz [(149 + 5, -1), (143 + 5, -1), (142, 20), (149 + 4, -1), (143 + 4, -1), (141, 18), (149 + 3, -1), (143 + 3, -1), (140, 16), (149 + 2, -1), (143 + 2, -1), (139, 14), (149 + 1, -1), (143 + 1, -1), (138, 12), (149 + 0, -1), (143 + 0, -1), (137, 10), (56, 3), (68, 3), (56, 6), (64, 3), (56, 9), (60, 3), (56, 12), (52, 40), (48, 2000), (55, 3), (71, 3), (55, 6), (63, 3), (55, 9), (59, 3), (55, 12), (51, 40), (47, 2000), (54, 3), (70, 3), (54, 6), (66, 3), (54, 9), (58, 3), (54, 12), (50, 40), (46, 2000), (53, 3), (69, 3), (53, 6), (65, 3), (53, 9), (61, 3), (53, 12), (49, 40), (45, 2000), (9, 1), (14, 300), (13, 300), (12, 300), (11, 300), (10, 300), (4, 8), (3, 10), (2, 3)]
theorem s_z0_row : ∀ j, j < 161 → s_z0 j = row (s_com s_f0) s_f0 j := by decide +kernel
theorem c_landInit {lp : Nat} {w : mj_W} (hw : mj_wfb w.length w = true) (h4 : w.length < 4000) (hlp : w[lp]? = some (.inr (0, [.null]))) : MC l yX0_init wsX0_init rmI0 true [.ref lp] w none ((w ++ [.inl (.int, (161, .inl (row (s_com s_f0) s_f0)))] : mj_W).set lp (.inr (0, [.ref w.length]))) := by
  have hl0 : lp < w.length := (List.getElem?_eq_some_iff.mp hlp).1
  obtain ⟨Ω, eΩ⟩ : ∃ Ω : mj_S → mj_W, Ω = fun r => (w ++ [.inl (.int, (161, .inl r))] : mj_W).set lp (.inr (0, [.ref w.length])) := ⟨_, rfl⟩
  have hΩ : LV lp w.length Ω := by rw [eΩ]; exact lvΩ hl0
  have key : GG l cX0_init MI0 true (.inl (none, Ω (row (s_com s_f0) s_f0))) 0 [some (.ref lp), none, none] [] w 0 0 := by
    refine G_aload_n dX0_init_0 rfl ?_
    refine G_objInit dX0_init_1 hoI0 (by decide) rfl ?_
    refine G_aload_n dX0_init_4 rfl ?_
    refine G_sipush (v := 161) dX0_init_5 (by decide) ?_
    refine G_newa (ty := .int) (a0 := (161, .inl (fun _ => 0))) dX0_init_8 rfl haI0 (fun _ => rfl) (by decide +kernel) rfl hw h4 (by simp [mj_losb, mj_lob, hl0]) (by decide) ?_
    refine G_putf dX0_init_10 pI0_11 (fs := [.null]) (by rw [List.getElem?_append_left hl0]; exact hlp) (fun _ => ⟨rfl, rfl⟩) (by simp) (w' := Ω (rz [])) (by rw [eΩ]; rfl) ?_
    refine G_aload_n dX0_init_13 rfl ?_
    refine G_iconst (v := 2) dX0_init_14 (by decide) ?_
    refine G_iconst (v := 3) dX0_init_15 (by decide) ?_
    refine G_callVv dX0_init_16 kX0_init_X0_put ⟨rfl, rfl⟩ (by decide) (z_put hΩ (j := 2) (v := 3) (by omega)) rfl rfl ((hΩ _).1) rfl rfl ?_
    refine G_aload_n dX0_init_19 rfl ?_
    refine G_iconst (v := 3) dX0_init_20 (by decide) ?_
    refine G_bipush (v := 10) dX0_init_21 (by decide) ?_
    refine G_callVv dX0_init_23 kX0_init_X0_put ⟨rfl, rfl⟩ (by decide) (z_put hΩ (j := 3) (v := 10) (by omega)) rfl rfl ((hΩ _).1) rfl rfl ?_
    refine G_aload_n dX0_init_26 rfl ?_
    refine G_iconst (v := 4) dX0_init_27 (by decide) ?_
    refine G_bipush (v := 8) dX0_init_28 (by decide) ?_
    refine G_callVv dX0_init_30 kX0_init_X0_put ⟨rfl, rfl⟩ (by decide) (z_put hΩ (j := 4) (v := 8) (by omega)) rfl rfl ((hΩ _).1) rfl rfl ?_
    refine G_iconst (v := 0) dX0_init_33 (by decide) ?_
    refine G_istore_n dX0_init_34 rfl (L' := [some (.ref lp), some (.int 0), none]) rfl ?_
    refine G_iload_n dX0_init_35 rfl ?_
    refine G_iconst (v := 5) dX0_init_36 (by decide) ?_
    refine G_icmp_geN (a := 0) (c := 5) 57 dX0_init_37 (by decide) (by omega) (fun c37 => (show False by omega).elim) (fun _ => ?_)
    refine G_aload_n dX0_init_40 rfl ?_
    refine G_bipush (v := 10) dX0_init_41 (by decide) ?_
    refine G_iload_n dX0_init_43 rfl ?_
    refine G_iaddN (a := 10) (c := 0) (s := 10) dX0_init_44 (by omega) ?_
    refine G_sipush (v := 300) dX0_init_45 (by decide) ?_
    refine G_callVv dX0_init_48 kX0_init_X0_put ⟨rfl, rfl⟩ (by decide) (z_put hΩ (j := 10) (v := 300) (by omega)) rfl rfl ((hΩ _).1) rfl rfl ?_
    refine G_iincN (a := 0) (s := 1) dX0_init_51 rfl (by omega) (L' := [some (.ref lp), some (.int 1), none]) rfl ?_
    refine G_goto 35 dX0_init_54 (by decide) ?_
    refine G_iload_n dX0_init_35 rfl ?_
    refine G_iconst (v := 5) dX0_init_36 (by decide) ?_
    refine G_icmp_geN (a := 1) (c := 5) 57 dX0_init_37 (by decide) (by omega) (fun c37 => (show False by omega).elim) (fun _ => ?_)
    refine G_aload_n dX0_init_40 rfl ?_
    refine G_bipush (v := 10) dX0_init_41 (by decide) ?_
    refine G_iload_n dX0_init_43 rfl ?_
    refine G_iaddN (a := 10) (c := 1) (s := 11) dX0_init_44 (by omega) ?_
    refine G_sipush (v := 300) dX0_init_45 (by decide) ?_
    refine G_callVv dX0_init_48 kX0_init_X0_put ⟨rfl, rfl⟩ (by decide) (z_put hΩ (j := 11) (v := 300) (by omega)) rfl rfl ((hΩ _).1) rfl rfl ?_
    refine G_iincN (a := 1) (s := 2) dX0_init_51 rfl (by omega) (L' := [some (.ref lp), some (.int 2), none]) rfl ?_
    refine G_goto 35 dX0_init_54 (by decide) ?_
    refine G_iload_n dX0_init_35 rfl ?_
    refine G_iconst (v := 5) dX0_init_36 (by decide) ?_
    refine G_icmp_geN (a := 2) (c := 5) 57 dX0_init_37 (by decide) (by omega) (fun c37 => (show False by omega).elim) (fun _ => ?_)
    refine G_aload_n dX0_init_40 rfl ?_
    refine G_bipush (v := 10) dX0_init_41 (by decide) ?_
    refine G_iload_n dX0_init_43 rfl ?_
    refine G_iaddN (a := 10) (c := 2) (s := 12) dX0_init_44 (by omega) ?_
    refine G_sipush (v := 300) dX0_init_45 (by decide) ?_
    refine G_callVv dX0_init_48 kX0_init_X0_put ⟨rfl, rfl⟩ (by decide) (z_put hΩ (j := 12) (v := 300) (by omega)) rfl rfl ((hΩ _).1) rfl rfl ?_
    refine G_iincN (a := 2) (s := 3) dX0_init_51 rfl (by omega) (L' := [some (.ref lp), some (.int 3), none]) rfl ?_
    refine G_goto 35 dX0_init_54 (by decide) ?_
    refine G_iload_n dX0_init_35 rfl ?_
    refine G_iconst (v := 5) dX0_init_36 (by decide) ?_
    refine G_icmp_geN (a := 3) (c := 5) 57 dX0_init_37 (by decide) (by omega) (fun c37 => (show False by omega).elim) (fun _ => ?_)
    refine G_aload_n dX0_init_40 rfl ?_
    refine G_bipush (v := 10) dX0_init_41 (by decide) ?_
    refine G_iload_n dX0_init_43 rfl ?_
    refine G_iaddN (a := 10) (c := 3) (s := 13) dX0_init_44 (by omega) ?_
    refine G_sipush (v := 300) dX0_init_45 (by decide) ?_
    refine G_callVv dX0_init_48 kX0_init_X0_put ⟨rfl, rfl⟩ (by decide) (z_put hΩ (j := 13) (v := 300) (by omega)) rfl rfl ((hΩ _).1) rfl rfl ?_
    refine G_iincN (a := 3) (s := 4) dX0_init_51 rfl (by omega) (L' := [some (.ref lp), some (.int 4), none]) rfl ?_
    refine G_goto 35 dX0_init_54 (by decide) ?_
    refine G_iload_n dX0_init_35 rfl ?_
    refine G_iconst (v := 5) dX0_init_36 (by decide) ?_
    refine G_icmp_geN (a := 4) (c := 5) 57 dX0_init_37 (by decide) (by omega) (fun c37 => (show False by omega).elim) (fun _ => ?_)
    refine G_aload_n dX0_init_40 rfl ?_
    refine G_bipush (v := 10) dX0_init_41 (by decide) ?_
    refine G_iload_n dX0_init_43 rfl ?_
    refine G_iaddN (a := 10) (c := 4) (s := 14) dX0_init_44 (by omega) ?_
    refine G_sipush (v := 300) dX0_init_45 (by decide) ?_
    refine G_callVv dX0_init_48 kX0_init_X0_put ⟨rfl, rfl⟩ (by decide) (z_put hΩ (j := 14) (v := 300) (by omega)) rfl rfl ((hΩ _).1) rfl rfl ?_
    refine G_iincN (a := 4) (s := 5) dX0_init_51 rfl (by omega) (L' := [some (.ref lp), some (.int 5), none]) rfl ?_
    refine G_goto 35 dX0_init_54 (by decide) ?_
    refine G_iload_n dX0_init_35 rfl ?_
    refine G_iconst (v := 5) dX0_init_36 (by decide) ?_
    refine G_icmp_geN (a := 5) (c := 5) 57 dX0_init_37 (by decide) (by omega) (fun _ => ?_) (fun c37 => (show False by omega).elim)
    refine G_aload_n dX0_init_57 rfl ?_
    refine G_bipush (v := 9) dX0_init_58 (by decide) ?_
    refine G_iconst (v := 1) dX0_init_60 (by decide) ?_
    refine G_callVv dX0_init_61 kX0_init_X0_put ⟨rfl, rfl⟩ (by decide) (z_put hΩ (j := 9) (v := 1) (by omega)) rfl rfl ((hΩ _).1) rfl rfl ?_
    refine G_iconst (v := 0) dX0_init_64 (by decide) ?_
    refine G_istore_n dX0_init_65 rfl (L' := [some (.ref lp), some (.int 0), none]) rfl ?_
    refine G_iload_n dX0_init_66 rfl ?_
    refine G_iconst (v := 4) dX0_init_67 (by decide) ?_
    refine G_icmp_geN (a := 0) (c := 4) 149 dX0_init_68 (by decide) (by omega) (fun c68 => (show False by omega).elim) (fun _ => ?_)
    refine G_aload_n dX0_init_71 rfl ?_
    refine G_bipush (v := 45) dX0_init_72 (by decide) ?_
    refine G_iload_n dX0_init_74 rfl ?_
    refine G_iaddN (a := 45) (c := 0) (s := 45) dX0_init_75 (by omega) ?_
    refine G_sipush (v := 2000) dX0_init_76 (by decide) ?_
    refine G_callVv dX0_init_79 kX0_init_X0_put ⟨rfl, rfl⟩ (by decide) (z_put hΩ (j := 45) (v := 2000) (by omega)) rfl rfl ((hΩ _).1) rfl rfl ?_
    refine G_aload_n dX0_init_82 rfl ?_
    refine G_bipush (v := 49) dX0_init_83 (by decide) ?_
    refine G_iload_n dX0_init_85 rfl ?_
    refine G_iaddN (a := 49) (c := 0) (s := 49) dX0_init_86 (by omega) ?_
    refine G_bipush (v := 40) dX0_init_87 (by decide) ?_
    refine G_callVv dX0_init_89 kX0_init_X0_put ⟨rfl, rfl⟩ (by decide) (z_put hΩ (j := 49) (v := 40) (by omega)) rfl rfl ((hΩ _).1) rfl rfl ?_
    refine G_aload_n dX0_init_92 rfl ?_
    refine G_bipush (v := 53) dX0_init_93 (by decide) ?_
    refine G_iload_n dX0_init_95 rfl ?_
    refine G_iaddN (a := 53) (c := 0) (s := 53) dX0_init_96 (by omega) ?_
    refine G_bipush (v := 12) dX0_init_97 (by decide) ?_
    refine G_callVv dX0_init_99 kX0_init_X0_put ⟨rfl, rfl⟩ (by decide) (z_put hΩ (j := 53) (v := 12) (by omega)) rfl rfl ((hΩ _).1) rfl rfl ?_
    refine G_iconst (v := 0) dX0_init_102 (by decide) ?_
    refine G_istore_n dX0_init_103 rfl (L' := [some (.ref lp), some (.int 0), some (.int 0)]) rfl ?_
    refine G_iload_n dX0_init_104 rfl ?_
    refine G_iconst (v := 4) dX0_init_105 (by decide) ?_
    refine G_icmp_geN (a := 0) (c := 4) 143 dX0_init_106 (by decide) (by omega) (fun c106 => (show False by omega).elim) (fun _ => ?_)
    refine G_iload_n dX0_init_109 rfl ?_
    refine G_iload_n dX0_init_110 rfl ?_
    refine G_icmp_eqN (a := 0) (c := 0) 137 dX0_init_111 (by decide) (by omega) (fun _ => ?_) (fun c111 => (show False by omega).elim)
    refine G_iincN (a := 0) (s := 1) dX0_init_137 rfl (by omega) (L' := [some (.ref lp), some (.int 0), some (.int 1)]) rfl ?_
    refine G_goto 104 dX0_init_140 (by decide) ?_
    refine G_iload_n dX0_init_104 rfl ?_
    refine G_iconst (v := 4) dX0_init_105 (by decide) ?_
    refine G_icmp_geN (a := 1) (c := 4) 143 dX0_init_106 (by decide) (by omega) (fun c106 => (show False by omega).elim) (fun _ => ?_)
    refine G_iload_n dX0_init_109 rfl ?_
    refine G_iload_n dX0_init_110 rfl ?_
    refine G_icmp_eqN (a := 1) (c := 0) 137 dX0_init_111 (by decide) (by omega) (fun c111 => (show False by omega).elim) (fun _ => ?_)
    refine G_aload_n dX0_init_114 rfl ?_
    refine G_bipush (v := 57) dX0_init_115 (by decide) ?_
    refine G_iload_n dX0_init_117 rfl ?_
    refine G_iload_n dX0_init_118 rfl ?_
    refine G_callSi dX0_init_119 kX0_init_X0_plotOf ⟨rfl, rfl⟩ (by decide) (c_plotOfN (h := 1) (b := 0) (s := 4) (by omega)) rfl rfl rfl ?_
    refine G_iaddN (a := 57) (c := 4) (s := 61) dX0_init_122 (by omega) ?_
    refine G_iconst (v := 3) dX0_init_123 (by decide) ?_
    refine G_callVv dX0_init_124 kX0_init_X0_put ⟨rfl, rfl⟩ (by decide) (z_put hΩ (j := 61) (v := 3) (by omega)) rfl rfl ((hΩ _).1) rfl rfl ?_
    refine G_aload_n dX0_init_127 rfl ?_
    refine G_bipush (v := 53) dX0_init_128 (by decide) ?_
    refine G_iload_n dX0_init_130 rfl ?_
    refine G_iaddN (a := 53) (c := 0) (s := 53) dX0_init_131 (by omega) ?_
    refine G_bipush (v := (-3)) dX0_init_132 (by decide) ?_
    refine G_callVv dX0_init_134 kX0_init_X0_add ⟨rfl, rfl⟩ (by decide) (z_add hΩ (j := 53) (v := (-3)) (x := 9) (by omega) (by decide +kernel)) rfl rfl ((hΩ _).1) rfl rfl ?_
    refine G_iincN (a := 1) (s := 2) dX0_init_137 rfl (by omega) (L' := [some (.ref lp), some (.int 0), some (.int 2)]) rfl ?_
    refine G_goto 104 dX0_init_140 (by decide) ?_
    refine G_iload_n dX0_init_104 rfl ?_
    refine G_iconst (v := 4) dX0_init_105 (by decide) ?_
    refine G_icmp_geN (a := 2) (c := 4) 143 dX0_init_106 (by decide) (by omega) (fun c106 => (show False by omega).elim) (fun _ => ?_)
    refine G_iload_n dX0_init_109 rfl ?_
    refine G_iload_n dX0_init_110 rfl ?_
    refine G_icmp_eqN (a := 2) (c := 0) 137 dX0_init_111 (by decide) (by omega) (fun c111 => (show False by omega).elim) (fun _ => ?_)
    refine G_aload_n dX0_init_114 rfl ?_
    refine G_bipush (v := 57) dX0_init_115 (by decide) ?_
    refine G_iload_n dX0_init_117 rfl ?_
    refine G_iload_n dX0_init_118 rfl ?_
    refine G_callSi dX0_init_119 kX0_init_X0_plotOf ⟨rfl, rfl⟩ (by decide) (c_plotOfN (h := 2) (b := 0) (s := 8) (by omega)) rfl rfl rfl ?_
    refine G_iaddN (a := 57) (c := 8) (s := 65) dX0_init_122 (by omega) ?_
    refine G_iconst (v := 3) dX0_init_123 (by decide) ?_
    refine G_callVv dX0_init_124 kX0_init_X0_put ⟨rfl, rfl⟩ (by decide) (z_put hΩ (j := 65) (v := 3) (by omega)) rfl rfl ((hΩ _).1) rfl rfl ?_
    refine G_aload_n dX0_init_127 rfl ?_
    refine G_bipush (v := 53) dX0_init_128 (by decide) ?_
    refine G_iload_n dX0_init_130 rfl ?_
    refine G_iaddN (a := 53) (c := 0) (s := 53) dX0_init_131 (by omega) ?_
    refine G_bipush (v := (-3)) dX0_init_132 (by decide) ?_
    refine G_callVv dX0_init_134 kX0_init_X0_add ⟨rfl, rfl⟩ (by decide) (z_add hΩ (j := 53) (v := (-3)) (x := 6) (by omega) (by decide +kernel)) rfl rfl ((hΩ _).1) rfl rfl ?_
    refine G_iincN (a := 2) (s := 3) dX0_init_137 rfl (by omega) (L' := [some (.ref lp), some (.int 0), some (.int 3)]) rfl ?_
    refine G_goto 104 dX0_init_140 (by decide) ?_
    refine G_iload_n dX0_init_104 rfl ?_
    refine G_iconst (v := 4) dX0_init_105 (by decide) ?_
    refine G_icmp_geN (a := 3) (c := 4) 143 dX0_init_106 (by decide) (by omega) (fun c106 => (show False by omega).elim) (fun _ => ?_)
    refine G_iload_n dX0_init_109 rfl ?_
    refine G_iload_n dX0_init_110 rfl ?_
    refine G_icmp_eqN (a := 3) (c := 0) 137 dX0_init_111 (by decide) (by omega) (fun c111 => (show False by omega).elim) (fun _ => ?_)
    refine G_aload_n dX0_init_114 rfl ?_
    refine G_bipush (v := 57) dX0_init_115 (by decide) ?_
    refine G_iload_n dX0_init_117 rfl ?_
    refine G_iload_n dX0_init_118 rfl ?_
    refine G_callSi dX0_init_119 kX0_init_X0_plotOf ⟨rfl, rfl⟩ (by decide) (c_plotOfN (h := 3) (b := 0) (s := 12) (by omega)) rfl rfl rfl ?_
    refine G_iaddN (a := 57) (c := 12) (s := 69) dX0_init_122 (by omega) ?_
    refine G_iconst (v := 3) dX0_init_123 (by decide) ?_
    refine G_callVv dX0_init_124 kX0_init_X0_put ⟨rfl, rfl⟩ (by decide) (z_put hΩ (j := 69) (v := 3) (by omega)) rfl rfl ((hΩ _).1) rfl rfl ?_
    refine G_aload_n dX0_init_127 rfl ?_
    refine G_bipush (v := 53) dX0_init_128 (by decide) ?_
    refine G_iload_n dX0_init_130 rfl ?_
    refine G_iaddN (a := 53) (c := 0) (s := 53) dX0_init_131 (by omega) ?_
    refine G_bipush (v := (-3)) dX0_init_132 (by decide) ?_
    refine G_callVv dX0_init_134 kX0_init_X0_add ⟨rfl, rfl⟩ (by decide) (z_add hΩ (j := 53) (v := (-3)) (x := 3) (by omega) (by decide +kernel)) rfl rfl ((hΩ _).1) rfl rfl ?_
    refine G_iincN (a := 3) (s := 4) dX0_init_137 rfl (by omega) (L' := [some (.ref lp), some (.int 0), some (.int 4)]) rfl ?_
    refine G_goto 104 dX0_init_140 (by decide) ?_
    refine G_iload_n dX0_init_104 rfl ?_
    refine G_iconst (v := 4) dX0_init_105 (by decide) ?_
    refine G_icmp_geN (a := 4) (c := 4) 143 dX0_init_106 (by decide) (by omega) (fun _ => ?_) (fun c106 => (show False by omega).elim)
    refine G_iincN (a := 0) (s := 1) dX0_init_143 rfl (by omega) (L' := [some (.ref lp), some (.int 1), some (.int 4)]) rfl ?_
    refine G_goto 66 dX0_init_146 (by decide) ?_
    refine G_iload_n dX0_init_66 rfl ?_
    refine G_iconst (v := 4) dX0_init_67 (by decide) ?_
    refine G_icmp_geN (a := 1) (c := 4) 149 dX0_init_68 (by decide) (by omega) (fun c68 => (show False by omega).elim) (fun _ => ?_)
    refine G_aload_n dX0_init_71 rfl ?_
    refine G_bipush (v := 45) dX0_init_72 (by decide) ?_
    refine G_iload_n dX0_init_74 rfl ?_
    refine G_iaddN (a := 45) (c := 1) (s := 46) dX0_init_75 (by omega) ?_
    refine G_sipush (v := 2000) dX0_init_76 (by decide) ?_
    refine G_callVv dX0_init_79 kX0_init_X0_put ⟨rfl, rfl⟩ (by decide) (z_put hΩ (j := 46) (v := 2000) (by omega)) rfl rfl ((hΩ _).1) rfl rfl ?_
    refine G_aload_n dX0_init_82 rfl ?_
    refine G_bipush (v := 49) dX0_init_83 (by decide) ?_
    refine G_iload_n dX0_init_85 rfl ?_
    refine G_iaddN (a := 49) (c := 1) (s := 50) dX0_init_86 (by omega) ?_
    refine G_bipush (v := 40) dX0_init_87 (by decide) ?_
    refine G_callVv dX0_init_89 kX0_init_X0_put ⟨rfl, rfl⟩ (by decide) (z_put hΩ (j := 50) (v := 40) (by omega)) rfl rfl ((hΩ _).1) rfl rfl ?_
    refine G_aload_n dX0_init_92 rfl ?_
    refine G_bipush (v := 53) dX0_init_93 (by decide) ?_
    refine G_iload_n dX0_init_95 rfl ?_
    refine G_iaddN (a := 53) (c := 1) (s := 54) dX0_init_96 (by omega) ?_
    refine G_bipush (v := 12) dX0_init_97 (by decide) ?_
    refine G_callVv dX0_init_99 kX0_init_X0_put ⟨rfl, rfl⟩ (by decide) (z_put hΩ (j := 54) (v := 12) (by omega)) rfl rfl ((hΩ _).1) rfl rfl ?_
    refine G_iconst (v := 0) dX0_init_102 (by decide) ?_
    refine G_istore_n dX0_init_103 rfl (L' := [some (.ref lp), some (.int 1), some (.int 0)]) rfl ?_
    refine G_iload_n dX0_init_104 rfl ?_
    refine G_iconst (v := 4) dX0_init_105 (by decide) ?_
    refine G_icmp_geN (a := 0) (c := 4) 143 dX0_init_106 (by decide) (by omega) (fun c106 => (show False by omega).elim) (fun _ => ?_)
    refine G_iload_n dX0_init_109 rfl ?_
    refine G_iload_n dX0_init_110 rfl ?_
    refine G_icmp_eqN (a := 0) (c := 1) 137 dX0_init_111 (by decide) (by omega) (fun c111 => (show False by omega).elim) (fun _ => ?_)
    refine G_aload_n dX0_init_114 rfl ?_
    refine G_bipush (v := 57) dX0_init_115 (by decide) ?_
    refine G_iload_n dX0_init_117 rfl ?_
    refine G_iload_n dX0_init_118 rfl ?_
    refine G_callSi dX0_init_119 kX0_init_X0_plotOf ⟨rfl, rfl⟩ (by decide) (c_plotOfN (h := 0) (b := 1) (s := 1) (by omega)) rfl rfl rfl ?_
    refine G_iaddN (a := 57) (c := 1) (s := 58) dX0_init_122 (by omega) ?_
    refine G_iconst (v := 3) dX0_init_123 (by decide) ?_
    refine G_callVv dX0_init_124 kX0_init_X0_put ⟨rfl, rfl⟩ (by decide) (z_put hΩ (j := 58) (v := 3) (by omega)) rfl rfl ((hΩ _).1) rfl rfl ?_
    refine G_aload_n dX0_init_127 rfl ?_
    refine G_bipush (v := 53) dX0_init_128 (by decide) ?_
    refine G_iload_n dX0_init_130 rfl ?_
    refine G_iaddN (a := 53) (c := 1) (s := 54) dX0_init_131 (by omega) ?_
    refine G_bipush (v := (-3)) dX0_init_132 (by decide) ?_
    refine G_callVv dX0_init_134 kX0_init_X0_add ⟨rfl, rfl⟩ (by decide) (z_add hΩ (j := 54) (v := (-3)) (x := 9) (by omega) (by decide +kernel)) rfl rfl ((hΩ _).1) rfl rfl ?_
    refine G_iincN (a := 0) (s := 1) dX0_init_137 rfl (by omega) (L' := [some (.ref lp), some (.int 1), some (.int 1)]) rfl ?_
    refine G_goto 104 dX0_init_140 (by decide) ?_
    refine G_iload_n dX0_init_104 rfl ?_
    refine G_iconst (v := 4) dX0_init_105 (by decide) ?_
    refine G_icmp_geN (a := 1) (c := 4) 143 dX0_init_106 (by decide) (by omega) (fun c106 => (show False by omega).elim) (fun _ => ?_)
    refine G_iload_n dX0_init_109 rfl ?_
    refine G_iload_n dX0_init_110 rfl ?_
    refine G_icmp_eqN (a := 1) (c := 1) 137 dX0_init_111 (by decide) (by omega) (fun _ => ?_) (fun c111 => (show False by omega).elim)
    refine G_iincN (a := 1) (s := 2) dX0_init_137 rfl (by omega) (L' := [some (.ref lp), some (.int 1), some (.int 2)]) rfl ?_
    refine G_goto 104 dX0_init_140 (by decide) ?_
    refine G_iload_n dX0_init_104 rfl ?_
    refine G_iconst (v := 4) dX0_init_105 (by decide) ?_
    refine G_icmp_geN (a := 2) (c := 4) 143 dX0_init_106 (by decide) (by omega) (fun c106 => (show False by omega).elim) (fun _ => ?_)
    refine G_iload_n dX0_init_109 rfl ?_
    refine G_iload_n dX0_init_110 rfl ?_
    refine G_icmp_eqN (a := 2) (c := 1) 137 dX0_init_111 (by decide) (by omega) (fun c111 => (show False by omega).elim) (fun _ => ?_)
    refine G_aload_n dX0_init_114 rfl ?_
    refine G_bipush (v := 57) dX0_init_115 (by decide) ?_
    refine G_iload_n dX0_init_117 rfl ?_
    refine G_iload_n dX0_init_118 rfl ?_
    refine G_callSi dX0_init_119 kX0_init_X0_plotOf ⟨rfl, rfl⟩ (by decide) (c_plotOfN (h := 2) (b := 1) (s := 9) (by omega)) rfl rfl rfl ?_
    refine G_iaddN (a := 57) (c := 9) (s := 66) dX0_init_122 (by omega) ?_
    refine G_iconst (v := 3) dX0_init_123 (by decide) ?_
    refine G_callVv dX0_init_124 kX0_init_X0_put ⟨rfl, rfl⟩ (by decide) (z_put hΩ (j := 66) (v := 3) (by omega)) rfl rfl ((hΩ _).1) rfl rfl ?_
    refine G_aload_n dX0_init_127 rfl ?_
    refine G_bipush (v := 53) dX0_init_128 (by decide) ?_
    refine G_iload_n dX0_init_130 rfl ?_
    refine G_iaddN (a := 53) (c := 1) (s := 54) dX0_init_131 (by omega) ?_
    refine G_bipush (v := (-3)) dX0_init_132 (by decide) ?_
    refine G_callVv dX0_init_134 kX0_init_X0_add ⟨rfl, rfl⟩ (by decide) (z_add hΩ (j := 54) (v := (-3)) (x := 6) (by omega) (by decide +kernel)) rfl rfl ((hΩ _).1) rfl rfl ?_
    refine G_iincN (a := 2) (s := 3) dX0_init_137 rfl (by omega) (L' := [some (.ref lp), some (.int 1), some (.int 3)]) rfl ?_
    refine G_goto 104 dX0_init_140 (by decide) ?_
    refine G_iload_n dX0_init_104 rfl ?_
    refine G_iconst (v := 4) dX0_init_105 (by decide) ?_
    refine G_icmp_geN (a := 3) (c := 4) 143 dX0_init_106 (by decide) (by omega) (fun c106 => (show False by omega).elim) (fun _ => ?_)
    refine G_iload_n dX0_init_109 rfl ?_
    refine G_iload_n dX0_init_110 rfl ?_
    refine G_icmp_eqN (a := 3) (c := 1) 137 dX0_init_111 (by decide) (by omega) (fun c111 => (show False by omega).elim) (fun _ => ?_)
    refine G_aload_n dX0_init_114 rfl ?_
    refine G_bipush (v := 57) dX0_init_115 (by decide) ?_
    refine G_iload_n dX0_init_117 rfl ?_
    refine G_iload_n dX0_init_118 rfl ?_
    refine G_callSi dX0_init_119 kX0_init_X0_plotOf ⟨rfl, rfl⟩ (by decide) (c_plotOfN (h := 3) (b := 1) (s := 13) (by omega)) rfl rfl rfl ?_
    refine G_iaddN (a := 57) (c := 13) (s := 70) dX0_init_122 (by omega) ?_
    refine G_iconst (v := 3) dX0_init_123 (by decide) ?_
    refine G_callVv dX0_init_124 kX0_init_X0_put ⟨rfl, rfl⟩ (by decide) (z_put hΩ (j := 70) (v := 3) (by omega)) rfl rfl ((hΩ _).1) rfl rfl ?_
    refine G_aload_n dX0_init_127 rfl ?_
    refine G_bipush (v := 53) dX0_init_128 (by decide) ?_
    refine G_iload_n dX0_init_130 rfl ?_
    refine G_iaddN (a := 53) (c := 1) (s := 54) dX0_init_131 (by omega) ?_
    refine G_bipush (v := (-3)) dX0_init_132 (by decide) ?_
    refine G_callVv dX0_init_134 kX0_init_X0_add ⟨rfl, rfl⟩ (by decide) (z_add hΩ (j := 54) (v := (-3)) (x := 3) (by omega) (by decide +kernel)) rfl rfl ((hΩ _).1) rfl rfl ?_
    refine G_iincN (a := 3) (s := 4) dX0_init_137 rfl (by omega) (L' := [some (.ref lp), some (.int 1), some (.int 4)]) rfl ?_
    refine G_goto 104 dX0_init_140 (by decide) ?_
    refine G_iload_n dX0_init_104 rfl ?_
    refine G_iconst (v := 4) dX0_init_105 (by decide) ?_
    refine G_icmp_geN (a := 4) (c := 4) 143 dX0_init_106 (by decide) (by omega) (fun _ => ?_) (fun c106 => (show False by omega).elim)
    refine G_iincN (a := 1) (s := 2) dX0_init_143 rfl (by omega) (L' := [some (.ref lp), some (.int 2), some (.int 4)]) rfl ?_
    refine G_goto 66 dX0_init_146 (by decide) ?_
    refine G_iload_n dX0_init_66 rfl ?_
    refine G_iconst (v := 4) dX0_init_67 (by decide) ?_
    refine G_icmp_geN (a := 2) (c := 4) 149 dX0_init_68 (by decide) (by omega) (fun c68 => (show False by omega).elim) (fun _ => ?_)
    refine G_aload_n dX0_init_71 rfl ?_
    refine G_bipush (v := 45) dX0_init_72 (by decide) ?_
    refine G_iload_n dX0_init_74 rfl ?_
    refine G_iaddN (a := 45) (c := 2) (s := 47) dX0_init_75 (by omega) ?_
    refine G_sipush (v := 2000) dX0_init_76 (by decide) ?_
    refine G_callVv dX0_init_79 kX0_init_X0_put ⟨rfl, rfl⟩ (by decide) (z_put hΩ (j := 47) (v := 2000) (by omega)) rfl rfl ((hΩ _).1) rfl rfl ?_
    refine G_aload_n dX0_init_82 rfl ?_
    refine G_bipush (v := 49) dX0_init_83 (by decide) ?_
    refine G_iload_n dX0_init_85 rfl ?_
    refine G_iaddN (a := 49) (c := 2) (s := 51) dX0_init_86 (by omega) ?_
    refine G_bipush (v := 40) dX0_init_87 (by decide) ?_
    refine G_callVv dX0_init_89 kX0_init_X0_put ⟨rfl, rfl⟩ (by decide) (z_put hΩ (j := 51) (v := 40) (by omega)) rfl rfl ((hΩ _).1) rfl rfl ?_
    refine G_aload_n dX0_init_92 rfl ?_
    refine G_bipush (v := 53) dX0_init_93 (by decide) ?_
    refine G_iload_n dX0_init_95 rfl ?_
    refine G_iaddN (a := 53) (c := 2) (s := 55) dX0_init_96 (by omega) ?_
    refine G_bipush (v := 12) dX0_init_97 (by decide) ?_
    refine G_callVv dX0_init_99 kX0_init_X0_put ⟨rfl, rfl⟩ (by decide) (z_put hΩ (j := 55) (v := 12) (by omega)) rfl rfl ((hΩ _).1) rfl rfl ?_
    refine G_iconst (v := 0) dX0_init_102 (by decide) ?_
    refine G_istore_n dX0_init_103 rfl (L' := [some (.ref lp), some (.int 2), some (.int 0)]) rfl ?_
    refine G_iload_n dX0_init_104 rfl ?_
    refine G_iconst (v := 4) dX0_init_105 (by decide) ?_
    refine G_icmp_geN (a := 0) (c := 4) 143 dX0_init_106 (by decide) (by omega) (fun c106 => (show False by omega).elim) (fun _ => ?_)
    refine G_iload_n dX0_init_109 rfl ?_
    refine G_iload_n dX0_init_110 rfl ?_
    refine G_icmp_eqN (a := 0) (c := 2) 137 dX0_init_111 (by decide) (by omega) (fun c111 => (show False by omega).elim) (fun _ => ?_)
    refine G_aload_n dX0_init_114 rfl ?_
    refine G_bipush (v := 57) dX0_init_115 (by decide) ?_
    refine G_iload_n dX0_init_117 rfl ?_
    refine G_iload_n dX0_init_118 rfl ?_
    refine G_callSi dX0_init_119 kX0_init_X0_plotOf ⟨rfl, rfl⟩ (by decide) (c_plotOfN (h := 0) (b := 2) (s := 2) (by omega)) rfl rfl rfl ?_
    refine G_iaddN (a := 57) (c := 2) (s := 59) dX0_init_122 (by omega) ?_
    refine G_iconst (v := 3) dX0_init_123 (by decide) ?_
    refine G_callVv dX0_init_124 kX0_init_X0_put ⟨rfl, rfl⟩ (by decide) (z_put hΩ (j := 59) (v := 3) (by omega)) rfl rfl ((hΩ _).1) rfl rfl ?_
    refine G_aload_n dX0_init_127 rfl ?_
    refine G_bipush (v := 53) dX0_init_128 (by decide) ?_
    refine G_iload_n dX0_init_130 rfl ?_
    refine G_iaddN (a := 53) (c := 2) (s := 55) dX0_init_131 (by omega) ?_
    refine G_bipush (v := (-3)) dX0_init_132 (by decide) ?_
    refine G_callVv dX0_init_134 kX0_init_X0_add ⟨rfl, rfl⟩ (by decide) (z_add hΩ (j := 55) (v := (-3)) (x := 9) (by omega) (by decide +kernel)) rfl rfl ((hΩ _).1) rfl rfl ?_
    refine G_iincN (a := 0) (s := 1) dX0_init_137 rfl (by omega) (L' := [some (.ref lp), some (.int 2), some (.int 1)]) rfl ?_
    refine G_goto 104 dX0_init_140 (by decide) ?_
    refine G_iload_n dX0_init_104 rfl ?_
    refine G_iconst (v := 4) dX0_init_105 (by decide) ?_
    refine G_icmp_geN (a := 1) (c := 4) 143 dX0_init_106 (by decide) (by omega) (fun c106 => (show False by omega).elim) (fun _ => ?_)
    refine G_iload_n dX0_init_109 rfl ?_
    refine G_iload_n dX0_init_110 rfl ?_
    refine G_icmp_eqN (a := 1) (c := 2) 137 dX0_init_111 (by decide) (by omega) (fun c111 => (show False by omega).elim) (fun _ => ?_)
    refine G_aload_n dX0_init_114 rfl ?_
    refine G_bipush (v := 57) dX0_init_115 (by decide) ?_
    refine G_iload_n dX0_init_117 rfl ?_
    refine G_iload_n dX0_init_118 rfl ?_
    refine G_callSi dX0_init_119 kX0_init_X0_plotOf ⟨rfl, rfl⟩ (by decide) (c_plotOfN (h := 1) (b := 2) (s := 6) (by omega)) rfl rfl rfl ?_
    refine G_iaddN (a := 57) (c := 6) (s := 63) dX0_init_122 (by omega) ?_
    refine G_iconst (v := 3) dX0_init_123 (by decide) ?_
    refine G_callVv dX0_init_124 kX0_init_X0_put ⟨rfl, rfl⟩ (by decide) (z_put hΩ (j := 63) (v := 3) (by omega)) rfl rfl ((hΩ _).1) rfl rfl ?_
    refine G_aload_n dX0_init_127 rfl ?_
    refine G_bipush (v := 53) dX0_init_128 (by decide) ?_
    refine G_iload_n dX0_init_130 rfl ?_
    refine G_iaddN (a := 53) (c := 2) (s := 55) dX0_init_131 (by omega) ?_
    refine G_bipush (v := (-3)) dX0_init_132 (by decide) ?_
    refine G_callVv dX0_init_134 kX0_init_X0_add ⟨rfl, rfl⟩ (by decide) (z_add hΩ (j := 55) (v := (-3)) (x := 6) (by omega) (by decide +kernel)) rfl rfl ((hΩ _).1) rfl rfl ?_
    refine G_iincN (a := 1) (s := 2) dX0_init_137 rfl (by omega) (L' := [some (.ref lp), some (.int 2), some (.int 2)]) rfl ?_
    refine G_goto 104 dX0_init_140 (by decide) ?_
    refine G_iload_n dX0_init_104 rfl ?_
    refine G_iconst (v := 4) dX0_init_105 (by decide) ?_
    refine G_icmp_geN (a := 2) (c := 4) 143 dX0_init_106 (by decide) (by omega) (fun c106 => (show False by omega).elim) (fun _ => ?_)
    refine G_iload_n dX0_init_109 rfl ?_
    refine G_iload_n dX0_init_110 rfl ?_
    refine G_icmp_eqN (a := 2) (c := 2) 137 dX0_init_111 (by decide) (by omega) (fun _ => ?_) (fun c111 => (show False by omega).elim)
    refine G_iincN (a := 2) (s := 3) dX0_init_137 rfl (by omega) (L' := [some (.ref lp), some (.int 2), some (.int 3)]) rfl ?_
    refine G_goto 104 dX0_init_140 (by decide) ?_
    refine G_iload_n dX0_init_104 rfl ?_
    refine G_iconst (v := 4) dX0_init_105 (by decide) ?_
    refine G_icmp_geN (a := 3) (c := 4) 143 dX0_init_106 (by decide) (by omega) (fun c106 => (show False by omega).elim) (fun _ => ?_)
    refine G_iload_n dX0_init_109 rfl ?_
    refine G_iload_n dX0_init_110 rfl ?_
    refine G_icmp_eqN (a := 3) (c := 2) 137 dX0_init_111 (by decide) (by omega) (fun c111 => (show False by omega).elim) (fun _ => ?_)
    refine G_aload_n dX0_init_114 rfl ?_
    refine G_bipush (v := 57) dX0_init_115 (by decide) ?_
    refine G_iload_n dX0_init_117 rfl ?_
    refine G_iload_n dX0_init_118 rfl ?_
    refine G_callSi dX0_init_119 kX0_init_X0_plotOf ⟨rfl, rfl⟩ (by decide) (c_plotOfN (h := 3) (b := 2) (s := 14) (by omega)) rfl rfl rfl ?_
    refine G_iaddN (a := 57) (c := 14) (s := 71) dX0_init_122 (by omega) ?_
    refine G_iconst (v := 3) dX0_init_123 (by decide) ?_
    refine G_callVv dX0_init_124 kX0_init_X0_put ⟨rfl, rfl⟩ (by decide) (z_put hΩ (j := 71) (v := 3) (by omega)) rfl rfl ((hΩ _).1) rfl rfl ?_
    refine G_aload_n dX0_init_127 rfl ?_
    refine G_bipush (v := 53) dX0_init_128 (by decide) ?_
    refine G_iload_n dX0_init_130 rfl ?_
    refine G_iaddN (a := 53) (c := 2) (s := 55) dX0_init_131 (by omega) ?_
    refine G_bipush (v := (-3)) dX0_init_132 (by decide) ?_
    refine G_callVv dX0_init_134 kX0_init_X0_add ⟨rfl, rfl⟩ (by decide) (z_add hΩ (j := 55) (v := (-3)) (x := 3) (by omega) (by decide +kernel)) rfl rfl ((hΩ _).1) rfl rfl ?_
    refine G_iincN (a := 3) (s := 4) dX0_init_137 rfl (by omega) (L' := [some (.ref lp), some (.int 2), some (.int 4)]) rfl ?_
    refine G_goto 104 dX0_init_140 (by decide) ?_
    refine G_iload_n dX0_init_104 rfl ?_
    refine G_iconst (v := 4) dX0_init_105 (by decide) ?_
    refine G_icmp_geN (a := 4) (c := 4) 143 dX0_init_106 (by decide) (by omega) (fun _ => ?_) (fun c106 => (show False by omega).elim)
    refine G_iincN (a := 2) (s := 3) dX0_init_143 rfl (by omega) (L' := [some (.ref lp), some (.int 3), some (.int 4)]) rfl ?_
    refine G_goto 66 dX0_init_146 (by decide) ?_
    refine G_iload_n dX0_init_66 rfl ?_
    refine G_iconst (v := 4) dX0_init_67 (by decide) ?_
    refine G_icmp_geN (a := 3) (c := 4) 149 dX0_init_68 (by decide) (by omega) (fun c68 => (show False by omega).elim) (fun _ => ?_)
    refine G_aload_n dX0_init_71 rfl ?_
    refine G_bipush (v := 45) dX0_init_72 (by decide) ?_
    refine G_iload_n dX0_init_74 rfl ?_
    refine G_iaddN (a := 45) (c := 3) (s := 48) dX0_init_75 (by omega) ?_
    refine G_sipush (v := 2000) dX0_init_76 (by decide) ?_
    refine G_callVv dX0_init_79 kX0_init_X0_put ⟨rfl, rfl⟩ (by decide) (z_put hΩ (j := 48) (v := 2000) (by omega)) rfl rfl ((hΩ _).1) rfl rfl ?_
    refine G_aload_n dX0_init_82 rfl ?_
    refine G_bipush (v := 49) dX0_init_83 (by decide) ?_
    refine G_iload_n dX0_init_85 rfl ?_
    refine G_iaddN (a := 49) (c := 3) (s := 52) dX0_init_86 (by omega) ?_
    refine G_bipush (v := 40) dX0_init_87 (by decide) ?_
    refine G_callVv dX0_init_89 kX0_init_X0_put ⟨rfl, rfl⟩ (by decide) (z_put hΩ (j := 52) (v := 40) (by omega)) rfl rfl ((hΩ _).1) rfl rfl ?_
    refine G_aload_n dX0_init_92 rfl ?_
    refine G_bipush (v := 53) dX0_init_93 (by decide) ?_
    refine G_iload_n dX0_init_95 rfl ?_
    refine G_iaddN (a := 53) (c := 3) (s := 56) dX0_init_96 (by omega) ?_
    refine G_bipush (v := 12) dX0_init_97 (by decide) ?_
    refine G_callVv dX0_init_99 kX0_init_X0_put ⟨rfl, rfl⟩ (by decide) (z_put hΩ (j := 56) (v := 12) (by omega)) rfl rfl ((hΩ _).1) rfl rfl ?_
    refine G_iconst (v := 0) dX0_init_102 (by decide) ?_
    refine G_istore_n dX0_init_103 rfl (L' := [some (.ref lp), some (.int 3), some (.int 0)]) rfl ?_
    refine G_iload_n dX0_init_104 rfl ?_
    refine G_iconst (v := 4) dX0_init_105 (by decide) ?_
    refine G_icmp_geN (a := 0) (c := 4) 143 dX0_init_106 (by decide) (by omega) (fun c106 => (show False by omega).elim) (fun _ => ?_)
    refine G_iload_n dX0_init_109 rfl ?_
    refine G_iload_n dX0_init_110 rfl ?_
    refine G_icmp_eqN (a := 0) (c := 3) 137 dX0_init_111 (by decide) (by omega) (fun c111 => (show False by omega).elim) (fun _ => ?_)
    refine G_aload_n dX0_init_114 rfl ?_
    refine G_bipush (v := 57) dX0_init_115 (by decide) ?_
    refine G_iload_n dX0_init_117 rfl ?_
    refine G_iload_n dX0_init_118 rfl ?_
    refine G_callSi dX0_init_119 kX0_init_X0_plotOf ⟨rfl, rfl⟩ (by decide) (c_plotOfN (h := 0) (b := 3) (s := 3) (by omega)) rfl rfl rfl ?_
    refine G_iaddN (a := 57) (c := 3) (s := 60) dX0_init_122 (by omega) ?_
    refine G_iconst (v := 3) dX0_init_123 (by decide) ?_
    refine G_callVv dX0_init_124 kX0_init_X0_put ⟨rfl, rfl⟩ (by decide) (z_put hΩ (j := 60) (v := 3) (by omega)) rfl rfl ((hΩ _).1) rfl rfl ?_
    refine G_aload_n dX0_init_127 rfl ?_
    refine G_bipush (v := 53) dX0_init_128 (by decide) ?_
    refine G_iload_n dX0_init_130 rfl ?_
    refine G_iaddN (a := 53) (c := 3) (s := 56) dX0_init_131 (by omega) ?_
    refine G_bipush (v := (-3)) dX0_init_132 (by decide) ?_
    refine G_callVv dX0_init_134 kX0_init_X0_add ⟨rfl, rfl⟩ (by decide) (z_add hΩ (j := 56) (v := (-3)) (x := 9) (by omega) (by decide +kernel)) rfl rfl ((hΩ _).1) rfl rfl ?_
    refine G_iincN (a := 0) (s := 1) dX0_init_137 rfl (by omega) (L' := [some (.ref lp), some (.int 3), some (.int 1)]) rfl ?_
    refine G_goto 104 dX0_init_140 (by decide) ?_
    refine G_iload_n dX0_init_104 rfl ?_
    refine G_iconst (v := 4) dX0_init_105 (by decide) ?_
    refine G_icmp_geN (a := 1) (c := 4) 143 dX0_init_106 (by decide) (by omega) (fun c106 => (show False by omega).elim) (fun _ => ?_)
    refine G_iload_n dX0_init_109 rfl ?_
    refine G_iload_n dX0_init_110 rfl ?_
    refine G_icmp_eqN (a := 1) (c := 3) 137 dX0_init_111 (by decide) (by omega) (fun c111 => (show False by omega).elim) (fun _ => ?_)
    refine G_aload_n dX0_init_114 rfl ?_
    refine G_bipush (v := 57) dX0_init_115 (by decide) ?_
    refine G_iload_n dX0_init_117 rfl ?_
    refine G_iload_n dX0_init_118 rfl ?_
    refine G_callSi dX0_init_119 kX0_init_X0_plotOf ⟨rfl, rfl⟩ (by decide) (c_plotOfN (h := 1) (b := 3) (s := 7) (by omega)) rfl rfl rfl ?_
    refine G_iaddN (a := 57) (c := 7) (s := 64) dX0_init_122 (by omega) ?_
    refine G_iconst (v := 3) dX0_init_123 (by decide) ?_
    refine G_callVv dX0_init_124 kX0_init_X0_put ⟨rfl, rfl⟩ (by decide) (z_put hΩ (j := 64) (v := 3) (by omega)) rfl rfl ((hΩ _).1) rfl rfl ?_
    refine G_aload_n dX0_init_127 rfl ?_
    refine G_bipush (v := 53) dX0_init_128 (by decide) ?_
    refine G_iload_n dX0_init_130 rfl ?_
    refine G_iaddN (a := 53) (c := 3) (s := 56) dX0_init_131 (by omega) ?_
    refine G_bipush (v := (-3)) dX0_init_132 (by decide) ?_
    refine G_callVv dX0_init_134 kX0_init_X0_add ⟨rfl, rfl⟩ (by decide) (z_add hΩ (j := 56) (v := (-3)) (x := 6) (by omega) (by decide +kernel)) rfl rfl ((hΩ _).1) rfl rfl ?_
    refine G_iincN (a := 1) (s := 2) dX0_init_137 rfl (by omega) (L' := [some (.ref lp), some (.int 3), some (.int 2)]) rfl ?_
    refine G_goto 104 dX0_init_140 (by decide) ?_
    refine G_iload_n dX0_init_104 rfl ?_
    refine G_iconst (v := 4) dX0_init_105 (by decide) ?_
    refine G_icmp_geN (a := 2) (c := 4) 143 dX0_init_106 (by decide) (by omega) (fun c106 => (show False by omega).elim) (fun _ => ?_)
    refine G_iload_n dX0_init_109 rfl ?_
    refine G_iload_n dX0_init_110 rfl ?_
    refine G_icmp_eqN (a := 2) (c := 3) 137 dX0_init_111 (by decide) (by omega) (fun c111 => (show False by omega).elim) (fun _ => ?_)
    refine G_aload_n dX0_init_114 rfl ?_
    refine G_bipush (v := 57) dX0_init_115 (by decide) ?_
    refine G_iload_n dX0_init_117 rfl ?_
    refine G_iload_n dX0_init_118 rfl ?_
    refine G_callSi dX0_init_119 kX0_init_X0_plotOf ⟨rfl, rfl⟩ (by decide) (c_plotOfN (h := 2) (b := 3) (s := 11) (by omega)) rfl rfl rfl ?_
    refine G_iaddN (a := 57) (c := 11) (s := 68) dX0_init_122 (by omega) ?_
    refine G_iconst (v := 3) dX0_init_123 (by decide) ?_
    refine G_callVv dX0_init_124 kX0_init_X0_put ⟨rfl, rfl⟩ (by decide) (z_put hΩ (j := 68) (v := 3) (by omega)) rfl rfl ((hΩ _).1) rfl rfl ?_
    refine G_aload_n dX0_init_127 rfl ?_
    refine G_bipush (v := 53) dX0_init_128 (by decide) ?_
    refine G_iload_n dX0_init_130 rfl ?_
    refine G_iaddN (a := 53) (c := 3) (s := 56) dX0_init_131 (by omega) ?_
    refine G_bipush (v := (-3)) dX0_init_132 (by decide) ?_
    refine G_callVv dX0_init_134 kX0_init_X0_add ⟨rfl, rfl⟩ (by decide) (z_add hΩ (j := 56) (v := (-3)) (x := 3) (by omega) (by decide +kernel)) rfl rfl ((hΩ _).1) rfl rfl ?_
    refine G_iincN (a := 2) (s := 3) dX0_init_137 rfl (by omega) (L' := [some (.ref lp), some (.int 3), some (.int 3)]) rfl ?_
    refine G_goto 104 dX0_init_140 (by decide) ?_
    refine G_iload_n dX0_init_104 rfl ?_
    refine G_iconst (v := 4) dX0_init_105 (by decide) ?_
    refine G_icmp_geN (a := 3) (c := 4) 143 dX0_init_106 (by decide) (by omega) (fun c106 => (show False by omega).elim) (fun _ => ?_)
    refine G_iload_n dX0_init_109 rfl ?_
    refine G_iload_n dX0_init_110 rfl ?_
    refine G_icmp_eqN (a := 3) (c := 3) 137 dX0_init_111 (by decide) (by omega) (fun _ => ?_) (fun c111 => (show False by omega).elim)
    refine G_iincN (a := 3) (s := 4) dX0_init_137 rfl (by omega) (L' := [some (.ref lp), some (.int 3), some (.int 4)]) rfl ?_
    refine G_goto 104 dX0_init_140 (by decide) ?_
    refine G_iload_n dX0_init_104 rfl ?_
    refine G_iconst (v := 4) dX0_init_105 (by decide) ?_
    refine G_icmp_geN (a := 4) (c := 4) 143 dX0_init_106 (by decide) (by omega) (fun _ => ?_) (fun c106 => (show False by omega).elim)
    refine G_iincN (a := 3) (s := 4) dX0_init_143 rfl (by omega) (L' := [some (.ref lp), some (.int 4), some (.int 4)]) rfl ?_
    refine G_goto 66 dX0_init_146 (by decide) ?_
    refine G_iload_n dX0_init_66 rfl ?_
    refine G_iconst (v := 4) dX0_init_67 (by decide) ?_
    refine G_icmp_geN (a := 4) (c := 4) 149 dX0_init_68 (by decide) (by omega) (fun _ => ?_) (fun c68 => (show False by omega).elim)
    refine G_iconst (v := 0) dX0_init_149 (by decide) ?_
    refine G_istore_n dX0_init_150 rfl (L' := [some (.ref lp), some (.int 0), some (.int 4)]) rfl ?_
    refine G_iload_n dX0_init_151 rfl ?_
    refine G_bipush (v := 6) dX0_init_152 (by decide) ?_
    refine G_icmp_geN (a := 0) (c := 6) 183 dX0_init_154 (by decide) (by omega) (fun c154 => (show False by omega).elim) (fun _ => ?_)
    refine G_aload_n dX0_init_157 rfl ?_
    refine G_sipush (v := 137) dX0_init_158 (by decide) ?_
    refine G_iload_n dX0_init_161 rfl ?_
    refine G_iaddN (a := 137) (c := 0) (s := 137) dX0_init_162 (by omega) ?_
    refine G_bipush (v := 10) dX0_init_163 (by decide) ?_
    refine G_iconst (v := 2) dX0_init_165 (by decide) ?_
    refine G_iload_n dX0_init_166 rfl ?_
    refine G_imulN (a := 2) (c := 0) (s := 0) dX0_init_167 (by omega) ?_
    refine G_iaddN (a := 10) (c := 0) (s := 10) dX0_init_168 (by omega) ?_
    refine G_callVv dX0_init_169 kX0_init_X0_put ⟨rfl, rfl⟩ (by decide) (z_put hΩ (j := 137) (v := 10) (by omega)) rfl rfl ((hΩ _).1) rfl rfl ?_
    refine G_aload_n dX0_init_172 rfl ?_
    refine G_iload_n dX0_init_173 rfl ?_
    refine G_callVv dX0_init_174 kX0_init_X0_letRest ⟨rfl, rfl⟩ (by decide) (z_rest hΩ (c := 0) (by omega)) rfl rfl ((hΩ _).1) rfl rfl ?_
    refine G_iincN (a := 0) (s := 1) dX0_init_177 rfl (by omega) (L' := [some (.ref lp), some (.int 1), some (.int 4)]) rfl ?_
    refine G_goto 151 dX0_init_180 (by decide) ?_
    refine G_iload_n dX0_init_151 rfl ?_
    refine G_bipush (v := 6) dX0_init_152 (by decide) ?_
    refine G_icmp_geN (a := 1) (c := 6) 183 dX0_init_154 (by decide) (by omega) (fun c154 => (show False by omega).elim) (fun _ => ?_)
    refine G_aload_n dX0_init_157 rfl ?_
    refine G_sipush (v := 137) dX0_init_158 (by decide) ?_
    refine G_iload_n dX0_init_161 rfl ?_
    refine G_iaddN (a := 137) (c := 1) (s := 138) dX0_init_162 (by omega) ?_
    refine G_bipush (v := 10) dX0_init_163 (by decide) ?_
    refine G_iconst (v := 2) dX0_init_165 (by decide) ?_
    refine G_iload_n dX0_init_166 rfl ?_
    refine G_imulN (a := 2) (c := 1) (s := 2) dX0_init_167 (by omega) ?_
    refine G_iaddN (a := 10) (c := 2) (s := 12) dX0_init_168 (by omega) ?_
    refine G_callVv dX0_init_169 kX0_init_X0_put ⟨rfl, rfl⟩ (by decide) (z_put hΩ (j := 138) (v := 12) (by omega)) rfl rfl ((hΩ _).1) rfl rfl ?_
    refine G_aload_n dX0_init_172 rfl ?_
    refine G_iload_n dX0_init_173 rfl ?_
    refine G_callVv dX0_init_174 kX0_init_X0_letRest ⟨rfl, rfl⟩ (by decide) (z_rest hΩ (c := 1) (by omega)) rfl rfl ((hΩ _).1) rfl rfl ?_
    refine G_iincN (a := 1) (s := 2) dX0_init_177 rfl (by omega) (L' := [some (.ref lp), some (.int 2), some (.int 4)]) rfl ?_
    refine G_goto 151 dX0_init_180 (by decide) ?_
    refine G_iload_n dX0_init_151 rfl ?_
    refine G_bipush (v := 6) dX0_init_152 (by decide) ?_
    refine G_icmp_geN (a := 2) (c := 6) 183 dX0_init_154 (by decide) (by omega) (fun c154 => (show False by omega).elim) (fun _ => ?_)
    refine G_aload_n dX0_init_157 rfl ?_
    refine G_sipush (v := 137) dX0_init_158 (by decide) ?_
    refine G_iload_n dX0_init_161 rfl ?_
    refine G_iaddN (a := 137) (c := 2) (s := 139) dX0_init_162 (by omega) ?_
    refine G_bipush (v := 10) dX0_init_163 (by decide) ?_
    refine G_iconst (v := 2) dX0_init_165 (by decide) ?_
    refine G_iload_n dX0_init_166 rfl ?_
    refine G_imulN (a := 2) (c := 2) (s := 4) dX0_init_167 (by omega) ?_
    refine G_iaddN (a := 10) (c := 4) (s := 14) dX0_init_168 (by omega) ?_
    refine G_callVv dX0_init_169 kX0_init_X0_put ⟨rfl, rfl⟩ (by decide) (z_put hΩ (j := 139) (v := 14) (by omega)) rfl rfl ((hΩ _).1) rfl rfl ?_
    refine G_aload_n dX0_init_172 rfl ?_
    refine G_iload_n dX0_init_173 rfl ?_
    refine G_callVv dX0_init_174 kX0_init_X0_letRest ⟨rfl, rfl⟩ (by decide) (z_rest hΩ (c := 2) (by omega)) rfl rfl ((hΩ _).1) rfl rfl ?_
    refine G_iincN (a := 2) (s := 3) dX0_init_177 rfl (by omega) (L' := [some (.ref lp), some (.int 3), some (.int 4)]) rfl ?_
    refine G_goto 151 dX0_init_180 (by decide) ?_
    refine G_iload_n dX0_init_151 rfl ?_
    refine G_bipush (v := 6) dX0_init_152 (by decide) ?_
    refine G_icmp_geN (a := 3) (c := 6) 183 dX0_init_154 (by decide) (by omega) (fun c154 => (show False by omega).elim) (fun _ => ?_)
    refine G_aload_n dX0_init_157 rfl ?_
    refine G_sipush (v := 137) dX0_init_158 (by decide) ?_
    refine G_iload_n dX0_init_161 rfl ?_
    refine G_iaddN (a := 137) (c := 3) (s := 140) dX0_init_162 (by omega) ?_
    refine G_bipush (v := 10) dX0_init_163 (by decide) ?_
    refine G_iconst (v := 2) dX0_init_165 (by decide) ?_
    refine G_iload_n dX0_init_166 rfl ?_
    refine G_imulN (a := 2) (c := 3) (s := 6) dX0_init_167 (by omega) ?_
    refine G_iaddN (a := 10) (c := 6) (s := 16) dX0_init_168 (by omega) ?_
    refine G_callVv dX0_init_169 kX0_init_X0_put ⟨rfl, rfl⟩ (by decide) (z_put hΩ (j := 140) (v := 16) (by omega)) rfl rfl ((hΩ _).1) rfl rfl ?_
    refine G_aload_n dX0_init_172 rfl ?_
    refine G_iload_n dX0_init_173 rfl ?_
    refine G_callVv dX0_init_174 kX0_init_X0_letRest ⟨rfl, rfl⟩ (by decide) (z_rest hΩ (c := 3) (by omega)) rfl rfl ((hΩ _).1) rfl rfl ?_
    refine G_iincN (a := 3) (s := 4) dX0_init_177 rfl (by omega) (L' := [some (.ref lp), some (.int 4), some (.int 4)]) rfl ?_
    refine G_goto 151 dX0_init_180 (by decide) ?_
    refine G_iload_n dX0_init_151 rfl ?_
    refine G_bipush (v := 6) dX0_init_152 (by decide) ?_
    refine G_icmp_geN (a := 4) (c := 6) 183 dX0_init_154 (by decide) (by omega) (fun c154 => (show False by omega).elim) (fun _ => ?_)
    refine G_aload_n dX0_init_157 rfl ?_
    refine G_sipush (v := 137) dX0_init_158 (by decide) ?_
    refine G_iload_n dX0_init_161 rfl ?_
    refine G_iaddN (a := 137) (c := 4) (s := 141) dX0_init_162 (by omega) ?_
    refine G_bipush (v := 10) dX0_init_163 (by decide) ?_
    refine G_iconst (v := 2) dX0_init_165 (by decide) ?_
    refine G_iload_n dX0_init_166 rfl ?_
    refine G_imulN (a := 2) (c := 4) (s := 8) dX0_init_167 (by omega) ?_
    refine G_iaddN (a := 10) (c := 8) (s := 18) dX0_init_168 (by omega) ?_
    refine G_callVv dX0_init_169 kX0_init_X0_put ⟨rfl, rfl⟩ (by decide) (z_put hΩ (j := 141) (v := 18) (by omega)) rfl rfl ((hΩ _).1) rfl rfl ?_
    refine G_aload_n dX0_init_172 rfl ?_
    refine G_iload_n dX0_init_173 rfl ?_
    refine G_callVv dX0_init_174 kX0_init_X0_letRest ⟨rfl, rfl⟩ (by decide) (z_rest hΩ (c := 4) (by omega)) rfl rfl ((hΩ _).1) rfl rfl ?_
    refine G_iincN (a := 4) (s := 5) dX0_init_177 rfl (by omega) (L' := [some (.ref lp), some (.int 5), some (.int 4)]) rfl ?_
    refine G_goto 151 dX0_init_180 (by decide) ?_
    refine G_iload_n dX0_init_151 rfl ?_
    refine G_bipush (v := 6) dX0_init_152 (by decide) ?_
    refine G_icmp_geN (a := 5) (c := 6) 183 dX0_init_154 (by decide) (by omega) (fun c154 => (show False by omega).elim) (fun _ => ?_)
    refine G_aload_n dX0_init_157 rfl ?_
    refine G_sipush (v := 137) dX0_init_158 (by decide) ?_
    refine G_iload_n dX0_init_161 rfl ?_
    refine G_iaddN (a := 137) (c := 5) (s := 142) dX0_init_162 (by omega) ?_
    refine G_bipush (v := 10) dX0_init_163 (by decide) ?_
    refine G_iconst (v := 2) dX0_init_165 (by decide) ?_
    refine G_iload_n dX0_init_166 rfl ?_
    refine G_imulN (a := 2) (c := 5) (s := 10) dX0_init_167 (by omega) ?_
    refine G_iaddN (a := 10) (c := 10) (s := 20) dX0_init_168 (by omega) ?_
    refine G_callVv dX0_init_169 kX0_init_X0_put ⟨rfl, rfl⟩ (by decide) (z_put hΩ (j := 142) (v := 20) (by omega)) rfl rfl ((hΩ _).1) rfl rfl ?_
    refine G_aload_n dX0_init_172 rfl ?_
    refine G_iload_n dX0_init_173 rfl ?_
    refine G_callVv dX0_init_174 kX0_init_X0_letRest ⟨rfl, rfl⟩ (by decide) (z_rest hΩ (c := 5) (by omega)) rfl rfl ((hΩ _).1) rfl rfl ?_
    refine G_iincN (a := 5) (s := 6) dX0_init_177 rfl (by omega) (L' := [some (.ref lp), some (.int 6), some (.int 4)]) rfl ?_
    refine G_goto 151 dX0_init_180 (by decide) ?_
    refine G_iload_n dX0_init_151 rfl ?_
    refine G_bipush (v := 6) dX0_init_152 (by decide) ?_
    refine G_icmp_geN (a := 6) (c := 6) 183 dX0_init_154 (by decide) (by omega) (fun _ => ?_) (fun c154 => (show False by omega).elim)
    refine G_aeq (f' := row (s_com s_f0) s_f0) (hΩ _).2.1 s_z0_row ((hΩ _).2.2 _) ?_
    exact G_vret dX0_init_183 (by decide) rfl
  refine mj_MC (cc := cX0_init) (nl := 3) (ret := none) (plainFor_of_name (by decide)) rfl rfl (Nat.le_of_ble_eq_true rfl) ?_
  rw [eΩ] at key
  exact key
theorem c_shelfInit6 {hp : Nat} {w : mj_W} (hw : mj_wfb w.length w = true) (h4 : w.length < 4000) (hhp : w[hp]? = some (.inr (1, [.null, .int 0, .int 0, .int 0]))) : MC l yX1_init wsX1_init rmI1 true [.ref hp, .int 6] w none ((w ++ [.inl (.int, (966, .inl (fun _ => 0)))] : mj_W).set hp (.inr (1, [.ref w.length, .int 6, .int 0, .int 0]))) := by
  have hl0 : hp < w.length := (List.getElem?_eq_some_iff.mp hhp).1
  have hwf : mj_wfb (w.set hp (.inr (1, [.null, .int 6, .int 0, .int 0]))).length (w.set hp (.inr (1, [.null, .int 6, .int 0, .int 0]))) = true := by
    rw [List.length_set]
    refine List.all_eq_true.mpr (fun x hx => ?_)
    rcases List.mem_or_eq_of_mem_set hx with h | h
    · exact List.all_eq_true.mp hw x h
    · subst h; rfl
  refine mj_MC (cc := cX1_init) (nl := 2) (ret := none) (plainFor_of_name (by decide)) rfl rfl (Nat.le_of_ble_eq_true rfl) ?_
  show GG l cX1_init MI1 true (.inl (none, (w ++ [.inl (.int, (966, .inl (fun _ => 0)))] : mj_W).set hp (.inr (1, [.ref w.length, .int 6, .int 0, .int 0])))) 0 [some (.ref hp), some (.int 6)] [] w 0 0
  refine G_aload_n dX1_init_0 rfl ?_
  refine G_objInit dX1_init_1 hoI1 (by decide) rfl ?_
  refine G_aload_n dX1_init_4 rfl ?_
  refine G_iconst (v := 1) dX1_init_5 (by decide) ?_
  refine G_iload_n dX1_init_6 rfl ?_
  refine G_bipush (v := 6) dX1_init_7 (by decide) ?_
  refine G_min dX1_init_9 kI1_min (by decide) (by decide) (Nat.le_of_ble_eq_true rfl) ?_
  refine G_max dX1_init_12 kI1_max (by decide) (by decide) (Nat.le_of_ble_eq_true rfl) ?_
  refine G_eqi (y := 6) (by decide) ?_
  refine G_putf dX1_init_15 pI1_18 hhp (fun _ => ⟨rfl, rfl⟩) (by simp) (w' := w.set hp (.inr (1, [.null, .int 6, .int 0, .int 0]))) rfl ?_
  refine G_aload_n dX1_init_18 rfl ?_
  refine G_aload_n dX1_init_19 rfl ?_
  refine G_getf dX1_init_20 fI1_18 (by rw [List.getElem?_set, if_pos rfl, if_pos hl0]) rfl ?_
  refine G_sipush (v := 161) dX1_init_23 (by decide) ?_
  refine G_imul dX1_init_26 ?_
  refine G_eqi (y := 966) (by decide) ?_
  refine G_newa (ty := .int) (a0 := (966, .inl (fun _ => 0))) dX1_init_27 rfl haI1 (fun _ => rfl) (by decide +kernel) rfl hwf (by rw [List.length_set]; exact h4) (by simp [mj_losb, mj_lob, hl0]) (by decide) ?_
  refine G_putf dX1_init_29 pI1_26 (fs := [.null, .int 6, .int 0, .int 0]) (by rw [List.getElem?_append_left (by rw [List.length_set]; exact hl0), List.getElem?_set, if_pos rfl, if_pos hl0]) (fun _ => ⟨rfl, rfl⟩) (by simp) rfl ?_
  refine G_vret dX1_init_32 (by decide) ?_
  refine congrArg (fun z => Sum.inl (none, z)) ?_
  rw [List.length_set, List.set_append_left _ _ hl0, List.set_append_left _ _ (by rw [List.length_set]; exact hl0), List.set_set] <;> rfl
theorem c_shelfInit1 {hp : Nat} {w : mj_W} (hw : mj_wfb w.length w = true) (h4 : w.length < 4000) (hhp : w[hp]? = some (.inr (1, [.null, .int 0, .int 0, .int 0]))) : MC l yX1_init wsX1_init rmI1 true [.ref hp, .int 1] w none ((w ++ [.inl (.int, (161, .inl (fun _ => 0)))] : mj_W).set hp (.inr (1, [.ref w.length, .int 1, .int 0, .int 0]))) := by
  have hl0 : hp < w.length := (List.getElem?_eq_some_iff.mp hhp).1
  have hwf : mj_wfb (w.set hp (.inr (1, [.null, .int 1, .int 0, .int 0]))).length (w.set hp (.inr (1, [.null, .int 1, .int 0, .int 0]))) = true := by
    rw [List.length_set]
    refine List.all_eq_true.mpr (fun x hx => ?_)
    rcases List.mem_or_eq_of_mem_set hx with h | h
    · exact List.all_eq_true.mp hw x h
    · subst h; rfl
  refine mj_MC (cc := cX1_init) (nl := 2) (ret := none) (plainFor_of_name (by decide)) rfl rfl (Nat.le_of_ble_eq_true rfl) ?_
  show GG l cX1_init MI1 true (.inl (none, (w ++ [.inl (.int, (161, .inl (fun _ => 0)))] : mj_W).set hp (.inr (1, [.ref w.length, .int 1, .int 0, .int 0])))) 0 [some (.ref hp), some (.int 1)] [] w 0 0
  refine G_aload_n dX1_init_0 rfl ?_
  refine G_objInit dX1_init_1 hoI1 (by decide) rfl ?_
  refine G_aload_n dX1_init_4 rfl ?_
  refine G_iconst (v := 1) dX1_init_5 (by decide) ?_
  refine G_iload_n dX1_init_6 rfl ?_
  refine G_bipush (v := 6) dX1_init_7 (by decide) ?_
  refine G_min dX1_init_9 kI1_min (by decide) (by decide) (Nat.le_of_ble_eq_true rfl) ?_
  refine G_max dX1_init_12 kI1_max (by decide) (by decide) (Nat.le_of_ble_eq_true rfl) ?_
  refine G_eqi (y := 1) (by decide) ?_
  refine G_putf dX1_init_15 pI1_18 hhp (fun _ => ⟨rfl, rfl⟩) (by simp) (w' := w.set hp (.inr (1, [.null, .int 1, .int 0, .int 0]))) rfl ?_
  refine G_aload_n dX1_init_18 rfl ?_
  refine G_aload_n dX1_init_19 rfl ?_
  refine G_getf dX1_init_20 fI1_18 (by rw [List.getElem?_set, if_pos rfl, if_pos hl0]) rfl ?_
  refine G_sipush (v := 161) dX1_init_23 (by decide) ?_
  refine G_imul dX1_init_26 ?_
  refine G_eqi (y := 161) (by decide) ?_
  refine G_newa (ty := .int) (a0 := (161, .inl (fun _ => 0))) dX1_init_27 rfl haI1 (fun _ => rfl) (by decide +kernel) rfl hwf (by rw [List.length_set]; exact h4) (by simp [mj_losb, mj_lob, hl0]) (by decide) ?_
  refine G_putf dX1_init_29 pI1_26 (fs := [.null, .int 1, .int 0, .int 0]) (by rw [List.getElem?_append_left (by rw [List.length_set]; exact hl0), List.getElem?_set, if_pos rfl, if_pos hl0]) (fun _ => ⟨rfl, rfl⟩) (by simp) rfl ?_
  refine G_vret dX1_init_32 (by decide) ?_
  refine congrArg (fun z => Sum.inl (none, z)) ?_
  rw [List.length_set, List.set_append_left _ _ hl0, List.set_append_left _ _ (by rw [List.length_set]; exact hl0), List.set_set] <;> rfl
theorem c_textInit {tp : Nat} {w : mj_W} (hw : mj_wfb w.length w = true) (h4 : w.length < 4000) (htp : w[tp]? = some (.inr (2, [.null, .int 0]))) : MC l yX2_init wsX2_init rmI2 true [.ref tp] w none ((w ++ [.inl (.char, (60, .inl (fun _ => 0)))] : mj_W).set tp (.inr (2, [.ref w.length, .int 0]))) := by
  have hl0 : tp < w.length := (List.getElem?_eq_some_iff.mp htp).1
  refine mj_MC (cc := cX2_init) (nl := 1) (ret := none) (plainFor_of_name (by decide)) rfl rfl (Nat.le_of_ble_eq_true rfl) ?_
  show GG l cX2_init MI2 true (.inl (none, (w ++ [.inl (.char, (60, .inl (fun _ => 0)))] : mj_W).set tp (.inr (2, [.ref w.length, .int 0])))) 0 [some (.ref tp)] [] w 0 0
  refine G_aload_n dX2_init_0 rfl ?_
  refine G_objInit dX2_init_1 hoI2 (by decide) rfl ?_
  refine G_aload_n dX2_init_4 rfl ?_
  refine G_bipush (v := 60) dX2_init_5 (by decide) ?_
  refine G_newa (ty := .char) (a0 := (60, .inl (fun _ => 0))) dX2_init_7 rfl haI2 (fun _ => rfl) (by decide +kernel) rfl hw h4 (by simp [mj_losb, mj_lob, hl0]) (by decide) ?_
  refine G_putf dX2_init_9 pI2_9 (fs := [.null, .int 0]) (by rw [List.getElem?_append_left hl0]; exact htp) (fun _ => ⟨rfl, rfl⟩) (by simp) rfl ?_
  exact G_vret dX2_init_12 (by decide) rfl
theorem x_init : MCE l yX3_init wsX3_init rmI3 exT true [.ref 0] [.inr (3, [.null, .null, .null, .null, .null])] none [.inr (3, [.ref 1, .ref 3, .ref 5, .ref 7, .ref 9]), .inr (0, [.ref 2]), .inl (.int, (161, .inl (row (s_com s_f0) s_f0))), .inr (0, [.ref 4]), .inl (.int, (161, .inl (row (s_com s_f0) s_f0))), .inr (1, [.ref 6, .int 6, .int 0, .int 0]), .inl (.int, (966, .inl (fun _ => 0))), .inr (1, [.ref 8, .int 1, .int 0, .int 0]), .inl (.int, (161, .inl (fun _ => 0))), .inr (2, [.ref 10, .int 0]), .inl (.char, (60, .inl (fun _ => 0)))] := by
  refine mj_MCE (cc := cX3_init) (nl := 1) (ret := none) (fun q hq => by rw [List.mem_singleton.mp hq]; exact mj_vmw_t rfl) (plainFor_of_name (by decide)) rfl rfl (Nat.le_of_ble_eq_true rfl) ?_
  show GG l cX3_init MI3 true (.inl (none, [.inr (3, [.ref 1, .ref 3, .ref 5, .ref 7, .ref 9]), .inr (0, [.ref 2]), .inl (.int, (161, .inl (row (s_com s_f0) s_f0))), .inr (0, [.ref 4]), .inl (.int, (161, .inl (row (s_com s_f0) s_f0))), .inr (1, [.ref 6, .int 6, .int 0, .int 0]), .inl (.int, (966, .inl (fun _ => 0))), .inr (1, [.ref 8, .int 1, .int 0, .int 0]), .inl (.int, (161, .inl (fun _ => 0))), .inr (2, [.ref 10, .int 0]), .inl (.char, (60, .inl (fun _ => 0)))])) 0 [some (.ref 0)] [] [.inr (3, [.null, .null, .null, .null, .null])] 0 0
  refine G_aload_n dX3_init_0 rfl ?_
  refine G_objInit dX3_init_1 hoI3 (by decide) rfl ?_
  refine G_aload_n dX3_init_4 rfl ?_
  refine G_newK 1 (w' := [.inr (3, [.null, .null, .null, .null, .null]), .inr (0, [.null])]) dX3_init_5 (ci := 0) rfl uI3_0 tyX0_ok nI3_9 bornX0 rfl rfl rfl rfl rfl (by decide) rfl ?_
  refine G_dup dX3_init_8 rfl ?_
  refine G_callI (w1 := [.inr (3, [.null, .null, .null, .null, .null]), .inr (0, [.ref 2]), .inl (.int, (161, .inl (row (s_com s_f0) s_f0)))]) dX3_init_9 kI3_X0 (by decide) (c_landInit (lp := 1) (w := [.inr (3, [.null, .null, .null, .null, .null]), .inr (0, [.null])]) rfl (by decide) rfl) rfl rfl rfl rfl ?_
  refine G_putf (w' := [.inr (3, [.ref 1, .null, .null, .null, .null]), .inr (0, [.ref 2]), .inl (.int, (161, .inl (row (s_com s_f0) s_f0)))]) dX3_init_12 pI3_12 rfl (fun _ => ⟨rfl, rfl⟩) (by simp) rfl ?_
  refine G_aload_n dX3_init_15 rfl ?_
  refine G_newK 3 (w' := [.inr (3, [.ref 1, .null, .null, .null, .null]), .inr (0, [.ref 2]), .inl (.int, (161, .inl (row (s_com s_f0) s_f0))), .inr (0, [.null])]) dX3_init_16 (ci := 0) rfl uI3_0 tyX0_ok nI3_9 bornX0 rfl rfl rfl rfl rfl (by decide) rfl ?_
  refine G_dup dX3_init_19 rfl ?_
  refine G_callI (w1 := [.inr (3, [.ref 1, .null, .null, .null, .null]), .inr (0, [.ref 2]), .inl (.int, (161, .inl (row (s_com s_f0) s_f0))), .inr (0, [.ref 4]), .inl (.int, (161, .inl (row (s_com s_f0) s_f0)))]) dX3_init_20 kI3_X0 (by decide) (c_landInit (lp := 3) (w := [.inr (3, [.ref 1, .null, .null, .null, .null]), .inr (0, [.ref 2]), .inl (.int, (161, .inl (row (s_com s_f0) s_f0))), .inr (0, [.null])]) rfl (by decide) rfl) rfl rfl rfl rfl ?_
  refine G_putf (w' := [.inr (3, [.ref 1, .ref 3, .null, .null, .null]), .inr (0, [.ref 2]), .inl (.int, (161, .inl (row (s_com s_f0) s_f0))), .inr (0, [.ref 4]), .inl (.int, (161, .inl (row (s_com s_f0) s_f0)))]) dX3_init_23 pI3_16 rfl (fun _ => ⟨rfl, rfl⟩) (by simp) rfl ?_
  refine G_aload_n dX3_init_26 rfl ?_
  refine G_newK 5 (w' := [.inr (3, [.ref 1, .ref 3, .null, .null, .null]), .inr (0, [.ref 2]), .inl (.int, (161, .inl (row (s_com s_f0) s_f0))), .inr (0, [.ref 4]), .inl (.int, (161, .inl (row (s_com s_f0) s_f0))), .inr (1, [.null, .int 0, .int 0, .int 0])]) dX3_init_27 (ci := 1) rfl uI3_1 tyX1_ok nI3_19 bornX1 rfl rfl rfl rfl rfl (by decide) rfl ?_
  refine G_dup dX3_init_30 rfl ?_
  refine G_bipush (v := 6) dX3_init_31 (by decide) ?_
  refine G_callI (w1 := [.inr (3, [.ref 1, .ref 3, .null, .null, .null]), .inr (0, [.ref 2]), .inl (.int, (161, .inl (row (s_com s_f0) s_f0))), .inr (0, [.ref 4]), .inl (.int, (161, .inl (row (s_com s_f0) s_f0))), .inr (1, [.ref 6, .int 6, .int 0, .int 0]), .inl (.int, (966, .inl (fun _ => 0)))]) dX3_init_33 kI3_X1 (by decide) (c_shelfInit6 (hp := 5) (w := [.inr (3, [.ref 1, .ref 3, .null, .null, .null]), .inr (0, [.ref 2]), .inl (.int, (161, .inl (row (s_com s_f0) s_f0))), .inr (0, [.ref 4]), .inl (.int, (161, .inl (row (s_com s_f0) s_f0))), .inr (1, [.null, .int 0, .int 0, .int 0])]) rfl (by decide) rfl) rfl rfl rfl rfl ?_
  refine G_putf (w' := [.inr (3, [.ref 1, .ref 3, .ref 5, .null, .null]), .inr (0, [.ref 2]), .inl (.int, (161, .inl (row (s_com s_f0) s_f0))), .inr (0, [.ref 4]), .inl (.int, (161, .inl (row (s_com s_f0) s_f0))), .inr (1, [.ref 6, .int 6, .int 0, .int 0]), .inl (.int, (966, .inl (fun _ => 0)))]) dX3_init_36 pI3_24 rfl (fun _ => ⟨rfl, rfl⟩) (by simp) rfl ?_
  refine G_aload_n dX3_init_39 rfl ?_
  refine G_newK 7 (w' := [.inr (3, [.ref 1, .ref 3, .ref 5, .null, .null]), .inr (0, [.ref 2]), .inl (.int, (161, .inl (row (s_com s_f0) s_f0))), .inr (0, [.ref 4]), .inl (.int, (161, .inl (row (s_com s_f0) s_f0))), .inr (1, [.ref 6, .int 6, .int 0, .int 0]), .inl (.int, (966, .inl (fun _ => 0))), .inr (1, [.null, .int 0, .int 0, .int 0])]) dX3_init_40 (ci := 1) rfl uI3_1 tyX1_ok nI3_19 bornX1 rfl rfl rfl rfl rfl (by decide) rfl ?_
  refine G_dup dX3_init_43 rfl ?_
  refine G_iconst (v := 1) dX3_init_44 (by decide) ?_
  refine G_callI (w1 := [.inr (3, [.ref 1, .ref 3, .ref 5, .null, .null]), .inr (0, [.ref 2]), .inl (.int, (161, .inl (row (s_com s_f0) s_f0))), .inr (0, [.ref 4]), .inl (.int, (161, .inl (row (s_com s_f0) s_f0))), .inr (1, [.ref 6, .int 6, .int 0, .int 0]), .inl (.int, (966, .inl (fun _ => 0))), .inr (1, [.ref 8, .int 1, .int 0, .int 0]), .inl (.int, (161, .inl (fun _ => 0)))]) dX3_init_45 kI3_X1 (by decide) (c_shelfInit1 (hp := 7) (w := [.inr (3, [.ref 1, .ref 3, .ref 5, .null, .null]), .inr (0, [.ref 2]), .inl (.int, (161, .inl (row (s_com s_f0) s_f0))), .inr (0, [.ref 4]), .inl (.int, (161, .inl (row (s_com s_f0) s_f0))), .inr (1, [.ref 6, .int 6, .int 0, .int 0]), .inl (.int, (966, .inl (fun _ => 0))), .inr (1, [.null, .int 0, .int 0, .int 0])]) rfl (by decide) rfl) rfl rfl rfl rfl ?_
  refine G_putf (w' := [.inr (3, [.ref 1, .ref 3, .ref 5, .ref 7, .null]), .inr (0, [.ref 2]), .inl (.int, (161, .inl (row (s_com s_f0) s_f0))), .inr (0, [.ref 4]), .inl (.int, (161, .inl (row (s_com s_f0) s_f0))), .inr (1, [.ref 6, .int 6, .int 0, .int 0]), .inl (.int, (966, .inl (fun _ => 0))), .inr (1, [.ref 8, .int 1, .int 0, .int 0]), .inl (.int, (161, .inl (fun _ => 0)))]) dX3_init_48 pI3_28 rfl (fun _ => ⟨rfl, rfl⟩) (by simp) rfl ?_
  refine G_aload_n dX3_init_51 rfl ?_
  refine G_newK 9 (w' := [.inr (3, [.ref 1, .ref 3, .ref 5, .ref 7, .null]), .inr (0, [.ref 2]), .inl (.int, (161, .inl (row (s_com s_f0) s_f0))), .inr (0, [.ref 4]), .inl (.int, (161, .inl (row (s_com s_f0) s_f0))), .inr (1, [.ref 6, .int 6, .int 0, .int 0]), .inl (.int, (966, .inl (fun _ => 0))), .inr (1, [.ref 8, .int 1, .int 0, .int 0]), .inl (.int, (161, .inl (fun _ => 0))), .inr (2, [.null, .int 0])]) dX3_init_52 (ci := 2) rfl uI3_2 tyX2_ok nI3_31 bornX2 rfl rfl rfl rfl rfl (by decide) rfl ?_
  refine G_dup dX3_init_55 rfl ?_
  refine G_callN (w1 := [.inr (3, [.ref 1, .ref 3, .ref 5, .ref 7, .null]), .inr (0, [.ref 2]), .inl (.int, (161, .inl (row (s_com s_f0) s_f0))), .inr (0, [.ref 4]), .inl (.int, (161, .inl (row (s_com s_f0) s_f0))), .inr (1, [.ref 6, .int 6, .int 0, .int 0]), .inl (.int, (966, .inl (fun _ => 0))), .inr (1, [.ref 8, .int 1, .int 0, .int 0]), .inl (.int, (161, .inl (fun _ => 0))), .inr (2, [.ref 10, .int 0]), .inl (.char, (60, .inl (fun _ => 0)))]) dX3_init_56 kI3_X2 (by decide) (c_textInit (tp := 9) (w := [.inr (3, [.ref 1, .ref 3, .ref 5, .ref 7, .null]), .inr (0, [.ref 2]), .inl (.int, (161, .inl (row (s_com s_f0) s_f0))), .inr (0, [.ref 4]), .inl (.int, (161, .inl (row (s_com s_f0) s_f0))), .inr (1, [.ref 6, .int 6, .int 0, .int 0]), .inl (.int, (966, .inl (fun _ => 0))), .inr (1, [.ref 8, .int 1, .int 0, .int 0]), .inl (.int, (161, .inl (fun _ => 0))), .inr (2, [.null, .int 0])]) rfl (by decide) rfl) rfl rfl rfl rfl ?_
  refine G_putf (w' := [.inr (3, [.ref 1, .ref 3, .ref 5, .ref 7, .ref 9]), .inr (0, [.ref 2]), .inl (.int, (161, .inl (row (s_com s_f0) s_f0))), .inr (0, [.ref 4]), .inl (.int, (161, .inl (row (s_com s_f0) s_f0))), .inr (1, [.ref 6, .int 6, .int 0, .int 0]), .inl (.int, (966, .inl (fun _ => 0))), .inr (1, [.ref 8, .int 1, .int 0, .int 0]), .inl (.int, (161, .inl (fun _ => 0))), .inr (2, [.ref 10, .int 0]), .inl (.char, (60, .inl (fun _ => 0)))]) dX3_init_59 pI3_34 rfl (fun _ => ⟨rfl, rfl⟩) (by simp) rfl ?_
  exact G_vret dX3_init_62 (by decide) rfl
section IE
variable {wx : mj_W}
def wxok (wx : mj_W) : Prop := wx.length = 11 ∧ mj_wfb 11 wx = true
theorem wx_get (h : wxok wx) (t : mj_W) (i : Nat) : (wx ++ t)[11 + i]? = t[i]? := by rw [List.getElem?_append_right (by rw [h.1]; omega), h.1]; congr 1; omega
theorem wx_set (h : wxok wx) (t : mj_W) (i : Nat) (c : mj_C) : (wx ++ t).set (11 + i) c = wx ++ t.set i c := by rw [List.set_append_right _ _ (by rw [h.1]; omega), h.1]; congr 2; omega
theorem wx_len (h : wxok wx) (t : mj_W) : (wx ++ t).length = 11 + t.length := by rw [List.length_append, h.1]
theorem wfb_mono {n m : Nat} (hnm : n ≤ m) {w : mj_W} (h : mj_wfb n w = true) : mj_wfb m w = true := by
  refine List.all_eq_true.mpr (fun x hx => ?_)
  have h1 := List.all_eq_true.mp h x hx
  cases x with
  | inl a => rfl
  | inr o =>
    refine List.all_eq_true.mpr (fun v hv => ?_)
    have h2 := List.all_eq_true.mp h1 v hv
    cases v with
    | ref k =>
      simp only [mj_lob, Bool.or_eq_true, decide_eq_true_eq] at h2 ⊢
      exact h2.imp (fun z => Nat.lt_of_lt_of_le z hnm) id
    | _ => rfl
theorem wx_wf (h : wxok wx) {K : Nat} (hK : 11 ≤ K) {t : mj_W} (ht : mj_wfb K t = true) : mj_wfb K (wx ++ t) = true := by
  have h1 := wfb_mono hK h.2
  unfold mj_wfb at h1 ht ⊢
  rw [List.all_append, h1, ht]
  rfl
end IE
end ID

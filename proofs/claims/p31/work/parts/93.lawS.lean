/-! LAW: what holds at its start -/
def wx0 : mj_W := [.inr (3, [.ref 1, .ref 3, .ref 5, .ref 7, .ref 9]), .inr (0, [.ref 2]), .inl (.int, (161, .inl (row (s_com s_f0) s_f0))), .inr (0, [.ref 4]), .inl (.int, (161, .inl (row (s_com s_f0) s_f0))), .inr (1, [.ref 6, .int 6, .int 0, .int 0]), .inl (.int, (966, .inl (fun _ => 0))), .inr (1, [.ref 8, .int 1, .int 0, .int 0]), .inl (.int, (161, .inl (fun _ => 0))), .inr (2, [.ref 10, .int 0]), .inl (.char, (60, .inl (fun _ => 0)))]
theorem aQ_0 : aQ (fun _ => 0) = fun _ => 0 := funext fun j => by unfold aQ; split <;> rfl
theorem aH_0 : aH (fun _ => 0) = fun _ => 0 := funext fun j => by unfold aH; split <;> rfl
theorem aB_0 (b : Nat) : aB b (fun _ => 0) = fun _ => 0 := funext fun j => by unfold aB; split <;> rfl
theorem aC_0 : aC (fun _ => 0) = fun _ => 0 := funext fun j => by unfold aC; split <;> rfl
abbrev iz (n : Nat) : mj_C := .inl (.int, (n, .inl (fun _ => 0)))
theorem SW_0 : wx0 ++ [iz 13, iz 40, iz 20, iz 20, iz 20, iz 20, iz 24] = SW s_f0 (fun _ => 0) 0 0 (fun _ => 0) := by
  unfold SW LWW
  rw [aQ_0, aH_0, aB_0, aB_0, aB_0, aB_0, aC_0]
  rfl
theorem SW_ext (f R : mj_S) (T m : Nat) : ∀ g h : mj_S, (∀ k, k < 157 → g k = h k) → (fun h => SW f R T m h) g = (fun h => SW f R T m h) h := fun g h e => lwW_eq (A := hdA (row (s_com f) f) (row (s_com s_f0) s_f0) R T m (fun _ => 0) 0 0 (fun _ => 0) 0) e
theorem f0_ok : okS s_f0 0 := by
  refine ⟨0, Nat.le_refl _, ⟨by decide +kernel, Or.inl (by decide +kernel), ⟨3, by decide, by decide +kernel⟩, ⟨10, by decide, by decide +kernel⟩, ⟨8, by decide, by decide +kernel⟩, fun h hh => (by decide +kernel : ∀ h, h < 5 → s_f0 (5 + h) = 0 ∨ s_f0 (5 + h) = 1) h hh, fun b hb => ⟨40, by decide, (by decide +kernel : ∀ b, b < 4 → s_f0 (49 + b) = nI 40) b hb⟩, fun c hc => ⟨10 + 2 * c, by omega, (by decide +kernel : ∀ c, c < 6 → s_f0 (133 + c) = nI (10 + 2 * c)) c hc⟩, fun c hc => Or.inl ((by decide +kernel : ∀ c, c < 6 → s_f0 (139 + c) = -1 ∧ s_f0 (145 + c) = -1) c hc)⟩, fun q hq => ⟨0, 0, 0, 2000, (by decide +kernel : ∀ q, q < 20 → s_f0 (73 + q) = nI 0) q hq, (by decide +kernel : ∀ q, q < 20 → s_f0 (93 + q) = nI 0) q hq, (by decide +kernel : ∀ q, q < 20 → s_f0 (113 + q) = nI 0) q hq, (by decide +kernel : ∀ q, q < 20 → s_f0 (45 + q % 4) = nI 2000) q hq, by decide⟩⟩
theorem f0_okM : okM s_f0 (60 * 0) := by
  refine ⟨⟨f0_ok, fun k hk => ⟨300, by omega, (by decide +kernel : ∀ k, k < 5 → s_f0 (10 + k) = nI 300) k hk⟩, fun k hk => ⟨0, Nat.zero_le _, (by decide +kernel : ∀ k, k < 5 → s_f0 (15 + k) = nI 0) k hk⟩, by decide +kernel, (by decide +kernel : ∀ k, k < 5 → bal s_f0 k = 0)⟩, fun b hb => ⟨fun h => if (b + 4 * h) % 5 = 0 ∨ h = 4 then 0 else 3, fun h hh => (by decide +kernel : ∀ b, b < 4 → ∀ h, h < 5 → s_f0 (53 + b + 4 * h) = nI (if (b + 4 * h) % 5 = 0 ∨ h = 4 then 0 else 3)) b hb h hh, (by decide +kernel : ∀ b, b < 4 → (if (b + 4 * 0) % 5 = 0 ∨ 0 = 4 then 0 else 3) + (if (b + 4 * 1) % 5 = 0 ∨ 1 = 4 then 0 else 3) + (if (b + 4 * 2) % 5 = 0 ∨ 2 = 4 then 0 else 3) + (if (b + 4 * 3) % 5 = 0 ∨ 3 = 4 then 0 else 3) + (if (b + 4 * 4) % 5 = 0 ∨ 4 = 4 then 0 else 3) ≤ 12) b hb⟩⟩
theorem bornX3 : ∀ j, j < 5 → defaultValue (tyX3 j) = vp_V [.null, .null, .null, .null, .null] j := fun j hj => by rcases (show j = 0 ∨ j = 1 ∨ j = 2 ∨ j = 3 ∨ j = 4 by omega) with rfl | rfl | rfl | rfl | rfl <;> rfl
theorem exT_vm : ∀ q ∈ exT, mj_vmw q := fun q hq => by rw [List.mem_singleton.mp hq]; exact mj_vmw_t rfl
theorem nLw_11 : Cond.classLink ML_law.1 11 RX3 ∈ ML_law.2.2.1 ∧ Cond.instantiable RX3 5 ∈ ML_law.2.2.1 ∧ Cond.initialized RX3 ∈ ML_law.2.2.1 := by decide +kernel
theorem haLw : Cond.arrayClass (newarray.typeOf .int) ∈ ML_law.2.2.1 := by decide +kernel
theorem thN_in : ∀ w ∈ thN, w ∈ lw_tbl := by decide +kernel
theorem law_ctN {b : Nat} {s : State} (hts : ∀ w ∈ lw_tbl, w.before #[Value.ref b] s = true) (hgv : (Jvm.Cond.and given_1 narrow_1).before #[Value.ref b] s = true) : ∀ U : State, s.WarmedH U.vm → ∀ q ∈ ctN, q.before #[] U = true := by
  have hs := flat_of_before _ hgv
  intro U hW
  refine List.forall_mem_cons.mpr ⟨?_, List.forall_mem_cons.mpr ⟨?_, List.forall_mem_cons.mpr ⟨?_, List.forall_mem_cons.mpr ⟨?_, List.forall_mem_cons.mpr ⟨?_, List.forall_mem_cons.mpr ⟨?_, fun _ h => absurd h List.not_mem_nil⟩⟩⟩⟩⟩⟩
  · exact va_Nw.warmC hW (va_Nw.of rfl (hts (.castable xIO xIO) (by decide +kernel)))
  · exact va_Nw.warmC hW (va_Nw.of rfl (hts (.castable xIA xIA) (by decide +kernel)))
  · exact va_Nw.warmC hW (va_Nw.of rfl (hts (.castable xIS xIS) (by decide +kernel)))
  · exact mj_nc_word ((va_Nc.of (hs (.not (.castable xIA xIO)) (by decide +kernel))).moved hW.alike)
  · exact mj_nc_word ((va_Nc.of (hs (.not (.castable xIS xIO)) (by decide +kernel))).moved hW.alike)
  · exact mj_nc_word ((va_Nc.of (hs (.not (.castable xIS xIA)) (by decide +kernel))).moved hW.alike)
theorem law_exT {b : Nat} {s : State} (hts : ∀ w ∈ lw_tbl, w.before #[Value.ref b] s = true) : ∀ U : State, s.WarmedH U.vm → ∀ q ∈ exT, q.before #[] U = true := by
  intro U hW q hq
  rw [List.mem_singleton.mp hq]
  exact va_Nw.warmM hW (va_Nw.of rfl (hts (.methodLinkNest RX3 33 yX2_init RX3) (by decide +kernel)))
theorem law_str {b k : Nat} {s : State} {tx : String} (h1 : (Cond.stringRef RX3 k tx).before #[Value.ref b] s = true) (h2 : (Cond.exactly (.string RX3 k) "java/lang/String").before #[Value.ref b] s = true) : ∃ a, vk_R RX3 k tx a s := by
  obtain ⟨a, c, cA, kA, q1, -⟩ := Cond.exactly_spec (args := #[Value.ref b]) (first := s) (o := none) (s := s) (idx := []) (t := .string RX3 k) (cls := "java/lang/String") h2
  exact ⟨a, vk_R.of h1 q1⟩
theorem law_X {b : Nat} {s : State} (hts : ∀ w ∈ lw_tbl, w.before #[Value.ref b] s = true) (hgv : (Jvm.Cond.and given_1 narrow_1).before #[Value.ref b] s = true) : mj_X (fun q : Nat => s.heap.size ≤ q) s s.heap := by
  have hs := flat_of_before _ hgv
  have hA : ∀ a : Nat, a < s.heap.size → ¬ (fun q : Nat => s.heap.size ≤ q) a := fun a h => Nat.not_le.mpr h
  obtain ⟨t1, e1, T1⟩ := va_Tof (N := 3) (tm := .static RX3 "LOWEST_SETTING" "[I") (ty := .int) (f := fun j => .int (if j = 2 then 1 else 0)) (A := fun q : Nat => s.heap.size ≤ q) (by decide) (hs (.arrayOf (.static RX3 "LOWEST_SETTING" "[I") .int) (by decide +kernel)) (va_eqt (hs (.eq (.length (.static RX3 "LOWEST_SETTING" "[I")) (.int 3)) (by decide +kernel))) (fun j hj => by
    rcases (show j = 0 ∨ j = 1 ∨ j = 2 by omega) with rfl | rfl | rfl
    · exact va_eqt (hs (.eq (.elem (.static RX3 "LOWEST_SETTING" "[I") (.int 0)) (.int 0)) (by decide +kernel))
    · exact va_eqt (hs (.eq (.elem (.static RX3 "LOWEST_SETTING" "[I") (.int 1)) (.int 0)) (by decide +kernel))
    · exact va_eqt (hs (.eq (.elem (.static RX3 "LOWEST_SETTING" "[I") (.int 2)) (.int 1)) (by decide +kernel))) hA
  obtain ⟨t2, e2, T2⟩ := va_Tof (N := 3) (tm := .static RX3 "HIGHEST_SETTING" "[I") (ty := .int) (f := fun j => .int (if j = 0 then 9 else if j = 1 then 50 else 30)) (A := fun q : Nat => s.heap.size ≤ q) (by decide) (hs (.arrayOf (.static RX3 "HIGHEST_SETTING" "[I") .int) (by decide +kernel)) (va_eqt (hs (.eq (.length (.static RX3 "HIGHEST_SETTING" "[I")) (.int 3)) (by decide +kernel))) (fun j hj => by
    rcases (show j = 0 ∨ j = 1 ∨ j = 2 by omega) with rfl | rfl | rfl
    · exact va_eqt (hs (.eq (.elem (.static RX3 "HIGHEST_SETTING" "[I") (.int 0)) (.int 9)) (by decide +kernel))
    · exact va_eqt (hs (.eq (.elem (.static RX3 "HIGHEST_SETTING" "[I") (.int 1)) (.int 50)) (by decide +kernel))
    · exact va_eqt (hs (.eq (.elem (.static RX3 "HIGHEST_SETTING" "[I") (.int 2)) (.int 30)) (by decide +kernel))) hA
  refine ⟨vx_Zqof (hts (.laysStatic Bundle.tN "UNASSIGNED_STACK" Bundle.steD) (by decide +kernel)) (hts (.initialized Bundle.tN) (by decide +kernel)) (hs (.isRef (.static Bundle.tN "UNASSIGNED_STACK" Bundle.steD)) (by decide +kernel)) hA, vx_Zqof (hts (.laysStatic Bundle.tN "SUPPRESSED_SENTINEL" Bundle.listD) (by decide +kernel)) (hts (.initialized Bundle.tN) (by decide +kernel)) (hs (.isRef (.static Bundle.tN "SUPPRESSED_SENTINEL" Bundle.listD)) (by decide +kernel)) hA, fun w hw => va_any (List.all_eq_true.mp thN_ot w hw) (hts w (thN_in w hw)), ?_, ?_, ?_, t1, t2, ?_, T1, ?_, T2⟩
  · exact law_str (hts (.stringRef RX3 226 "there is no such number") (by decide +kernel)) (hs (.exactly (.string RX3 226) "java/lang/String") (by decide +kernel))
  · exact law_str (hts (.stringRef RX3 233 "the argument is not right") (by decide +kernel)) (hs (.exactly (.string RX3 233) "java/lang/String") (by decide +kernel))
  · exact law_str (hts (.stringRef RX3 238 "that is not possible now") (by decide +kernel)) (hs (.exactly (.string RX3 238) "java/lang/String") (by decide +kernel))
  · exact va_Zref (hts (.laysStatic RX3 "LOWEST_SETTING" "[I") (by decide +kernel)) (hts (.initialized RX3) (by decide +kernel)) e1 hA
  · exact va_Zref (hts (.laysStatic RX3 "HIGHEST_SETTING" "[I") (by decide +kernel)) (hts (.initialized RX3) (by decide +kernel)) e2 hA
theorem law_K {b : Nat} {s : State} (hts : ∀ w ∈ lw_tbl, w.before #[Value.ref b] s = true) : ∃ D : va_G, va_K D vwCl [] s := by
  obtain ⟨c0, i0, h0⟩ := u_known (C := RX0) (T := TX0) (N := 1) (n := 1) hts wsL_law_w0 (hts (.instantiable RX0 1) (by decide +kernel))
  obtain ⟨c1, i1, h1⟩ := u_known (C := RX1) (T := TX1) (N := 4) (n := 4) hts wsL_law_w1 (hts (.instantiable RX1 4) (by decide +kernel))
  obtain ⟨c2, i2, h2⟩ := u_known (C := RX2) (T := TX2) (N := 2) (n := 2) hts wsL_law_w2 (hts (.instantiable RX2 2) (by decide +kernel))
  obtain ⟨c3, i3, h3⟩ := u_known (C := RX3) (T := TX3) (N := 5) (n := 5) hts wsL_law_w3 (hts (.instantiable RX3 5) (by decide +kernel))
  refine ⟨(fun k => if k = 0 then c0 else if k = 1 then c1 else if k = 2 then c2 else c3, fun k => if k = 0 then i0 else if k = 1 then i1 else if k = 2 then i2 else i3), fun k q hq => ?_, fun k q hq => by cases hq⟩
  match k, hq with
  | 0, hq => cases hq; exact h0
  | 1, hq => cases hq; exact h1
  | 2, hq => cases hq; exact h2
  | 3, hq => cases hq; exact h3
  | k + 4, hq => cases hq
theorem law_begin {p : Program} {l : Launch} {e : Env} {s : State} {m : MethodId} {args : Array Value} {below : List Frame} {meth : Method} {c : Code} {Q : State → Prop} {D : va_G} {A : Nat → Prop} {ad0 : Nat → Nat} {a Ls : Nat} {xs : Nat → Int32} (C : LC p l s m args meth c D A ad0 a Ls xs) (hT : ∀ U : State, s.WarmedH U.vm → ∀ q ∈ exT, q.before #[] U = true) (E : ∀ (L : mj_L) (w : mj_W) (k n : Nat), k ≤ 600104 → n ≤ 7301314 → GT p l e s m args below meth c Q D A ad0 0 ML_law 641 L [.int 1] w k n) : GT p l e s m args below meth c Q D A ad0 0 ML_law 0 [some (.ref 4000), none, none, none, none, none, none, none, none, none, none, none, none, none, none, none, none, none, none, none] [] [] 0 0 := by
  obtain ⟨F, hE, hX, hbl, hbA, hb0, hLs, hl⟩ := id C
  refine T_newK F 0 (w' := [.inr (3, [.null, .null, .null, .null, .null])]) dL_law_0 (ci := 3) rfl inlX3 tyX3_ok nLw_11 bornX3 rfl rfl rfl rfl rfl (by decide) rfl ?_
  refine T_dup F dL_law_3 rfl ?_
  refine T_callIE F (w1 := wx0) hT exT_vm dL_law_4 kLw_X3_init (by decide) x_init rfl rfl rfl rfl ?_
  refine T_astore_n F dL_law_7 rfl (L' := [some (.ref 4000), some (.ref 0), none, none, none, none, none, none, none, none, none, none, none, none, none, none, none, none, none, none]) rfl ?_
  refine T_bipush F (v := 13) dL_law_8 (by decide) ?_
  refine T_newaK F 11 (w' := wx0 ++ [iz 13]) (ty := .int) (a0 := (13, .inl (fun _ => 0))) dL_law_10 rfl haLw (fun _ => rfl) (by decide +kernel) rfl rfl rfl (by decide) rfl (by decide) rfl ?_
  refine T_astore_n F dL_law_12 rfl (L' := [some (.ref 4000), some (.ref 0), some (.ref 11), none, none, none, none, none, none, none, none, none, none, none, none, none, none, none, none, none]) rfl ?_
  refine T_bipush F (v := 40) dL_law_13 (by decide) ?_
  refine T_newaK F 12 (w' := wx0 ++ [iz 13, iz 40]) (ty := .int) (a0 := (40, .inl (fun _ => 0))) dL_law_15 rfl haLw (fun _ => rfl) (by decide +kernel) rfl rfl rfl (by decide) rfl (by decide) rfl ?_
  refine T_astore_n F dL_law_17 rfl (L' := [some (.ref 4000), some (.ref 0), some (.ref 11), some (.ref 12), none, none, none, none, none, none, none, none, none, none, none, none, none, none, none, none]) rfl ?_
  refine T_bipush F (v := 20) dL_law_18 (by decide) ?_
  refine T_newaK F 13 (w' := wx0 ++ [iz 13, iz 40, iz 20]) (ty := .int) (a0 := (20, .inl (fun _ => 0))) dL_law_20 rfl haLw (fun _ => rfl) (by decide +kernel) rfl rfl rfl (by decide) rfl (by decide) rfl ?_
  refine T_astore F dL_law_22 rfl (L' := [some (.ref 4000), some (.ref 0), some (.ref 11), some (.ref 12), some (.ref 13), none, none, none, none, none, none, none, none, none, none, none, none, none, none, none]) rfl ?_
  refine T_bipush F (v := 20) dL_law_24 (by decide) ?_
  refine T_newaK F 14 (w' := wx0 ++ [iz 13, iz 40, iz 20, iz 20]) (ty := .int) (a0 := (20, .inl (fun _ => 0))) dL_law_26 rfl haLw (fun _ => rfl) (by decide +kernel) rfl rfl rfl (by decide) rfl (by decide) rfl ?_
  refine T_astore F dL_law_28 rfl (L' := [some (.ref 4000), some (.ref 0), some (.ref 11), some (.ref 12), some (.ref 13), some (.ref 14), none, none, none, none, none, none, none, none, none, none, none, none, none, none]) rfl ?_
  refine T_bipush F (v := 20) dL_law_30 (by decide) ?_
  refine T_newaK F 15 (w' := wx0 ++ [iz 13, iz 40, iz 20, iz 20, iz 20]) (ty := .int) (a0 := (20, .inl (fun _ => 0))) dL_law_32 rfl haLw (fun _ => rfl) (by decide +kernel) rfl rfl rfl (by decide) rfl (by decide) rfl ?_
  refine T_astore F dL_law_34 rfl (L' := [some (.ref 4000), some (.ref 0), some (.ref 11), some (.ref 12), some (.ref 13), some (.ref 14), some (.ref 15), none, none, none, none, none, none, none, none, none, none, none, none, none]) rfl ?_
  refine T_bipush F (v := 20) dL_law_36 (by decide) ?_
  refine T_newaK F 16 (w' := wx0 ++ [iz 13, iz 40, iz 20, iz 20, iz 20, iz 20]) (ty := .int) (a0 := (20, .inl (fun _ => 0))) dL_law_38 rfl haLw (fun _ => rfl) (by decide +kernel) rfl rfl rfl (by decide) rfl (by decide) rfl ?_
  refine T_astore F dL_law_40 rfl (L' := [some (.ref 4000), some (.ref 0), some (.ref 11), some (.ref 12), some (.ref 13), some (.ref 14), some (.ref 15), some (.ref 16), none, none, none, none, none, none, none, none, none, none, none, none]) rfl ?_
  refine T_bipush F (v := 24) dL_law_42 (by decide) ?_
  refine T_newaK F 17 (w' := wx0 ++ [iz 13, iz 40, iz 20, iz 20, iz 20, iz 20, iz 24]) (ty := .int) (a0 := (24, .inl (fun _ => 0))) dL_law_44 rfl haLw (fun _ => rfl) (by decide +kernel) rfl rfl rfl (by decide) rfl (by decide) rfl ?_
  refine T_astore F dL_law_46 rfl (L' := [some (.ref 4000), some (.ref 0), some (.ref 11), some (.ref 12), some (.ref 13), some (.ref 14), some (.ref 15), some (.ref 16), some (.ref 17), none, none, none, none, none, none, none, none, none, none, none]) rfl ?_
  rw [SW_0]
  refine T_aload_n F dL_law_48 rfl ?_
  refine T_aload_n F dL_law_49 rfl ?_
  refine T_aload F dL_law_50 rfl ?_
  refine T_aload F dL_law_52 rfl ?_
  refine T_callSv F (w1 := SW s_f0 (fun _ => 0) 0 0 s_f0) dL_law_54 kL_law_L_begins ⟨rfl, rfl⟩ (by decide) (lm_begins (Ψ := fun h => SW s_f0 (fun _ => 0) 0 0 h) (hvS s_f0 (fun _ => 0) 0 0) (SW_ext s_f0 (fun _ => 0) 0 0)) rfl rfl rfl ?_
  refine T_iconst F (v := nI 0) dL_law_57 (by decide) ?_
  refine T_istore F dL_law_58 rfl (L' := [some (.ref 4000), some (.ref 0), some (.ref 11), some (.ref 12), some (.ref 13), some (.ref 14), some (.ref 15), some (.ref 16), some (.ref 17), some (.int (nI 0)), none, none, none, none, none, none, none, none, none, none]) rfl ?_
  exact law_loop C E 44 0 s_f0 (fun _ => 0) 0 0 _ _ (by omega) f0_okM (by decide) (by decide) (by decide) (by decide)

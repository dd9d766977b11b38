/-! LAW: what holds at its start -/
def wx0 : mj_W := [.inr (3, [.ref 1, .ref 3, .ref 5, .ref 7, .ref 9]), .inr (0, [.ref 2]), .inl (.int, (161, .inl (row (s_com s_f0) s_f0))), .inr (0, [.ref 4]), .inl (.int, (161, .inl (row (s_com s_f0) s_f0))), .inr (1, [.ref 6, .int 6, .int 0, .int 0]), .inl (.int, (966, .inl (fun _ => 0))), .inr (1, [.ref 8, .int 1, .int 0, .int 0]), .inl (.int, (161, .inl (fun _ => 0))), .inr (2, [.ref 10, .int 0]), .inl (.char, (60, .inl (fun _ => 0)))]
theorem wx0_ok : wxok wx0 := ⟨rfl, rfl⟩
theorem f0_ok : okS s_f0 0 := by
  refine ⟨0, Nat.le_refl _, ⟨by decide +kernel, Or.inl (by decide +kernel), ⟨3, by decide, by decide +kernel⟩, ⟨10, by decide, by decide +kernel⟩, ⟨8, by decide, by decide +kernel⟩, fun h hh => (by decide +kernel : ∀ h, h < 5 → s_f0 (5 + h) = 0 ∨ s_f0 (5 + h) = 1) h hh, fun b hb => ⟨40, by decide, (by decide +kernel : ∀ b, b < 4 → s_f0 (49 + b) = nI 40) b hb⟩, fun c hc => ⟨10 + 2 * c, by omega, (by decide +kernel : ∀ c, c < 6 → s_f0 (133 + c) = nI (10 + 2 * c)) c hc⟩, fun c hc => Or.inl ((by decide +kernel : ∀ c, c < 6 → s_f0 (139 + c) = -1 ∧ s_f0 (145 + c) = -1) c hc)⟩, fun q hq => ⟨0, 0, 0, 2000, (by decide +kernel : ∀ q, q < 20 → s_f0 (73 + q) = nI 0) q hq, (by decide +kernel : ∀ q, q < 20 → s_f0 (93 + q) = nI 0) q hq, (by decide +kernel : ∀ q, q < 20 → s_f0 (113 + q) = nI 0) q hq, (by decide +kernel : ∀ q, q < 20 → s_f0 (45 + q % 4) = nI 2000) q hq, by decide⟩⟩
theorem LI_0 : LI 0 (WW (row (s_com s_f0) s_f0) (row (s_com s_f0) s_f0) (fun _ => 0) 0 0 (fun _ => 0) 0 0 (fun _ => 0) 0 0 s_f0 (fun _ => 0) (fun _ => 0) 0 (fun _ => 0) 0 (fun _ => 0) 0 0 0 0 0 0 0 (fun _ => 0)) := ⟨s_f0, (row (s_com s_f0) s_f0), (fun _ => 0), 0, 0, (fun _ => 0), 0, (fun _ => 0), 0, 0, (fun _ => 0), (fun _ => 0), (fun _ => 0), 0, (fun _ => 0), 0, 0, 0, 0, 0, 0, (fun _ => 0), fun _ => 0, rfl, f0_ok, by decide, by decide, fun j hj => absurd hj (Nat.not_lt_zero j), fun j hj => absurd hj (Nat.not_lt_zero j), Or.inl ⟨rfl, rfl⟩, TX_0 _ _, TX_0 _ _⟩
theorem bornX3 : ∀ j, j < 5 → defaultValue (tyX3 j) = vp_V [.null, .null, .null, .null, .null] j := fun j hj => by rcases (show j = 0 ∨ j = 1 ∨ j = 2 ∨ j = 3 ∨ j = 4 by omega) with rfl | rfl | rfl | rfl | rfl <;> rfl
theorem bornX4 : ∀ j, j < 15 → defaultValue (tyX4 j) = vp_V [.int 0, .null, .null, .null, .int 0, .null, .int 0, .null, .int 0, .int 0, .int 0, .int 0, .int 0, .int 0, .long 0] j := fun j hj => by rcases (show j = 0 ∨ j = 1 ∨ j = 2 ∨ j = 3 ∨ j = 4 ∨ j = 5 ∨ j = 6 ∨ j = 7 ∨ j = 8 ∨ j = 9 ∨ j = 10 ∨ j = 11 ∨ j = 12 ∨ j = 13 ∨ j = 14 by omega) with rfl | rfl | rfl | rfl | rfl | rfl | rfl | rfl | rfl | rfl | rfl | rfl | rfl | rfl | rfl <;> rfl
theorem exT_vm : ∀ q ∈ exT, mj_vmw q := fun q hq => by rw [List.mem_singleton.mp hq]; exact mj_vmw_t rfl
theorem inl3 : ∀ w ∈ u_ws RX3 TX3 5, w ∈ wsL_law := fun _ h => List.mem_append_left _ (List.mem_append_left _ (List.mem_append_left _ (List.mem_append_left _ (List.mem_append_left _ (List.mem_append_left _ (List.mem_append_left _ (List.mem_append_left _ (List.mem_append_right _ h))))))))
theorem inl4 : ∀ w ∈ u_ws RX4 TX4 15, w ∈ wsL_law := fun _ h => List.mem_append_left _ (List.mem_append_left _ (List.mem_append_left _ (List.mem_append_left _ (List.mem_append_left _ (List.mem_append_left _ (List.mem_append_left _ (List.mem_append_right _ h)))))))
theorem nLw_8 : Cond.classLink ML_law.1 8 RX3 ∈ ML_law.2.2.1 ∧ Cond.instantiable RX3 5 ∈ ML_law.2.2.1 ∧ Cond.initialized RX3 ∈ ML_law.2.2.1 := by decide +kernel
theorem nLw_88 : Cond.classLink ML_law.1 88 RX4 ∈ ML_law.2.2.1 ∧ Cond.instantiable RX4 15 ∈ ML_law.2.2.1 ∧ Cond.initialized RX4 ∈ ML_law.2.2.1 := by decide +kernel
theorem haLw : Cond.arrayClass (newarray.typeOf .long) ∈ ML_law.2.2.1 := by decide +kernel
theorem thN_in : ∀ w ∈ thN, w ∈ lw_tbl := by decide +kernel
theorem law_ctN {b : Nat} {s : State} (hts : ∀ w ∈ lw_tbl, w.before #[Value.ref b] s = true) (hgv : (Jvm.Cond.and given_1 narrow_1).before #[Value.ref b] s = true) : ∀ U : State, s.WarmedH U.vm → ∀ q ∈ ctN, q.before #[] U = true := by
  have hs := flat_of_before _ hgv
  intro U hW
  refine List.forall_mem_cons.mpr ⟨?_, List.forall_mem_cons.mpr ⟨?_, List.forall_mem_cons.mpr ⟨?_, List.forall_mem_cons.mpr ⟨?_, List.forall_mem_cons.mpr ⟨?_, List.forall_mem_cons.mpr ⟨?_, fun _ h => absurd h List.not_mem_nil⟩⟩⟩⟩⟩⟩
  · exact va_Nw.warmC hW (va_Nw.of rfl (hts (.castable xIO xIO) (by decide +kernel)))
  · exact va_Nw.warmC hW (va_Nw.of rfl (hts (.castable xIA xIA) (by decide +kernel)))
  · exact va_Nw.warmC hW (va_Nw.of rfl (hts (.castable xIS xIS) (by decide +kernel)))
  · exact mj_nc_word ((va_Nc.of (hs (.not (.castable xIA xIO)) (by decide +kernel))).moved hW.alike)
  · exact mj_nc_word ((va_Nc.of (hs (.not (.castable xIS xIO)) (by decide +kernel))).moved hW.alike)
  · exact mj_nc_word ((va_Nc.of (hs (.not (.castable xIS xIA)) (by decide +kernel))).moved hW.alike)
theorem law_exT {b : Nat} {s : State} (hts : ∀ w ∈ lw_tbl, w.before #[Value.ref b] s = true) : ∀ U : State, s.WarmedH U.vm → ∀ q ∈ exT, q.before #[] U = true := by
  intro U hW q hq
  rw [List.mem_singleton.mp hq]
  exact va_Nw.warmM hW (va_Nw.of rfl (hts (.methodLinkNest RX3 33 yX2_init RX3) (by decide +kernel)))
theorem law_str {b k : Nat} {s : State} {tx : String} (h1 : (Cond.stringRef RX3 k tx).before #[Value.ref b] s = true) (h2 : (Cond.exactly (.string RX3 k) "java/lang/String").before #[Value.ref b] s = true) : ∃ a, vk_R RX3 k tx a s := by
  obtain ⟨a, c, cA, kA, q1, -⟩ := Cond.exactly_spec (args := #[Value.ref b]) (first := s) (o := none) (s := s) (idx := []) (t := .string RX3 k) (cls := "java/lang/String") h2
  exact ⟨a, vk_R.of h1 q1⟩
theorem law_X {b : Nat} {s : State} (hts : ∀ w ∈ lw_tbl, w.before #[Value.ref b] s = true) (hgv : (Jvm.Cond.and given_1 narrow_1).before #[Value.ref b] s = true) : mj_X (fun q : Nat => s.heap.size ≤ q) s s.heap := by
  have hs := flat_of_before _ hgv
  have hA : ∀ a : Nat, a < s.heap.size → ¬ (fun q : Nat => s.heap.size ≤ q) a := fun a h => Nat.not_le.mpr h
  obtain ⟨t1, e1, T1⟩ := va_Tof (N := 3) (tm := .static RX3 "LOWEST_SETTING" "[I") (ty := .int) (f := fun j => .int (if j = 2 then 1 else 0)) (A := fun q : Nat => s.heap.size ≤ q) (by decide) (hs (.arrayOf (.static RX3 "LOWEST_SETTING" "[I") .int) (by decide +kernel)) (va_eqt (hs (.eq (.length (.static RX3 "LOWEST_SETTING" "[I")) (.int 3)) (by decide +kernel))) (fun j hj => by
    rcases (show j = 0 ∨ j = 1 ∨ j = 2 by omega) with rfl | rfl | rfl
    · exact va_eqt (hs (.eq (.elem (.static RX3 "LOWEST_SETTING" "[I") (.int 0)) (.int 0)) (by decide +kernel))
    · exact va_eqt (hs (.eq (.elem (.static RX3 "LOWEST_SETTING" "[I") (.int 1)) (.int 0)) (by decide +kernel))
    · exact va_eqt (hs (.eq (.elem (.static RX3 "LOWEST_SETTING" "[I") (.int 2)) (.int 1)) (by decide +kernel))) hA
  obtain ⟨t2, e2, T2⟩ := va_Tof (N := 3) (tm := .static RX3 "HIGHEST_SETTING" "[I") (ty := .int) (f := fun j => .int (if j = 0 then 9 else if j = 1 then 50 else 30)) (A := fun q : Nat => s.heap.size ≤ q) (by decide) (hs (.arrayOf (.static RX3 "HIGHEST_SETTING" "[I") .int) (by decide +kernel)) (va_eqt (hs (.eq (.length (.static RX3 "HIGHEST_SETTING" "[I")) (.int 3)) (by decide +kernel))) (fun j hj => by
    rcases (show j = 0 ∨ j = 1 ∨ j = 2 by omega) with rfl | rfl | rfl
    · exact va_eqt (hs (.eq (.elem (.static RX3 "HIGHEST_SETTING" "[I") (.int 0)) (.int 9)) (by decide +kernel))
    · exact va_eqt (hs (.eq (.elem (.static RX3 "HIGHEST_SETTING" "[I") (.int 1)) (.int 50)) (by decide +kernel))
    · exact va_eqt (hs (.eq (.elem (.static RX3 "HIGHEST_SETTING" "[I") (.int 2)) (.int 30)) (by decide +kernel))) hA
  refine ⟨vx_Zqof (hts (.laysStatic Bundle.tN "UNASSIGNED_STACK" Bundle.steD) (by decide +kernel)) (hts (.initialized Bundle.tN) (by decide +kernel)) (hs (.isRef (.static Bundle.tN "UNASSIGNED_STACK" Bundle.steD)) (by decide +kernel)) hA, vx_Zqof (hts (.laysStatic Bundle.tN "SUPPRESSED_SENTINEL" Bundle.listD) (by decide +kernel)) (hts (.initialized Bundle.tN) (by decide +kernel)) (hs (.isRef (.static Bundle.tN "SUPPRESSED_SENTINEL" Bundle.listD)) (by decide +kernel)) hA, fun w hw => va_any (List.all_eq_true.mp thN_ot w hw) (hts w (thN_in w hw)), ?_, ?_, ?_, t1, t2, ?_, T1, ?_, T2⟩
  · exact law_str (hts (.stringRef RX3 226 "there is no such number") (by decide +kernel)) (hs (.exactly (.string RX3 226) "java/lang/String") (by decide +kernel))
  · exact law_str (hts (.stringRef RX3 233 "the argument is not right") (by decide +kernel)) (hs (.exactly (.string RX3 233) "java/lang/String") (by decide +kernel))
  · exact law_str (hts (.stringRef RX3 238 "that is not possible now") (by decide +kernel)) (hs (.exactly (.string RX3 238) "java/lang/String") (by decide +kernel))
  · exact va_Zref (hts (.laysStatic RX3 "LOWEST_SETTING" "[I") (by decide +kernel)) (hts (.initialized RX3) (by decide +kernel)) e1 hA
  · exact va_Zref (hts (.laysStatic RX3 "HIGHEST_SETTING" "[I") (by decide +kernel)) (hts (.initialized RX3) (by decide +kernel)) e2 hA
theorem law_K {b : Nat} {s : State} (hts : ∀ w ∈ lw_tbl, w.before #[Value.ref b] s = true) : ∃ D : va_G, va_K D vwCl [] s := by
  obtain ⟨c0, i0, h0⟩ := u_known (C := RX0) (T := TX0) (N := 1) (n := 1) hts wsL_law_w0 (hts (.instantiable RX0 1) (by decide +kernel))
  obtain ⟨c1, i1, h1⟩ := u_known (C := RX1) (T := TX1) (N := 4) (n := 4) hts wsL_law_w1 (hts (.instantiable RX1 4) (by decide +kernel))
  obtain ⟨c2, i2, h2⟩ := u_known (C := RX2) (T := TX2) (N := 2) (n := 2) hts wsL_law_w2 (hts (.instantiable RX2 2) (by decide +kernel))
  obtain ⟨c3, i3, h3⟩ := u_known (C := RX3) (T := TX3) (N := 5) (n := 5) hts wsL_law_w3 (hts (.instantiable RX3 5) (by decide +kernel))
  obtain ⟨c4, i4, h4⟩ := u_known (C := RX4) (T := TX4) (N := 15) (n := 15) hts wsL_law_w4 (hts (.instantiable RX4 15) (by decide +kernel))
  refine ⟨(fun k => if k = 0 then c0 else if k = 1 then c1 else if k = 2 then c2 else if k = 3 then c3 else c4, fun k => if k = 0 then i0 else if k = 1 then i1 else if k = 2 then i2 else if k = 3 then i3 else i4), fun k q hq => ?_, fun k q hq => by cases hq⟩
  match k, hq with
  | 0, hq => cases hq; exact h0
  | 1, hq => cases hq; exact h1
  | 2, hq => cases hq; exact h2
  | 3, hq => cases hq; exact h3
  | 4, hq => cases hq; exact h4
  | k + 5, hq => cases hq
theorem law_begin {p : Program} {l : Launch} {e : Env} {s : State} {m : MethodId} {args : Array Value} {below : List Frame} {meth : Method} {c : Code} {Q : State → Prop} {D : va_G} {A : Nat → Prop} {ad0 : Nat → Nat} {a Ls : Nat} {xs : Nat → Int32} (C : LC p l s m args meth c D A ad0 a Ls xs) (hT : ∀ U : State, s.WarmedH U.vm → ∀ q ∈ exT, q.before #[] U = true) (E : ∀ (L : mj_L) (w : mj_W) (k n : Nat), k ≤ 601024 → n ≤ 7293034 → GT p l e s m args below meth c Q D A ad0 0 ML_law 1718 L [.int 1] w k n) : GT p l e s m args below meth c Q D A ad0 0 ML_law 0 [some (.ref 4000), none, none, none, none, none, none, none, none] [] [] 0 0 := by
  obtain ⟨F, hE, hX, hbl, hbA, hb0, hLs, hl⟩ := id C
  refine T_newK F 0 (w' := [.inr (3, [.null, .null, .null, .null, .null])]) dL_law_0 (ci := 3) rfl inl3 tyX3_ok nLw_8 bornX3 rfl rfl rfl rfl rfl (by decide) rfl ?_
  refine T_dup F dL_law_3 rfl ?_
  refine T_callIE F (w1 := wx0) hT exT_vm dL_law_4 kLw_X3_init (by decide) x_init rfl rfl rfl rfl ?_
  refine T_astore_n F dL_law_7 rfl (L' := [some (.ref 4000), some (.ref 0), none, none, none, none, none, none, none]) rfl ?_
  refine T_newK F 11 (w' := wx0 ++ [.inr (4, [.int 0, .null, .null, .null, .int 0, .null, .int 0, .null, .int 0, .int 0, .int 0, .int 0, .int 0, .int 0, .long 0])]) dL_law_8 (ci := 4) rfl inl4 tyX4_ok nLw_88 bornX4 rfl rfl rfl rfl rfl (by decide) rfl ?_
  refine T_dup F dL_law_11 rfl ?_
  refine T_callI F (w1 := wx0 ++ [.inr (4, [.int 0, .ref 12, .ref 13, .ref 14, .int 0, .ref 15, .int 0, .ref 16, .int 0, .int 0, .int 0, .int 0, .int 0, .int 0, .long 0]), .inl (.int, (157, .inl s_f0)), .inl (.int, (157, .inl (fun _ => 0))), .inl (.int, (942, .inl (fun _ => 0))), .inl (.int, (157, .inl (fun _ => 0))), .inl (.int, (60, .inl (fun _ => 0)))]) dL_law_12 kLw_X4_init (by decide) (m_init wx0_ok) rfl rfl rfl rfl ?_
  refine T_astore_n F dL_law_15 rfl (L' := [some (.ref 4000), some (.ref 0), some (.ref 11), none, none, none, none, none, none]) rfl ?_
  refine T_iconst F (v := 1) dL_law_16 (by decide) ?_
  refine T_newaK F 17 (w' := WW (row (s_com s_f0) s_f0) (row (s_com s_f0) s_f0) (fun _ => 0) 0 0 (fun _ => 0) 0 0 (fun _ => 0) 0 0 s_f0 (fun _ => 0) (fun _ => 0) 0 (fun _ => 0) 0 (fun _ => 0) 0 0 0 0 0 0 0 (fun _ => 0)) (ty := .long) (a0 := (1, .inr (.inl (fun _ => 0)))) dL_law_17 rfl haLw (fun _ => rfl) (by decide +kernel) rfl rfl rfl (by decide) rfl (by decide) rfl ?_
  refine T_astore_n F dL_law_19 rfl (L' := [some (.ref 4000), some (.ref 0), some (.ref 11), some (.ref 17), none, none, none, none, none]) rfl ?_
  refine T_iconst F (v := nI 0) dL_law_20 (by decide) ?_
  refine T_istore F dL_law_21 rfl (L' := [some (.ref 4000), some (.ref 0), some (.ref 11), some (.ref 17), some (.int (nI 0)), none, none, none, none]) rfl ?_
  exact law_loop C E 512 0 0 _ _ _ none none none none (by omega) LI_0 (by decide) (by decide) (by decide) (by decide)

/-! THE LAW: a turn, its loop -/
theorem step_of {l : Launch} (hl : l.stackTraces = false) {f : mj_S} {B : Nat} (hM : okM f B) (hB : B < 1000000) {kd : Nat} (hkd : kd ≤ 8) {va vb ve : Int32} {j : Nat} (hA : PA kd va) (hBb : PB kd va vb) (hE : PE kd ve) (hz : 1 ≤ j ∧ j ≤ 12) : StepOK l [.int (nI kd), .int va, .int vb, .int ve, .int (nI j)] f B := by
  have h7 : ¬ kd = 3 → ¬ kd = 8 → (kd = 0 ∨ kd = 1 ∨ kd = 2 ∨ kd = 4 ∨ kd = 5 ∨ kd = 6 ∨ kd = 7) := fun _ _ => by omega
  have h3 : kd = 3 ∨ ¬ kd = 3 := by omega
  have h8 : kd = 8 ∨ ¬ kd = 8 := by omega
  obtain ⟨je, rfl, he4, he9⟩ := hE
  rcases h3 with rfl | hk3
  · have hA3 := (hA.resolve_right (fun z => z.1 rfl)).2
    have hB3 := (hBb.resolve_right (fun z => z.1 rfl)).2
    rcases hA3 with rfl | ⟨c, hc, rfl⟩
    · rcases hB3 with rfl | ⟨b, hb, rfl⟩
      · exact step_giveE hl hM (by decide) (he4 (Or.inr rfl)) hz
      · exact step_giveN hl hM hb (he4 (Or.inr rfl)) hz
    · rcases hB3 with rfl | ⟨b, hb, rfl⟩
      · exact step_giveT hl hM hc (he4 (Or.inr rfl)) hz
      · by_cases hcb : c = b
        · subst hcb
          exact step_giveE hl hM ⟨Int32.le_trans (by decide) (nI_pos' (show c < 2147483648 by omega)), (nI_leI (b := 4) (by omega) (by omega)).mpr (by omega)⟩ (he4 (Or.inr rfl)) hz
        · exact step_giveG hl hM hc hb hcb (he4 (Or.inr rfl)) hz
  · obtain ⟨-, jb, rfl, hb0, hb5, hb6, hb7, hb8⟩ := hBb.resolve_left (fun z => hk3 z.1)
    rcases h8 with rfl | hk8
    · obtain ⟨j0, rfl, h8⟩ := hb8 rfl
      rcases h8 with ⟨rfl, h⟩ | ⟨rfl, h⟩ | ⟨rfl, h⟩
      · exact step_set0 hl hM hB ⟨Nat.zero_le _, h⟩
      · exact step_set1 hl hM hB ⟨Nat.zero_le _, h⟩
      · exact step_set2 hl hM hB h
    · obtain ⟨-, ja, rfl, ha61, ha1, ha6, ha5, ha4, -⟩ := hA.resolve_left (fun z => hk3 z.1)
      rcases h7 hk3 hk8 with rfl | rfl | rfl | rfl | rfl | rfl | rfl
      · exact step_work hl hM (ha6 (Or.inl rfl)) (hb0 rfl) (he4 (Or.inl rfl))
      · exact step_pass hl hM hB (ha1 rfl)
      · exact step_rest hl hM hB (ha6 (Or.inr (Or.inl rfl)))
      · exact step_snow hM
      · have hb2 := hb5 rfl
        rcases (show jb = 0 ∨ jb = 1 by omega) with rfl | rfl
        · exact step_hearth0 hl hM hB (ha5 (Or.inr rfl)) (he9 rfl)
        · exact step_hearth1 hl hM hB (ha5 (Or.inr rfl)) (he9 rfl)
      · exact step_track hl hM hB (ha4 rfl) (hb6 rfl)
      · exact step_strength hl hM hB (ha6 (Or.inr (Or.inr rfl))) (hb7 rfl)
theorem rmk {k n kc ns : Nat} (h : k + kc ≤ 600104 ∧ n + ns ≤ 7301314) : k + kc ≤ ML_law.2.2.2.1.cells ∧ n + ns ≤ ML_law.2.2.2.1.slots := h
theorem rmk0 {k n : Nat} (h : k ≤ 600104 ∧ n ≤ 7301314) : k ≤ ML_law.2.2.2.1.cells ∧ n ≤ ML_law.2.2.2.1.slots := h
theorem lg_same (x : Int64) : lg_cmp x x = 0 := by
  unfold lg_cmp
  rw [if_neg (by rw [gt_iff_lt, Int64.lt_iff_toInt_lt]; omega), if_pos rfl]
section LM
variable {p : Program} {l : Launch} {e : Env} {s : State} {m : MethodId} {args : Array Value} {below : List Frame} {meth : Method} {c : Code} {Q : State → Prop} {D : va_G} {A : Nat → Prop} {ad0 : Nat → Nat} {N : Nat} {a Ls : Nat} {xs : Nat → Int32}
theorem law_turn (C : LC p l s m args meth c D A ad0 a Ls xs) {f R : mj_S} {T mm k n i B kd j : Nat} {vx vy va vb ve : Int32} (hk : k + 2 ≤ 600104 ∧ n + 12 ≤ 7301314) (hM : okM f B) (hB : B < 1000000) (hst : StepOK l [.int (nI kd), .int va, .int vb, .int ve, .int (nI j)] f B) (hT : T < 6) (hm : mm ≤ 6)
    (K : ∀ (f2 R2 : mj_S) (T2 m2 k2 n2 : Nat) (was : Int64) (t : Int32), okM f2 (B + 60) → T2 < 6 → m2 ≤ 6 → k2 ≤ k + 2 → n2 ≤ n + 12 → GT p l e s m args below meth c Q D A ad0 N ML_law 634 [some (.ref 4000), some (.ref 0), some (.ref 11), some (.ref 12), some (.ref 13), some (.ref 14), some (.ref 15), some (.ref 16), some (.ref 17), some (.int (nI (i))), some (.int vx), some (.int vy), some (.int (nI (kd))), some (.int va), some (.int vb), some (.int ve), some (.int (nI (j))), some (.long was), none, some (.int t)] [] (SW f2 R2 T2 m2 f2) k2 n2) : GT p l e s m args below meth c Q D A ad0 N ML_law 489 [some (.ref 4000), some (.ref 0), some (.ref 11), some (.ref 12), some (.ref 13), some (.ref 14), some (.ref 15), some (.ref 16), some (.ref 17), some (.int (nI (i))), some (.int vx), some (.int vy), some (.int (nI (kd))), some (.int va), some (.int vb), some (.int ve), some (.int (nI (j))), none, none, none] [] (SW f R T mm f) k n := by
  obtain ⟨F, hE, hX, hbl, hbA, hb0, hLs, hl⟩ := id C
  obtain ⟨f2, t, hC, hDu, hM2, hback⟩ := hst
  obtain ⟨⟨⟨D1, hD1, ho, hv⟩, hJ⟩, hS⟩ := id hM
  obtain ⟨⟨⟨D2, hD2, ho2, hv2⟩, hJ2⟩, hS2⟩ := id hM2
  refine T_aload_n F dL_law_489 rfl ?_
  refine T_callSP F hE ctN_vm dL_law_490 kL_law_L_told (kc := 0) (ns := 0) ⟨rfl, rfl⟩ (rmk (by omega)) (lm_told (lkS ho hv R T mm f)) rfl rfl rfl ?_
  obtain ⟨was, ewas⟩ : ∃ z : Int64, z = s_told f := ⟨_, rfl⟩
  rw [← ewas]
  refine T_lstore F dL_law_493 rfl (L' := [some (.ref 4000), some (.ref 0), some (.ref 11), some (.ref 12), some (.ref 13), some (.ref 14), some (.ref 15), some (.ref 16), some (.ref 17), some (.int (nI (i))), some (.int vx), some (.int vy), some (.int (nI (kd))), some (.int va), some (.int vb), some (.int ve), some (.int (nI (j))), some (.long was), none, none]) rfl ?_
  refine T_aload_n F dL_law_495 rfl ?_
  refine T_iload F dL_law_496 rfl ?_
  refine T_iload F dL_law_498 rfl ?_
  refine T_iload F dL_law_500 rfl ?_
  refine T_iload F dL_law_502 rfl ?_
  refine T_iload F dL_law_504 rfl ?_
  obtain ⟨R2, T2, m2, hT2, hm2, hMC, hund⟩ := hC R T mm f hT hm
  refine T_callSP F hE ctN_vm dL_law_506 kL_law_L_call (kc := 1) (ns := 6) ⟨rfl, rfl⟩ (rmk (by omega)) hMC rfl rfl rfl ?_
  refine T_istore F dL_law_509 rfl (L' := [some (.ref 4000), some (.ref 0), some (.ref 11), some (.ref 12), some (.ref 13), some (.ref 14), some (.ref 15), some (.ref 16), some (.ref 17), some (.int (nI (i))), some (.int vx), some (.int vy), some (.int (nI (kd))), some (.int va), some (.int vb), some (.int ve), some (.int (nI (j))), some (.long was), none, some (.int t)]) rfl ?_
  have K579 : ∀ (R' : mj_S) (T' m' k' n' : Nat), T' < 6 → m' ≤ 6 → k' ≤ k + 2 → n' ≤ n + 12 → GT p l e s m args below meth c Q D A ad0 N ML_law 579 [some (.ref 4000), some (.ref 0), some (.ref 11), some (.ref 12), some (.ref 13), some (.ref 14), some (.ref 15), some (.ref 16), some (.ref 17), some (.int (nI (i))), some (.int vx), some (.int vy), some (.int (nI (kd))), some (.int va), some (.int vb), some (.int ve), some (.int (nI (j))), some (.long was), none, some (.int t)] [] (SW f2 R' T' m' f) k' n' := by
    intro R' T' m' k' n' hT' hm' hk' hn'
    refine T_iload F dL_law_579 rfl ?_
    refine T_iload F dL_law_581 rfl ?_
    refine T_iload F dL_law_583 rfl ?_
    refine T_iload F dL_law_585 rfl ?_
    refine T_iload F dL_law_587 rfl ?_
    refine T_iload F dL_law_589 rfl ?_
    refine T_aload_n F dL_law_591 rfl ?_
    refine T_aload_n F dL_law_592 rfl ?_
    refine T_aload F dL_law_593 rfl ?_
    refine T_aload F dL_law_595 rfl ?_
    refine T_aload F dL_law_597 rfl ?_
    refine T_aload F dL_law_599 rfl ?_
    refine T_aload F dL_law_601 rfl ?_
    refine T_callSi F dL_law_603 kL_law_L_due ⟨rfl, rfl⟩ (rmk0 (by omega)) (hDu (fun h => SW f2 R' T' m' h) (hvS f2 R' T' m')) rfl rfl rfl ?_
    refine T_icmp_ne F 632 dL_law_606 (by decide) (fun q => absurd rfl q) (fun _ => ?_)
    refine T_aload_n F dL_law_609 rfl ?_
    refine T_iload F dL_law_610 rfl ?_
    refine T_iconst F (v := 5) dL_law_612 (by decide) ?_
    refine T_ishr F dL_law_613 ?_
    refine T_aload_n F dL_law_614 rfl ?_
    refine T_aload_n F dL_law_615 rfl ?_
    refine T_aload F dL_law_616 rfl ?_
    refine T_aload F dL_law_618 rfl ?_
    refine T_aload F dL_law_620 rfl ?_
    refine T_aload F dL_law_622 rfl ?_
    refine T_aload F dL_law_624 rfl ?_
    refine T_callSP F hE ctN_vm dL_law_626 kL_law_L_isSo (kc := 0) (ns := 0) ⟨rfl, rfl⟩ (rmk (by omega)) (lm_isSo (hvS f2 R' T' m') (lkS ho2 hv2 R' T' m' f2) ho2 hv2 hJ2 (by omega)) rfl rfl rfl ?_
    refine T_if_ne F 634 dL_law_629 (by decide) (fun _ => ?_) (fun q => absurd q (by decide))
    exact K f2 R' T' m' k' n' was t hM2 hT' hm' hk' hn'
  refine T_iload F dL_law_511 rfl ?_
  refine T_bipush F (v := (-100)) dL_law_513 (by decide) ?_
  refine T_icmp_ge F 531 dL_law_515 (by decide) (fun c515 => ?_) (fun c515 => ?_)
  · refine T_iload F dL_law_531 rfl ?_
    refine T_bipush F (v := 24) dL_law_533 (by decide) ?_
    refine T_ishr F dL_law_535 ?_
    refine T_iconst F (v := 3) dL_law_536 (by decide) ?_
    refine T_iand F dL_law_537 ?_
    refine T_if_ne F 579 dL_law_538 (by decide) (fun _ => K579 R2 T2 m2 _ _ hT2 hm2 (by omega) (by omega)) (fun _ => ?_)
    obtain ⟨h1m, hrow⟩ := hund (Int32.not_lt.mpr c515)
    obtain ⟨m3, rfl⟩ : ∃ m3, m2 = m3 + 1 := ⟨m2 - 1, by omega⟩
    have e1 : MC l yX3_undo wsX3_undo rmX3_undo false [.ref 0] (SW f2 R2 T2 (m3 + 1) f) (some (.int (nI m3))) (SW f R2 (pvT T2) m3 f) := by
      unfold SW
      exact x_undo (cvL f) hT2 (by omega) hrow
    refine T_aload_n F dL_law_541 rfl ?_
    refine T_callSW0 F hE ctN_vm dL_law_542 kL_law_L_undo ⟨rfl, rfl⟩ (rmk0 (by omega)) (lh_undo_0 e1 rfl) rfl rfl rfl ?_
    refine T_if_ltN F (a1 := m3) 577 dL_law_545 (by decide) (by omega) ?_
    refine T_aload_n F dL_law_548 rfl ?_
    refine T_callSP F hE ctN_vm dL_law_549 kL_law_L_told (kc := 0) (ns := 0) ⟨rfl, rfl⟩ (rmk (by omega)) (lm_told (lkS ho hv R2 (pvT T2) m3 f)) rfl rfl rfl ?_
    rw [← ewas]
    refine T_lload F dL_law_552 rfl ?_
    refine T_lcmp F dL_law_554 ?_
    refine T_eqi F (lg_same _) ?_
    refine T_if_ne F 577 dL_law_555 (by decide) (fun q => absurd rfl q) (fun _ => ?_)
    refine T_aload_n F dL_law_558 rfl ?_
    refine T_iload F dL_law_559 rfl ?_
    refine T_iload F dL_law_561 rfl ?_
    refine T_iload F dL_law_563 rfl ?_
    refine T_iload F dL_law_565 rfl ?_
    refine T_iload F dL_law_567 rfl ?_
    obtain ⟨R3, T3, m4, hT3, hm4, hMC3, -⟩ := hC R2 (pvT T2) m3 f (pvT_lt hT2) (by omega)
    refine T_callSP F hE ctN_vm dL_law_569 kL_law_L_call (kc := 1) (ns := 6) ⟨rfl, rfl⟩ (rmk (by omega)) hMC3 rfl rfl rfl ?_
    refine T_iload F dL_law_572 rfl ?_
    refine T_icmp_eq F 579 dL_law_574 (by decide) (fun _ => K579 R3 T3 m4 _ _ hT3 hm4 (by omega) (by omega)) (fun q => absurd rfl q)
  · have ef := hback (Int32.not_le.mp c515)
    subst ef
    refine T_aload_n F dL_law_518 rfl ?_
    refine T_callSP F hE ctN_vm dL_law_519 kL_law_L_told (kc := 0) (ns := 0) ⟨rfl, rfl⟩ (rmk (by omega)) (lm_told (lkS ho hv R2 T2 m2 _)) rfl rfl rfl ?_
    rw [← ewas]
    refine T_lload F dL_law_522 rfl ?_
    refine T_lcmp F dL_law_524 ?_
    refine T_eqi F (lg_same _) ?_
    refine T_if_eq F 579 dL_law_525 (by decide) (fun _ => K579 R2 T2 m2 _ _ hT2 hm2 (by omega) (by omega)) (fun q => absurd rfl q)
theorem law_loop (C : LC p l s m args meth c D A ad0 a Ls xs) (E : ∀ (L : mj_L) (w : mj_W) (k n : Nat), k ≤ 600104 → n ≤ 7301314 → GT p l e s m args below meth c Q D A ad0 N ML_law 641 L [.int 1] w k n) : ∀ (d i : Nat) (f R : mj_S) (T mm k n : Nat), i + d = 44 → okM f (60 * i) → T < 6 → mm ≤ 6 → k ≤ 30 + 2 * i → n ≤ 9000 + 12 * i → GT p l e s m args below meth c Q D A ad0 N ML_law 60 [some (.ref 4000), some (.ref 0), some (.ref 11), some (.ref 12), some (.ref 13), some (.ref 14), some (.ref 15), some (.ref 16), some (.ref 17), some (.int (nI (i))), none, none, none, none, none, none, none, none, none, none] [] (SW f R T mm f) k n
  | 0, i, f, R, T, mm, k, n, hi, hM, hT, hm, hk, hn => by
    obtain ⟨F, hE, hX, hbl, hbA, hb0, hLs, hl⟩ := id C
    refine T_iload F dL_law_60 rfl ?_
    refine T_bipush F (v := 44) dL_law_62 (by decide) ?_
    refine T_icmp_geN F (a1 := i) (c1 := 44) 640 dL_law_64 (by decide) (by omega) (fun c64 => ?_) (fun c64 => ?_)
    · refine T_iconst F (v := 1) dL_law_640 (by decide) ?_
      exact E _ _ _ _ (by omega) (by omega)
    · exact (show False by omega).elim
  | d + 1, i, f, R, T, mm, k, n, hi, hM, hT, hm, hk, hn => by
    obtain ⟨F, hE, hX, hbl, hbA, hb0, hLs, hl⟩ := id C
    refine T_iload F dL_law_60 rfl ?_
    refine T_bipush F (v := 44) dL_law_62 (by decide) ?_
    refine T_icmp_geN F (a1 := i) (c1 := 44) 640 dL_law_64 (by decide) (by omega) (fun c64 => ?_) (fun c64 => ?_)
    · exact (show False by omega).elim
    · refine T_aload_n F dL_law_67 rfl ?_
      refine T_iconst F (v := 2) dL_law_68 (by decide) ?_
      refine T_iload F dL_law_69 rfl ?_
      refine T_imulN F (a1 := 2) (c1 := i) (s1 := 2 * i) dL_law_71 (by omega) ?_
      refine T_cell F hX hbl hbA hb0 hLs (by omega) dL_law_72 kL_law_L_cell (rmk0 (by omega)) rfl rfl ?_
      obtain ⟨vx, evx⟩ : ∃ z : Int32, z = cv xs Ls (2 * i) := ⟨_, rfl⟩
      rw [← evx]
      refine T_istore F dL_law_75 rfl (L' := [some (.ref 4000), some (.ref 0), some (.ref 11), some (.ref 12), some (.ref 13), some (.ref 14), some (.ref 15), some (.ref 16), some (.ref 17), some (.int (nI (i))), some (.int vx), none, none, none, none, none, none, none, none, none]) rfl ?_
      refine T_aload_n F dL_law_77 rfl ?_
      refine T_iconst F (v := 2) dL_law_78 (by decide) ?_
      refine T_iload F dL_law_79 rfl ?_
      refine T_imulN F (a1 := 2) (c1 := i) (s1 := 2 * i) dL_law_81 (by omega) ?_
      refine T_iconst F (v := 1) dL_law_82 (by decide) ?_
      refine T_iaddN F (a1 := 2 * i) (c1 := 1) (s1 := 2 * i + 1) dL_law_83 (by omega) ?_
      refine T_cell F hX hbl hbA hb0 hLs (by omega) dL_law_84 kL_law_L_cell (rmk0 (by omega)) rfl rfl ?_
      obtain ⟨vy, evy⟩ : ∃ z : Int32, z = cv xs Ls (2 * i + 1) := ⟨_, rfl⟩
      rw [← evy]
      refine T_istore F dL_law_87 rfl (L' := [some (.ref 4000), some (.ref 0), some (.ref 11), some (.ref 12), some (.ref 13), some (.ref 14), some (.ref 15), some (.ref 16), some (.ref 17), some (.int (nI (i))), some (.int vx), some (.int vy), none, none, none, none, none, none, none, none]) rfl ?_
      refine T_iload F dL_law_89 rfl ?_
      refine T_bipush F (v := 20) dL_law_91 (by decide) ?_
      refine T_callSi F dL_law_93 kL_law_L_low ⟨rfl, rfl⟩ (rmk0 (by omega)) (lm_low (n := 20) (by omega)) rfl rfl rfl ?_
      refine T_istore F dL_law_96 rfl (L' := [some (.ref 4000), some (.ref 0), some (.ref 11), some (.ref 12), some (.ref 13), some (.ref 14), some (.ref 15), some (.ref 16), some (.ref 17), some (.int (nI (i))), some (.int vx), some (.int vy), some (.int (nI ((lowN vx 20)))), none, none, none, none, none, none, none]) rfl ?_
      refine lw_kind C (by omega) (by omega) (lowN_lt vx (by decide)) (fun kd hkd => ?_)
      refine T_istore F dL_law_153 rfl (L' := [some (.ref 4000), some (.ref 0), some (.ref 11), some (.ref 12), some (.ref 13), some (.ref 14), some (.ref 15), some (.ref 16), some (.ref 17), some (.int (nI (i))), some (.int vx), some (.int vy), some (.int (nI (kd))), none, none, none, none, none, none, none]) rfl ?_
      refine lw_a C (by omega) hkd (fun va hPA => ?_)
      refine T_istore F dL_law_274 rfl (L' := [some (.ref 4000), some (.ref 0), some (.ref 11), some (.ref 12), some (.ref 13), some (.ref 14), some (.ref 15), some (.ref 16), some (.ref 17), some (.int (nI (i))), some (.int vx), some (.int vy), some (.int (nI (kd))), some (.int va), none, none, none, none, none, none]) rfl ?_
      refine lw_b C (by omega) hkd hPA (fun vb hPB => ?_)
      refine T_istore F dL_law_418 rfl (L' := [some (.ref 4000), some (.ref 0), some (.ref 11), some (.ref 12), some (.ref 13), some (.ref 14), some (.ref 15), some (.ref 16), some (.ref 17), some (.int (nI (i))), some (.int vx), some (.int vy), some (.int (nI (kd))), some (.int va), some (.int vb), none, none, none, none, none]) rfl ?_
      refine lw_e C (by omega) hkd (fun ve hPE => ?_)
      refine T_istore F dL_law_457 rfl (L' := [some (.ref 4000), some (.ref 0), some (.ref 11), some (.ref 12), some (.ref 13), some (.ref 14), some (.ref 15), some (.ref 16), some (.ref 17), some (.int (nI (i))), some (.int vx), some (.int vy), some (.int (nI (kd))), some (.int va), some (.int vb), some (.int ve), none, none, none, none]) rfl ?_
      refine lw_z C (by omega) (fun j hj => ?_)
      refine T_istore F dL_law_487 rfl (L' := [some (.ref 4000), some (.ref 0), some (.ref 11), some (.ref 12), some (.ref 13), some (.ref 14), some (.ref 15), some (.ref 16), some (.ref 17), some (.int (nI (i))), some (.int vx), some (.int vy), some (.int (nI (kd))), some (.int va), some (.int vb), some (.int ve), some (.int (nI (j))), none, none, none]) rfl ?_
      refine law_turn C (by omega) hM (by omega) (step_of hl hM (by omega) hkd hPA hPB hPE hj) hT hm (fun f2 R2 T2 m2 k2 n2 was t hM2 hT2 hm2 hk2 hn2 => ?_)
      refine T_iincN F (a1 := i) (s1 := i + 1) dL_law_634 rfl (by omega) (L' := [some (.ref 4000), some (.ref 0), some (.ref 11), some (.ref 12), some (.ref 13), some (.ref 14), some (.ref 15), some (.ref 16), some (.ref 17), some (.int (nI (i + 1))), some (.int vx), some (.int vy), some (.int (nI (kd))), some (.int va), some (.int vb), some (.int ve), some (.int (nI (j))), some (.long was), none, some (.int t)]) rfl ?_
      refine T_goto F 60 dL_law_637 (by decide) ?_
      refine T_forget 10 (L' := [some (.ref 4000), some (.ref 0), some (.ref 11), some (.ref 12), some (.ref 13), some (.ref 14), some (.ref 15), some (.ref 16), some (.ref 17), some (.int (nI (i + 1))), none, none, none, none, none, none, none, none, none, none]) rfl ?_
      have hB2 : 60 * (i + 1) = 60 * i + 60 := by omega
      exact law_loop C E d (i + 1) f2 R2 T2 m2 k2 n2 (by omega) (by rw [hB2]; exact hM2) hT2 hm2 (by omega) (by omega)
end LM

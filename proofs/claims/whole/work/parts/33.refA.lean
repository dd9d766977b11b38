/-! REFERENCE: looks, and a day -/
def FV (mp p1 : Nat) (fs : List Value) (Ω : mj_S → mj_W) : Prop := fs[1]? = some (.ref p1) ∧ ∀ f, (Ω f)[mp]? = some (.inr (4, fs)) ∧ (Ω f)[p1]? = some (.inl (.int, (157, .inl f))) ∧ ∀ g, (Ω f).set p1 (.inl (.int, (157, .inl g))) = Ω g
def s_com (f : mj_S) (b : Nat) : Int32 := itr (fun h x => x - f (53 + b + 4 * h)) 5 0 12
section RA
variable {l : Launch} {mp p1 : Nat} {fs : List Value} {Ω : mj_S → mj_W}
theorem c_less {w : mj_W} {a b : Int32} : MC l yX4_less wsX4_less rmX4_less false [.int a, .int b] (w) (some (.int (mn a b))) (w) := by
  refine mj_MC (cc := cX4_less) (nl := 2) (ret := (some .int)) (plainFor_of_name (by decide)) rfl (⟨_, rfl, rfl⟩) (Nat.le_of_ble_eq_true rfl) ?_
  show GG l cX4_less MX4_less false (.inl ((some (.int (mn a b))), w)) 0 [some (.int a), some (.int b)] [] (w) 0 0
  refine G_iload_n dX4_less_0 rfl ?_
  refine G_iload_n dX4_less_1 rfl ?_
  refine G_icmp_ge 9 dX4_less_2 (by decide) (fun c2 => ?_) (fun c2 => ?_)
  · refine G_iload_n dX4_less_9 rfl ?_
    exact G_iret dX4_less_10 ⟨Nat.zero_le _, Nat.zero_le _⟩ (X_i (by rw [← mn_flip, if_neg (Int32.not_lt.mpr c2)]))
  · refine G_iload_n dX4_less_5 rfl ?_
    refine G_goto 10 dX4_less_6 (by decide) ?_
    exact G_iret dX4_less_10 ⟨Nat.zero_le _, Nat.zero_le _⟩ (X_i (by rw [← mn_flip, if_pos (Int32.not_le.mp c2)]))
theorem c_atLeastNone {w : mj_W} {a : Int32} : MC l yX4_atLeastNone wsX4_atLeastNone rmX4_atLeastNone false [.int a] (w) (some (.int (mx0 a))) (w) := by
  refine mj_MC (cc := cX4_atLeastNone) (nl := 1) (ret := (some .int)) (plainFor_of_name (by decide)) rfl (⟨_, rfl, rfl⟩) (Nat.le_of_ble_eq_true rfl) ?_
  show GG l cX4_atLeastNone MX4_atLeastNone false (.inl ((some (.int (mx0 a))), w)) 0 [some (.int a)] [] (w) 0 0
  refine G_iload_n dX4_atLeastNone_0 rfl ?_
  refine G_if_ge 8 dX4_atLeastNone_1 (by decide) (fun c1 => ?_) (fun c1 => ?_)
  · refine G_iload_n dX4_atLeastNone_8 rfl ?_
    exact G_iret dX4_atLeastNone_9 ⟨Nat.zero_le _, Nat.zero_le _⟩ (X_i (by unfold mx0; rw [if_neg (Int32.not_lt.mpr c1)]))
  · refine G_iconst (v := 0) dX4_atLeastNone_4 (by decide) ?_
    refine G_goto 9 dX4_atLeastNone_5 (by decide) ?_
    exact G_iret dX4_atLeastNone_9 ⟨Nat.zero_le _, Nat.zero_le _⟩ (X_i (by unfold mx0; rw [if_pos (Int32.not_le.mp c1)]))
theorem m_rainOf (hΩ : FV mp p1 fs Ω) {f : mj_S} {d sg : Nat} (hd : d < 2147483648) (hs : f 2 = nI sg) (hs9 : sg ≤ 9) : MC l yX4_rainOf wsX4_rainOf rmX4_rainOf false [.ref mp, .int (nI (d))] (Ω f) (some (.int (nI (s_rain f d)))) (Ω f) := by
  refine mj_MC (cc := cX4_rainOf) (nl := 4) (ret := (some .int)) (plainFor_of_name (by decide)) rfl (⟨_, rfl, rfl⟩) (Nat.le_of_ble_eq_true rfl) ?_
  show GG l cX4_rainOf MX4_rainOf false (.inl ((some (.int (nI (s_rain f d)))), Ω f)) 0 [some (.ref mp), some (.int (nI (d))), none, none] [] (Ω f) 0 0
  refine G_ldc2 (v := 7) dX4_rainOf_0 (by decide +kernel) ?_
  refine G_iload_n dX4_rainOf_3 rfl ?_
  refine G_i2l dX4_rainOf_4 ?_
  refine G_lmul dX4_rainOf_5 ?_
  refine G_aload_n dX4_rainOf_6 rfl ?_
  refine G_getf dX4_rainOf_7 fX4_rainOf_7 ((hΩ.2 _).1) (hΩ.1) ?_
  refine G_iconst (v := 2) dX4_rainOf_10 (by decide) ?_
  refine G_ialdN (j := 2) dX4_rainOf_11 ((hΩ.2 _).2.1) (by omega) ?_
  refine G_i2l dX4_rainOf_12 ?_
  refine G_ladd dX4_rainOf_13 ?_
  refine G_lstore_n dX4_rainOf_14 rfl (L' := [some (.ref mp), some (.int (nI (d))), some (.long ((7 * ((nI (d)) : Int32).toInt64) + ((f (2)) : Int32).toInt64)), none]) rfl ?_
  refine G_lload_n dX4_rainOf_15 rfl ?_
  refine G_ldc2 (v := 10) dX4_rainOf_16 (by decide +kernel) ?_
  refine G_lrem dX4_rainOf_19 (by decide) ?_
  refine G_l2i dX4_rainOf_20 ?_
  refine G_iret dX4_rainOf_21 ⟨Nat.zero_le _, Nat.zero_le _⟩ ?_
  have e1 : (nI d).toInt64 = lN d := nI_l hd
  have e2 : (f 2).toInt64 = lN sg := by rw [hs]; exact nI_l (by omega)
  rw [e1, e2, show (7 : Int64) = lN 7 from rfl, show (10 : Int64) = lN 10 from rfl, lN_mul, lN_add, pk_lRem (by omega) (by omega) (by omega), lN_i]
  exact X_i (congrArg nI (by rw [s_rain, hs, nI_clamp (by omega)]))
theorem m_soak (hΩ : FV mp p1 fs Ω) {f : mj_S} {p : Nat} (hp : p < 20) : MC l yX4_soak wsX4_soak rmX4_soak false [.ref mp, .int (nI (p))] (Ω f) none (Ω (s_soak p f)) := by
  refine mj_MC (cc := cX4_soak) (nl := 4) (ret := none) (plainFor_of_name (by decide)) rfl (rfl) (Nat.le_of_ble_eq_true rfl) ?_
  show GG l cX4_soak MX4_soak false (.inl (none, Ω (s_soak p f))) 0 [some (.ref mp), some (.int (nI (p))), none, none] [] (Ω f) 0 0
  refine G_aload_n dX4_soak_0 rfl ?_
  refine G_getf dX4_soak_1 fX4_soak_7 ((hΩ.2 _).1) (hΩ.1) ?_
  refine G_bipush (v := 113) dX4_soak_4 (by decide) ?_
  refine G_iload_n dX4_soak_6 rfl ?_
  refine G_iaddN (a := 113) (c := p) (s := 113 + p) dX4_soak_7 (by omega) ?_
  refine G_ialdN (j := 113 + p) dX4_soak_8 ((hΩ.2 _).2.1) (by omega) ?_
  refine G_iconst (v := 1) dX4_soak_9 (by decide) ?_
  refine G_iadd dX4_soak_10 ?_
  refine G_iconst (v := 2) dX4_soak_11 (by decide) ?_
  refine G_idiv dX4_soak_12 (by decide) ?_
  refine G_istore_n dX4_soak_13 rfl (L' := [some (.ref mp), some (.int (nI (p))), some (.int (((f (113 + p)) + 1) / 2)), none]) rfl ?_
  refine G_aload_n dX4_soak_14 rfl ?_
  refine G_getf dX4_soak_15 fX4_soak_7 ((hΩ.2 _).1) (hΩ.1) ?_
  refine G_bipush (v := 93) dX4_soak_18 (by decide) ?_
  refine G_iload_n dX4_soak_20 rfl ?_
  refine G_iaddN (a := 93) (c := p) (s := 93 + p) dX4_soak_21 (by omega) ?_
  refine G_ialdN (j := 93 + p) dX4_soak_22 ((hΩ.2 _).2.1) (by omega) ?_
  refine G_iconst (v := 1) dX4_soak_23 (by decide) ?_
  refine G_iadd dX4_soak_24 ?_
  refine G_iconst (v := 2) dX4_soak_25 (by decide) ?_
  refine G_idiv dX4_soak_26 (by decide) ?_
  refine G_istore_n dX4_soak_27 rfl (L' := [some (.ref mp), some (.int (nI (p))), some (.int (((f (113 + p)) + 1) / 2)), some (.int (((f (93 + p)) + 1) / 2))]) rfl ?_
  refine G_aload_n dX4_soak_28 rfl ?_
  refine G_getf dX4_soak_29 fX4_soak_7 ((hΩ.2 _).1) (hΩ.1) ?_
  refine G_bipush (v := 113) dX4_soak_32 (by decide) ?_
  refine G_iload_n dX4_soak_34 rfl ?_
  refine G_iaddN (a := 113) (c := p) (s := 113 + p) dX4_soak_35 (by omega) ?_
  refine G_dup2 dX4_soak_36 rfl rfl ?_
  refine G_ialdN (j := 113 + p) dX4_soak_37 ((hΩ.2 _).2.1) (by omega) ?_
  refine G_iload_n dX4_soak_38 rfl ?_
  refine G_isub dX4_soak_39 ?_
  obtain ⟨f1, ef1⟩ : ∃ z : mj_S, z = upd f (113 + p) ((f (113 + p)) - (((f (113 + p)) + 1) / 2)) := ⟨_, rfl⟩
  refine G_iastN (j := 113 + p) dX4_soak_40 ((hΩ.2 _).2.1) (by omega) (((hΩ.2 _).2.2 _).trans (congrArg Ω ef1.symm)) ?_
  refine G_aload_n dX4_soak_41 rfl ?_
  refine G_getf dX4_soak_42 fX4_soak_7 ((hΩ.2 _).1) (hΩ.1) ?_
  refine G_bipush (v := 93) dX4_soak_45 (by decide) ?_
  refine G_iload_n dX4_soak_47 rfl ?_
  refine G_iaddN (a := 93) (c := p) (s := 93 + p) dX4_soak_48 (by omega) ?_
  refine G_dup2 dX4_soak_49 rfl rfl ?_
  refine G_ialdN (j := 93 + p) dX4_soak_50 ((hΩ.2 _).2.1) (by omega) ?_
  refine G_iload_n dX4_soak_51 rfl ?_
  refine G_isub dX4_soak_52 ?_
  obtain ⟨f2, ef2⟩ : ∃ z : mj_S, z = upd f1 (93 + p) ((f1 (93 + p)) - (((f (93 + p)) + 1) / 2)) := ⟨_, rfl⟩
  refine G_iastN (j := 93 + p) dX4_soak_53 ((hΩ.2 _).2.1) (by omega) (((hΩ.2 _).2.2 _).trans (congrArg Ω ef2.symm)) ?_
  refine G_aload_n dX4_soak_54 rfl ?_
  refine G_getf dX4_soak_55 fX4_soak_7 ((hΩ.2 _).1) (hΩ.1) ?_
  refine G_bipush (v := 73) dX4_soak_58 (by decide) ?_
  refine G_iload_n dX4_soak_60 rfl ?_
  refine G_iaddN (a := 73) (c := p) (s := 73 + p) dX4_soak_61 (by omega) ?_
  refine G_dup2 dX4_soak_62 rfl rfl ?_
  refine G_ialdN (j := 73 + p) dX4_soak_63 ((hΩ.2 _).2.1) (by omega) ?_
  refine G_iload_n dX4_soak_64 rfl ?_
  refine G_iload_n dX4_soak_65 rfl ?_
  refine G_iadd dX4_soak_66 ?_
  refine G_iadd dX4_soak_67 ?_
  obtain ⟨f3, ef3⟩ : ∃ z : mj_S, z = upd f2 (73 + p) ((f2 (73 + p)) + ((((f (113 + p)) + 1) / 2) + (((f (93 + p)) + 1) / 2))) := ⟨_, rfl⟩
  refine G_iastN (j := 73 + p) dX4_soak_68 ((hΩ.2 _).2.1) (by omega) (((hΩ.2 _).2.2 _).trans (congrArg Ω ef3.symm)) ?_
  exact G_vret dX4_soak_69 ⟨Nat.zero_le _, Nat.zero_le _⟩ (X_w (by congr 1; subst ef3; subst ef2; subst ef1; rw [s_soak]; funext k; simp only [upd]; split <;> (try split) <;> (try split) <;> simp_all <;> grind))
theorem m_dry (hΩ : FV mp p1 fs Ω) {f : mj_S} {p : Nat} (hp : p < 20) : MC l yX4_dry wsX4_dry rmX4_dry false [.ref mp, .int (nI (p))] (Ω f) none (Ω (s_dry p f)) := by
  refine mj_MC (cc := cX4_dry) (nl := 4) (ret := none) (plainFor_of_name (by decide)) rfl (rfl) (Nat.le_of_ble_eq_true rfl) ?_
  show GG l cX4_dry MX4_dry false (.inl (none, Ω (s_dry p f))) 0 [some (.ref mp), some (.int (nI (p))), none, none] [] (Ω f) 0 0
  refine G_aload_n dX4_dry_0 rfl ?_
  refine G_getf dX4_dry_1 fX4_dry_7 ((hΩ.2 _).1) (hΩ.1) ?_
  refine G_bipush (v := 93) dX4_dry_4 (by decide) ?_
  refine G_iload_n dX4_dry_6 rfl ?_
  refine G_iaddN (a := 93) (c := p) (s := 93 + p) dX4_dry_7 (by omega) ?_
  refine G_ialdN (j := 93 + p) dX4_dry_8 ((hΩ.2 _).2.1) (by omega) ?_
  refine G_iconst (v := 3) dX4_dry_9 (by decide) ?_
  refine G_idiv dX4_dry_10 (by decide) ?_
  refine G_iconst (v := 1) dX4_dry_11 (by decide) ?_
  refine G_iadd dX4_dry_12 ?_
  refine G_aload_n dX4_dry_13 rfl ?_
  refine G_getf dX4_dry_14 fX4_dry_7 ((hΩ.2 _).1) (hΩ.1) ?_
  refine G_bipush (v := 93) dX4_dry_17 (by decide) ?_
  refine G_iload_n dX4_dry_19 rfl ?_
  refine G_iaddN (a := 93) (c := p) (s := 93 + p) dX4_dry_20 (by omega) ?_
  refine G_ialdN (j := 93 + p) dX4_dry_21 ((hΩ.2 _).2.1) (by omega) ?_
  refine G_callSi dX4_dry_22 kX4_dry_X4_less ⟨rfl, rfl⟩ ⟨Nat.zero_le _, Nat.zero_le _⟩ (c_less) rfl rfl rfl ?_
  refine G_istore_n dX4_dry_25 rfl (L' := [some (.ref mp), some (.int (nI (p))), some (.int (mn (((f (93 + p)) / 3) + 1) (f (93 + p)))), none]) rfl ?_
  refine G_aload_n dX4_dry_26 rfl ?_
  refine G_getf dX4_dry_27 fX4_dry_7 ((hΩ.2 _).1) (hΩ.1) ?_
  refine G_bipush (v := 93) dX4_dry_30 (by decide) ?_
  refine G_iload_n dX4_dry_32 rfl ?_
  refine G_iaddN (a := 93) (c := p) (s := 93 + p) dX4_dry_33 (by omega) ?_
  refine G_dup2 dX4_dry_34 rfl rfl ?_
  refine G_ialdN (j := 93 + p) dX4_dry_35 ((hΩ.2 _).2.1) (by omega) ?_
  refine G_iload_n dX4_dry_36 rfl ?_
  refine G_isub dX4_dry_37 ?_
  obtain ⟨f1, ef1⟩ : ∃ z : mj_S, z = upd f (93 + p) ((f (93 + p)) - (mn (((f (93 + p)) / 3) + 1) (f (93 + p)))) := ⟨_, rfl⟩
  refine G_iastN (j := 93 + p) dX4_dry_38 ((hΩ.2 _).2.1) (by omega) (((hΩ.2 _).2.2 _).trans (congrArg Ω ef1.symm)) ?_
  refine G_aload_n dX4_dry_39 rfl ?_
  refine G_getf dX4_dry_40 fX4_dry_7 ((hΩ.2 _).1) (hΩ.1) ?_
  refine G_bipush (v := 113) dX4_dry_43 (by decide) ?_
  refine G_iload_n dX4_dry_45 rfl ?_
  refine G_iaddN (a := 113) (c := p) (s := 113 + p) dX4_dry_46 (by omega) ?_
  refine G_dup2 dX4_dry_47 rfl rfl ?_
  refine G_ialdN (j := 113 + p) dX4_dry_48 ((hΩ.2 _).2.1) (by omega) ?_
  refine G_iload_n dX4_dry_49 rfl ?_
  refine G_iadd dX4_dry_50 ?_
  obtain ⟨f2, ef2⟩ : ∃ z : mj_S, z = upd f1 (113 + p) ((f1 (113 + p)) + (mn (((f (93 + p)) / 3) + 1) (f (93 + p)))) := ⟨_, rfl⟩
  refine G_iastN (j := 113 + p) dX4_dry_51 ((hΩ.2 _).2.1) (by omega) (((hΩ.2 _).2.2 _).trans (congrArg Ω ef2.symm)) ?_
  refine G_aload_n dX4_dry_52 rfl ?_
  refine G_getf dX4_dry_53 fX4_dry_7 ((hΩ.2 _).1) (hΩ.1) ?_
  refine G_bipush (v := 73) dX4_dry_56 (by decide) ?_
  refine G_iload_n dX4_dry_58 rfl ?_
  refine G_iaddN (a := 73) (c := p) (s := 73 + p) dX4_dry_59 (by omega) ?_
  refine G_ialdN (j := 73 + p) dX4_dry_60 ((hΩ.2 _).2.1) (by omega) ?_
  refine G_iconst (v := 1) dX4_dry_61 (by decide) ?_
  refine G_iadd dX4_dry_62 ?_
  refine G_iconst (v := 2) dX4_dry_63 (by decide) ?_
  refine G_idiv dX4_dry_64 (by decide) ?_
  refine G_istore_n dX4_dry_65 rfl (L' := [some (.ref mp), some (.int (nI (p))), some (.int (mn (((f (93 + p)) / 3) + 1) (f (93 + p)))), some (.int (((f2 (73 + p)) + 1) / 2))]) rfl ?_
  refine G_aload_n dX4_dry_66 rfl ?_
  refine G_getf dX4_dry_67 fX4_dry_7 ((hΩ.2 _).1) (hΩ.1) ?_
  refine G_bipush (v := 73) dX4_dry_70 (by decide) ?_
  refine G_iload_n dX4_dry_72 rfl ?_
  refine G_iaddN (a := 73) (c := p) (s := 73 + p) dX4_dry_73 (by omega) ?_
  refine G_dup2 dX4_dry_74 rfl rfl ?_
  refine G_ialdN (j := 73 + p) dX4_dry_75 ((hΩ.2 _).2.1) (by omega) ?_
  refine G_iload_n dX4_dry_76 rfl ?_
  refine G_isub dX4_dry_77 ?_
  obtain ⟨f3, ef3⟩ : ∃ z : mj_S, z = upd f2 (73 + p) ((f2 (73 + p)) - (((f2 (73 + p)) + 1) / 2)) := ⟨_, rfl⟩
  refine G_iastN (j := 73 + p) dX4_dry_78 ((hΩ.2 _).2.1) (by omega) (((hΩ.2 _).2.2 _).trans (congrArg Ω ef3.symm)) ?_
  refine G_aload_n dX4_dry_79 rfl ?_
  refine G_getf dX4_dry_80 fX4_dry_7 ((hΩ.2 _).1) (hΩ.1) ?_
  refine G_bipush (v := 93) dX4_dry_83 (by decide) ?_
  refine G_iload_n dX4_dry_85 rfl ?_
  refine G_iaddN (a := 93) (c := p) (s := 93 + p) dX4_dry_86 (by omega) ?_
  refine G_dup2 dX4_dry_87 rfl rfl ?_
  refine G_ialdN (j := 93 + p) dX4_dry_88 ((hΩ.2 _).2.1) (by omega) ?_
  refine G_iload_n dX4_dry_89 rfl ?_
  refine G_iadd dX4_dry_90 ?_
  obtain ⟨f4, ef4⟩ : ∃ z : mj_S, z = upd f3 (93 + p) ((f3 (93 + p)) + (((f2 (73 + p)) + 1) / 2)) := ⟨_, rfl⟩
  refine G_iastN (j := 93 + p) dX4_dry_91 ((hΩ.2 _).2.1) (by omega) (((hΩ.2 _).2.2 _).trans (congrArg Ω ef4.symm)) ?_
  exact G_vret dX4_dry_92 ⟨Nat.zero_le _, Nat.zero_le _⟩ (X_w (by congr 1; subst ef4; subst ef3; subst ef2; subst ef1; rw [s_dry]; funext k; simp only [upd]; split <;> (try split) <;> (try split) <;> simp_all <;> grind))
theorem ml_workers (hΩ : FV mp p1 fs Ω) {f : mj_S} {h b res : Int32} : ∀ (d c : Nat) (x : Int32), c + d = 6 → res = itr (fun c a => if f (139 + c) = h ∧ f (145 + c) = b then a + 1 else a) d c x → GG l cX4_workers MX4_workers false (.inl (some (.int res), Ω f)) 5 [some (.ref mp), some (.int h), some (.int b), some (.int x), some (.int (nI (c)))] [] (Ω f) 0 0
  | 0, c, x, hc, hr => by
    refine G_iload dX4_workers_5 rfl ?_
    refine G_bipush (v := 6) dX4_workers_7 (by decide) ?_
    refine G_icmp_geN (a := c) (c := 6) 56 dX4_workers_9 (by decide) (by omega) (fun c9 => ?_) (fun c9 => ?_)
    · refine G_iload_n dX4_workers_56 rfl ?_
      exact G_iret dX4_workers_57 ⟨Nat.zero_le _, Nat.zero_le _⟩ (by rw [hr, itr_0])
    · exact (show False by omega).elim
  | d + 1, c, x, hc, hr => by
    refine G_iload dX4_workers_5 rfl ?_
    refine G_bipush (v := 6) dX4_workers_7 (by decide) ?_
    refine G_icmp_geN (a := c) (c := 6) 56 dX4_workers_9 (by decide) (by omega) (fun c9 => ?_) (fun c9 => ?_)
    · exact (show False by omega).elim
    · refine G_iload_n dX4_workers_12 rfl ?_
      refine G_aload_n dX4_workers_13 rfl ?_
      refine G_getf dX4_workers_14 fX4_workers_7 ((hΩ.2 _).1) (hΩ.1) ?_
      refine G_sipush (v := 139) dX4_workers_17 (by decide) ?_
      refine G_iload dX4_workers_20 rfl ?_
      refine G_iaddN (a := 139) (c := c) (s := 139 + c) dX4_workers_22 (by omega) ?_
      refine G_ialdN (j := 139 + c) dX4_workers_23 ((hΩ.2 _).2.1) (by omega) ?_
      refine G_iload_n dX4_workers_24 rfl ?_
      refine G_icmp_ne 47 dX4_workers_25 (by decide) (fun c25 => ?_) (fun c25 => ?_)
      · refine G_iconst (v := 0) dX4_workers_47 (by decide) ?_
        refine G_iadd dX4_workers_48 ?_
        refine G_istore_n dX4_workers_49 rfl (L' := [some (.ref mp), some (.int h), some (.int b), some (.int (x + 0)), some (.int (nI (c)))]) rfl ?_
        refine G_iincN (a := c) (s := c + 1) dX4_workers_50 rfl (by omega) (L' := [some (.ref mp), some (.int h), some (.int b), some (.int (x + 0)), some (.int (nI (c + 1)))]) rfl ?_
        refine G_goto 5 dX4_workers_53 (by decide) ?_
        exact ml_workers hΩ d (c + 1) (x + 0) (by omega) (by rw [hr, itr_s]; congr 1; simp [c25])
      · refine G_aload_n dX4_workers_28 rfl ?_
        refine G_getf dX4_workers_29 fX4_workers_7 ((hΩ.2 _).1) (hΩ.1) ?_
        refine G_sipush (v := 145) dX4_workers_32 (by decide) ?_
        refine G_iload dX4_workers_35 rfl ?_
        refine G_iaddN (a := 145) (c := c) (s := 145 + c) dX4_workers_37 (by omega) ?_
        refine G_ialdN (j := 145 + c) dX4_workers_38 ((hΩ.2 _).2.1) (by omega) ?_
        refine G_iload_n dX4_workers_39 rfl ?_
        refine G_icmp_ne 47 dX4_workers_40 (by decide) (fun c40 => ?_) (fun c40 => ?_)
        · refine G_iconst (v := 0) dX4_workers_47 (by decide) ?_
          refine G_iadd dX4_workers_48 ?_
          refine G_istore_n dX4_workers_49 rfl (L' := [some (.ref mp), some (.int h), some (.int b), some (.int (x + 0)), some (.int (nI (c)))]) rfl ?_
          refine G_iincN (a := c) (s := c + 1) dX4_workers_50 rfl (by omega) (L' := [some (.ref mp), some (.int h), some (.int b), some (.int (x + 0)), some (.int (nI (c + 1)))]) rfl ?_
          refine G_goto 5 dX4_workers_53 (by decide) ?_
          exact ml_workers hΩ d (c + 1) (x + 0) (by omega) (by rw [hr, itr_s]; congr 1; simp [c25, c40])
        · refine G_iconst (v := 1) dX4_workers_43 (by decide) ?_
          refine G_goto 48 dX4_workers_44 (by decide) ?_
          refine G_iadd dX4_workers_48 ?_
          refine G_istore_n dX4_workers_49 rfl (L' := [some (.ref mp), some (.int h), some (.int b), some (.int (x + 1)), some (.int (nI (c)))]) rfl ?_
          refine G_iincN (a := c) (s := c + 1) dX4_workers_50 rfl (by omega) (L' := [some (.ref mp), some (.int h), some (.int b), some (.int (x + 1)), some (.int (nI (c + 1)))]) rfl ?_
          refine G_goto 5 dX4_workers_53 (by decide) ?_
          exact ml_workers hΩ d (c + 1) (x + 1) (by omega) (by rw [hr, itr_s]; congr 1; simp [c25, c40])
theorem m_workers (hΩ : FV mp p1 fs Ω) {f : mj_S} {h b : Int32} : MC l yX4_workers wsX4_workers rmX4_workers false [.ref mp, .int h, .int b] (Ω f) (some (.int (s_cnt f h b))) (Ω f) := by
  refine mj_MC (cc := cX4_workers) (nl := 5) (ret := (some .int)) (plainFor_of_name (by decide)) rfl (⟨_, rfl, rfl⟩) (Nat.le_of_ble_eq_true rfl) ?_
  show GG l cX4_workers MX4_workers false (.inl ((some (.int (s_cnt f h b))), Ω f)) 0 [some (.ref mp), some (.int h), some (.int b), none, none] [] (Ω f) 0 0
  refine G_iconst (v := 0) dX4_workers_0 (by decide) ?_
  refine G_istore_n dX4_workers_1 rfl (L' := [some (.ref mp), some (.int h), some (.int b), some (.int 0), none]) rfl ?_
  refine G_iconst (v := 0) dX4_workers_2 (by decide) ?_
  refine G_istore dX4_workers_3 rfl (L' := [some (.ref mp), some (.int h), some (.int b), some (.int 0), some (.int 0)]) rfl ?_
  exact ml_workers hΩ 6 0 0 rfl rfl
theorem ml_workersOn (hΩ : FV mp p1 fs Ω) {f : mj_S} {b res : Int32} : ∀ (d c : Nat) (x : Int32), c + d = 5 → res = itr (fun h a => a + s_cnt f (nI h) b) d c x → GG l cX4_workersOn MX4_workersOn false (.inl (some (.int res), Ω f)) 4 [some (.ref mp), some (.int b), some (.int x), some (.int (nI (c)))] [] (Ω f) 0 0
  | 0, c, x, hc, hr => by
    refine G_iload_n dX4_workersOn_4 rfl ?_
    refine G_iconst (v := 5) dX4_workersOn_5 (by decide) ?_
    refine G_icmp_geN (a := c) (c := 5) 24 dX4_workersOn_6 (by decide) (by omega) (fun c6 => ?_) (fun c6 => ?_)
    · refine G_iload_n dX4_workersOn_24 rfl ?_
      exact G_iret dX4_workersOn_25 ⟨Nat.zero_le _, Nat.zero_le _⟩ (by rw [hr, itr_0])
    · exact (show False by omega).elim
  | d + 1, c, x, hc, hr => by
    refine G_iload_n dX4_workersOn_4 rfl ?_
    refine G_iconst (v := 5) dX4_workersOn_5 (by decide) ?_
    refine G_icmp_geN (a := c) (c := 5) 24 dX4_workersOn_6 (by decide) (by omega) (fun c6 => ?_) (fun c6 => ?_)
    · exact (show False by omega).elim
    · refine G_iload_n dX4_workersOn_9 rfl ?_
      refine G_aload_n dX4_workersOn_10 rfl ?_
      refine G_iload_n dX4_workersOn_11 rfl ?_
      refine G_iload_n dX4_workersOn_12 rfl ?_
      refine G_callVi dX4_workersOn_13 kX4_workersOn_X4_workers ⟨rfl, rfl⟩ ⟨Nat.zero_le _, Nat.zero_le _⟩ (m_workers hΩ) rfl rfl ((hΩ.2 _).1) rfl rfl ?_
      refine G_iadd dX4_workersOn_16 ?_
      refine G_istore_n dX4_workersOn_17 rfl (L' := [some (.ref mp), some (.int b), some (.int (x + (s_cnt f (nI (c)) b))), some (.int (nI (c)))]) rfl ?_
      refine G_iincN (a := c) (s := c + 1) dX4_workersOn_18 rfl (by omega) (L' := [some (.ref mp), some (.int b), some (.int (x + (s_cnt f (nI (c)) b))), some (.int (nI (c + 1)))]) rfl ?_
      refine G_goto 4 dX4_workersOn_21 (by decide) ?_
      exact ml_workersOn hΩ d (c + 1) (x + (s_cnt f (nI (c)) b)) (by omega) hr
theorem m_workersOn (hΩ : FV mp p1 fs Ω) {f : mj_S} {b : Int32} : MC l yX4_workersOn wsX4_workersOn rmX4_workersOn false [.ref mp, .int b] (Ω f) (some (.int (s_cntB f b))) (Ω f) := by
  refine mj_MC (cc := cX4_workersOn) (nl := 4) (ret := (some .int)) (plainFor_of_name (by decide)) rfl (⟨_, rfl, rfl⟩) (Nat.le_of_ble_eq_true rfl) ?_
  show GG l cX4_workersOn MX4_workersOn false (.inl ((some (.int (s_cntB f b))), Ω f)) 0 [some (.ref mp), some (.int b), none, none] [] (Ω f) 0 0
  refine G_iconst (v := 0) dX4_workersOn_0 (by decide) ?_
  refine G_istore_n dX4_workersOn_1 rfl (L' := [some (.ref mp), some (.int b), some (.int 0), none]) rfl ?_
  refine G_iconst (v := 0) dX4_workersOn_2 (by decide) ?_
  refine G_istore_n dX4_workersOn_3 rfl (L' := [some (.ref mp), some (.int b), some (.int 0), some (.int 0)]) rfl ?_
  exact ml_workersOn hΩ 5 0 0 rfl rfl
theorem ml_allWorkers (hΩ : FV mp p1 fs Ω) {f : mj_S} {res : Int32} : ∀ (d c : Nat) (x : Int32), c + d = 4 → res = itr (fun b a => a + s_cntB f (nI b)) d c x → GG l cX4_allWorkers MX4_allWorkers false (.inl (some (.int res), Ω f)) 4 [some (.ref mp), some (.int x), some (.int (nI (c)))] [] (Ω f) 0 0
  | 0, c, x, hc, hr => by
    refine G_iload_n dX4_allWorkers_4 rfl ?_
    refine G_iconst (v := 4) dX4_allWorkers_5 (by decide) ?_
    refine G_icmp_geN (a := c) (c := 4) 23 dX4_allWorkers_6 (by decide) (by omega) (fun c6 => ?_) (fun c6 => ?_)
    · refine G_iload_n dX4_allWorkers_23 rfl ?_
      exact G_iret dX4_allWorkers_24 ⟨Nat.zero_le _, Nat.zero_le _⟩ (by rw [hr, itr_0])
    · exact (show False by omega).elim
  | d + 1, c, x, hc, hr => by
    refine G_iload_n dX4_allWorkers_4 rfl ?_
    refine G_iconst (v := 4) dX4_allWorkers_5 (by decide) ?_
    refine G_icmp_geN (a := c) (c := 4) 23 dX4_allWorkers_6 (by decide) (by omega) (fun c6 => ?_) (fun c6 => ?_)
    · exact (show False by omega).elim
    · refine G_iload_n dX4_allWorkers_9 rfl ?_
      refine G_aload_n dX4_allWorkers_10 rfl ?_
      refine G_iload_n dX4_allWorkers_11 rfl ?_
      refine G_callVi dX4_allWorkers_12 kX4_allWorkers_X4_workersOn ⟨rfl, rfl⟩ ⟨Nat.zero_le _, Nat.zero_le _⟩ (m_workersOn hΩ) rfl rfl ((hΩ.2 _).1) rfl rfl ?_
      refine G_iadd dX4_allWorkers_15 ?_
      refine G_istore_n dX4_allWorkers_16 rfl (L' := [some (.ref mp), some (.int (x + (s_cntB f (nI (c))))), some (.int (nI (c)))]) rfl ?_
      refine G_iincN (a := c) (s := c + 1) dX4_allWorkers_17 rfl (by omega) (L' := [some (.ref mp), some (.int (x + (s_cntB f (nI (c))))), some (.int (nI (c + 1)))]) rfl ?_
      refine G_goto 4 dX4_allWorkers_20 (by decide) ?_
      exact ml_allWorkers hΩ d (c + 1) (x + (s_cntB f (nI (c)))) (by omega) hr
theorem m_allWorkers (hΩ : FV mp p1 fs Ω) {f : mj_S} : MC l yX4_allWorkers wsX4_allWorkers rmX4_allWorkers false [.ref mp] (Ω f) (some (.int (s_cntA f))) (Ω f) := by
  refine mj_MC (cc := cX4_allWorkers) (nl := 3) (ret := (some .int)) (plainFor_of_name (by decide)) rfl (⟨_, rfl, rfl⟩) (Nat.le_of_ble_eq_true rfl) ?_
  show GG l cX4_allWorkers MX4_allWorkers false (.inl ((some (.int (s_cntA f))), Ω f)) 0 [some (.ref mp), none, none] [] (Ω f) 0 0
  refine G_iconst (v := 0) dX4_allWorkers_0 (by decide) ?_
  refine G_istore_n dX4_allWorkers_1 rfl (L' := [some (.ref mp), some (.int 0), none]) rfl ?_
  refine G_iconst (v := 0) dX4_allWorkers_2 (by decide) ?_
  refine G_istore_n dX4_allWorkers_3 rfl (L' := [some (.ref mp), some (.int 0), some (.int 0)]) rfl ?_
  exact ml_allWorkers hΩ 4 0 0 rfl rfl
theorem m_turvesOn (hΩ : FV mp p1 fs Ω) {f : mj_S} {h b : Nat} (hh : h < 5) (hb : b < 4) : MC l yX4_turvesOn wsX4_turvesOn rmX4_turvesOn false [.ref mp, .int (nI (h)), .int (nI (b))] (Ω f) (some (.int (s_tv f (b + 4 * h)))) (Ω f) := by
  refine mj_MC (cc := cX4_turvesOn) (nl := 4) (ret := (some .int)) (plainFor_of_name (by decide)) rfl (⟨_, rfl, rfl⟩) (Nat.le_of_ble_eq_true rfl) ?_
  show GG l cX4_turvesOn MX4_turvesOn false (.inl ((some (.int (s_tv f (b + 4 * h)))), Ω f)) 0 [some (.ref mp), some (.int (nI (h))), some (.int (nI (b))), none] [] (Ω f) 0 0
  refine G_iconst (v := 4) dX4_turvesOn_0 (by decide) ?_
  refine G_iload_n dX4_turvesOn_1 rfl ?_
  refine G_imulN (a := 4) (c := h) (s := 4 * h) dX4_turvesOn_2 (by omega) ?_
  refine G_iload_n dX4_turvesOn_3 rfl ?_
  refine G_iaddN (a := 4 * h) (c := b) (s := b + 4 * h) dX4_turvesOn_4 (by omega) ?_
  refine G_istore_n dX4_turvesOn_5 rfl (L' := [some (.ref mp), some (.int (nI (h))), some (.int (nI (b))), some (.int (nI (b + 4 * h)))]) rfl ?_
  refine G_aload_n dX4_turvesOn_6 rfl ?_
  refine G_getf dX4_turvesOn_7 fX4_turvesOn_7 ((hΩ.2 _).1) (hΩ.1) ?_
  refine G_bipush (v := 73) dX4_turvesOn_10 (by decide) ?_
  refine G_iload_n dX4_turvesOn_12 rfl ?_
  refine G_iaddN (a := 73) (c := b + 4 * h) (s := 73 + b + 4 * h) dX4_turvesOn_13 (by omega) ?_
  refine G_ialdN (j := 73 + b + 4 * h) dX4_turvesOn_14 ((hΩ.2 _).2.1) (by omega) ?_
  refine G_aload_n dX4_turvesOn_15 rfl ?_
  refine G_getf dX4_turvesOn_16 fX4_turvesOn_7 ((hΩ.2 _).1) (hΩ.1) ?_
  refine G_bipush (v := 93) dX4_turvesOn_19 (by decide) ?_
  refine G_iload_n dX4_turvesOn_21 rfl ?_
  refine G_iaddN (a := 93) (c := b + 4 * h) (s := 93 + b + 4 * h) dX4_turvesOn_22 (by omega) ?_
  refine G_ialdN (j := 93 + b + 4 * h) dX4_turvesOn_23 ((hΩ.2 _).2.1) (by omega) ?_
  refine G_iadd dX4_turvesOn_24 ?_
  refine G_aload_n dX4_turvesOn_25 rfl ?_
  refine G_getf dX4_turvesOn_26 fX4_turvesOn_7 ((hΩ.2 _).1) (hΩ.1) ?_
  refine G_bipush (v := 113) dX4_turvesOn_29 (by decide) ?_
  refine G_iload_n dX4_turvesOn_31 rfl ?_
  refine G_iaddN (a := 113) (c := b + 4 * h) (s := 113 + b + 4 * h) dX4_turvesOn_32 (by omega) ?_
  refine G_ialdN (j := 113 + b + 4 * h) dX4_turvesOn_33 ((hΩ.2 _).2.1) (by omega) ?_
  refine G_iadd dX4_turvesOn_34 ?_
  exact G_iret dX4_turvesOn_35 ⟨Nat.zero_le _, Nat.zero_le _⟩ (X_i (by rw [s_tv]; simp only [Nat.add_assoc]))
theorem ml_ofHearth (hΩ : FV mp p1 fs Ω) {f : mj_S} {h : Nat} {res : Int32} (hh : h < 5) : ∀ (d c : Nat) (x : Int32), c + d = 4 → res = itr (fun b a => a + s_tv f (b + 4 * h)) d c x → GG l cX4_ofHearth MX4_ofHearth false (.inl (some (.int res), Ω f)) 4 [some (.ref mp), some (.int (nI (h))), some (.int x), some (.int (nI (c)))] [] (Ω f) 0 0
  | 0, c, x, hc, hr => by
    refine G_iload_n dX4_ofHearth_4 rfl ?_
    refine G_iconst (v := 4) dX4_ofHearth_5 (by decide) ?_
    refine G_icmp_geN (a := c) (c := 4) 24 dX4_ofHearth_6 (by decide) (by omega) (fun c6 => ?_) (fun c6 => ?_)
    · refine G_iload_n dX4_ofHearth_24 rfl ?_
      exact G_iret dX4_ofHearth_25 ⟨Nat.zero_le _, Nat.zero_le _⟩ (by rw [hr, itr_0])
    · exact (show False by omega).elim
  | d + 1, c, x, hc, hr => by
    refine G_iload_n dX4_ofHearth_4 rfl ?_
    refine G_iconst (v := 4) dX4_ofHearth_5 (by decide) ?_
    refine G_icmp_geN (a := c) (c := 4) 24 dX4_ofHearth_6 (by decide) (by omega) (fun c6 => ?_) (fun c6 => ?_)
    · exact (show False by omega).elim
    · refine G_iload_n dX4_ofHearth_9 rfl ?_
      refine G_aload_n dX4_ofHearth_10 rfl ?_
      refine G_iload_n dX4_ofHearth_11 rfl ?_
      refine G_iload_n dX4_ofHearth_12 rfl ?_
      refine G_callVi dX4_ofHearth_13 kX4_ofHearth_X4_turvesOn ⟨rfl, rfl⟩ ⟨Nat.zero_le _, Nat.zero_le _⟩ (m_turvesOn hΩ (h := h) (b := c) (by omega) (by omega)) rfl rfl ((hΩ.2 _).1) rfl rfl ?_
      refine G_iadd dX4_ofHearth_16 ?_
      refine G_istore_n dX4_ofHearth_17 rfl (L' := [some (.ref mp), some (.int (nI (h))), some (.int (x + (s_tv f (c + 4 * h)))), some (.int (nI (c)))]) rfl ?_
      refine G_iincN (a := c) (s := c + 1) dX4_ofHearth_18 rfl (by omega) (L' := [some (.ref mp), some (.int (nI (h))), some (.int (x + (s_tv f (c + 4 * h)))), some (.int (nI (c + 1)))]) rfl ?_
      refine G_goto 4 dX4_ofHearth_21 (by decide) ?_
      exact ml_ofHearth hΩ hh d (c + 1) (x + (s_tv f (c + 4 * h))) (by omega) hr
theorem m_ofHearth (hΩ : FV mp p1 fs Ω) {f : mj_S} {h : Nat} (hh : h < 5) : MC l yX4_ofHearth wsX4_ofHearth rmX4_ofHearth false [.ref mp, .int (nI (h))] (Ω f) (some (.int (s_tvH f h))) (Ω f) := by
  refine mj_MC (cc := cX4_ofHearth) (nl := 4) (ret := (some .int)) (plainFor_of_name (by decide)) rfl (⟨_, rfl, rfl⟩) (Nat.le_of_ble_eq_true rfl) ?_
  show GG l cX4_ofHearth MX4_ofHearth false (.inl ((some (.int (s_tvH f h))), Ω f)) 0 [some (.ref mp), some (.int (nI (h))), none, none] [] (Ω f) 0 0
  refine G_iconst (v := 0) dX4_ofHearth_0 (by decide) ?_
  refine G_istore_n dX4_ofHearth_1 rfl (L' := [some (.ref mp), some (.int (nI (h))), some (.int 0), none]) rfl ?_
  refine G_iconst (v := 0) dX4_ofHearth_2 (by decide) ?_
  refine G_istore_n dX4_ofHearth_3 rfl (L' := [some (.ref mp), some (.int (nI (h))), some (.int 0), some (.int 0)]) rfl ?_
  exact ml_ofHearth hΩ hh 4 0 0 rfl rfl
theorem ml_lieOn (hΩ : FV mp p1 fs Ω) {f : mj_S} {b : Nat} {res : Int32} (hb : b < 4) : ∀ (d c : Nat) (x : Int32), c + d = 5 → res = itr (fun h a => a + s_tv f (b + 4 * h)) d c x → GG l cX4_lieOn MX4_lieOn false (.inl (some (.int res), Ω f)) 4 [some (.ref mp), some (.int (nI (b))), some (.int x), some (.int (nI (c)))] [] (Ω f) 0 0
  | 0, c, x, hc, hr => by
    refine G_iload_n dX4_lieOn_4 rfl ?_
    refine G_iconst (v := 5) dX4_lieOn_5 (by decide) ?_
    refine G_icmp_geN (a := c) (c := 5) 24 dX4_lieOn_6 (by decide) (by omega) (fun c6 => ?_) (fun c6 => ?_)
    · refine G_iload_n dX4_lieOn_24 rfl ?_
      exact G_iret dX4_lieOn_25 ⟨Nat.zero_le _, Nat.zero_le _⟩ (by rw [hr, itr_0])
    · exact (show False by omega).elim
  | d + 1, c, x, hc, hr => by
    refine G_iload_n dX4_lieOn_4 rfl ?_
    refine G_iconst (v := 5) dX4_lieOn_5 (by decide) ?_
    refine G_icmp_geN (a := c) (c := 5) 24 dX4_lieOn_6 (by decide) (by omega) (fun c6 => ?_) (fun c6 => ?_)
    · exact (show False by omega).elim
    · refine G_iload_n dX4_lieOn_9 rfl ?_
      refine G_aload_n dX4_lieOn_10 rfl ?_
      refine G_iload_n dX4_lieOn_11 rfl ?_
      refine G_iload_n dX4_lieOn_12 rfl ?_
      refine G_callVi dX4_lieOn_13 kX4_lieOn_X4_turvesOn ⟨rfl, rfl⟩ ⟨Nat.zero_le _, Nat.zero_le _⟩ (m_turvesOn hΩ (h := c) (b := b) (by omega) (by omega)) rfl rfl ((hΩ.2 _).1) rfl rfl ?_
      refine G_iadd dX4_lieOn_16 ?_
      refine G_istore_n dX4_lieOn_17 rfl (L' := [some (.ref mp), some (.int (nI (b))), some (.int (x + (s_tv f (b + 4 * c)))), some (.int (nI (c)))]) rfl ?_
      refine G_iincN (a := c) (s := c + 1) dX4_lieOn_18 rfl (by omega) (L' := [some (.ref mp), some (.int (nI (b))), some (.int (x + (s_tv f (b + 4 * c)))), some (.int (nI (c + 1)))]) rfl ?_
      refine G_goto 4 dX4_lieOn_21 (by decide) ?_
      exact ml_lieOn hΩ hb d (c + 1) (x + (s_tv f (b + 4 * c))) (by omega) hr
theorem m_lieOn (hΩ : FV mp p1 fs Ω) {f : mj_S} {b : Nat} (hb : b < 4) : MC l yX4_lieOn wsX4_lieOn rmX4_lieOn false [.ref mp, .int (nI (b))] (Ω f) (some (.int (s_tvB f b))) (Ω f) := by
  refine mj_MC (cc := cX4_lieOn) (nl := 4) (ret := (some .int)) (plainFor_of_name (by decide)) rfl (⟨_, rfl, rfl⟩) (Nat.le_of_ble_eq_true rfl) ?_
  show GG l cX4_lieOn MX4_lieOn false (.inl ((some (.int (s_tvB f b))), Ω f)) 0 [some (.ref mp), some (.int (nI (b))), none, none] [] (Ω f) 0 0
  refine G_iconst (v := 0) dX4_lieOn_0 (by decide) ?_
  refine G_istore_n dX4_lieOn_1 rfl (L' := [some (.ref mp), some (.int (nI (b))), some (.int 0), none]) rfl ?_
  refine G_iconst (v := 0) dX4_lieOn_2 (by decide) ?_
  refine G_istore_n dX4_lieOn_3 rfl (L' := [some (.ref mp), some (.int (nI (b))), some (.int 0), some (.int 0)]) rfl ?_
  exact ml_lieOn hΩ hb 5 0 0 rfl rfl
theorem m_shortNow (hΩ : FV mp p1 fs Ω) {f : mj_S} {h : Nat} (hh : h < 5) : MC l yX4_shortNow wsX4_shortNow rmX4_shortNow false [.ref mp, .int (nI (h))] (Ω f) (some (.int (s_sh f h))) (Ω f) := by
  refine mj_MC (cc := cX4_shortNow) (nl := 2) (ret := (some .int)) (plainFor_of_name (by decide)) rfl (⟨_, rfl, rfl⟩) (Nat.le_of_ble_eq_true rfl) ?_
  show GG l cX4_shortNow MX4_shortNow false (.inl ((some (.int (s_sh f h))), Ω f)) 0 [some (.ref mp), some (.int (nI (h)))] [] (Ω f) 0 0
  refine G_aload_n dX4_shortNow_0 rfl ?_
  refine G_getf dX4_shortNow_1 fX4_shortNow_7 ((hΩ.2 _).1) (hΩ.1) ?_
  refine G_bipush (v := 10) dX4_shortNow_4 (by decide) ?_
  refine G_iload_n dX4_shortNow_6 rfl ?_
  refine G_iaddN (a := 10) (c := h) (s := 10 + h) dX4_shortNow_7 (by omega) ?_
  refine G_ialdN (j := 10 + h) dX4_shortNow_8 ((hΩ.2 _).2.1) (by omega) ?_
  refine G_aload_n dX4_shortNow_9 rfl ?_
  refine G_getf dX4_shortNow_10 fX4_shortNow_7 ((hΩ.2 _).1) (hΩ.1) ?_
  refine G_bipush (v := 15) dX4_shortNow_13 (by decide) ?_
  refine G_iload_n dX4_shortNow_15 rfl ?_
  refine G_iaddN (a := 15) (c := h) (s := 15 + h) dX4_shortNow_16 (by omega) ?_
  refine G_ialdN (j := 15 + h) dX4_shortNow_17 ((hΩ.2 _).2.1) (by omega) ?_
  refine G_isub dX4_shortNow_18 ?_
  refine G_callSi dX4_shortNow_19 kX4_shortNow_X4_atLeastNone ⟨rfl, rfl⟩ ⟨Nat.zero_le _, Nat.zero_le _⟩ (c_atLeastNone) rfl rfl rfl ?_
  exact G_iret dX4_shortNow_22 ⟨Nat.zero_le _, Nat.zero_le _⟩ (rfl)
theorem m_shortThen (hΩ : FV mp p1 fs Ω) {f : mj_S} {h : Nat} (hh : h < 5) : MC l yX4_shortThen wsX4_shortThen rmX4_shortThen false [.ref mp, .int (nI (h))] (Ω f) (some (.int (s_sh2 f h))) (Ω f) := by
  refine mj_MC (cc := cX4_shortThen) (nl := 2) (ret := (some .int)) (plainFor_of_name (by decide)) rfl (⟨_, rfl, rfl⟩) (Nat.le_of_ble_eq_true rfl) ?_
  show GG l cX4_shortThen MX4_shortThen false (.inl ((some (.int (s_sh2 f h))), Ω f)) 0 [some (.ref mp), some (.int (nI (h)))] [] (Ω f) 0 0
  refine G_aload_n dX4_shortThen_0 rfl ?_
  refine G_getf dX4_shortThen_1 fX4_shortThen_7 ((hΩ.2 _).1) (hΩ.1) ?_
  refine G_bipush (v := 10) dX4_shortThen_4 (by decide) ?_
  refine G_iload_n dX4_shortThen_6 rfl ?_
  refine G_iaddN (a := 10) (c := h) (s := 10 + h) dX4_shortThen_7 (by omega) ?_
  refine G_ialdN (j := 10 + h) dX4_shortThen_8 ((hΩ.2 _).2.1) (by omega) ?_
  refine G_aload_n dX4_shortThen_9 rfl ?_
  refine G_getf dX4_shortThen_10 fX4_shortThen_7 ((hΩ.2 _).1) (hΩ.1) ?_
  refine G_bipush (v := 15) dX4_shortThen_13 (by decide) ?_
  refine G_iload_n dX4_shortThen_15 rfl ?_
  refine G_iaddN (a := 15) (c := h) (s := 15 + h) dX4_shortThen_16 (by omega) ?_
  refine G_ialdN (j := 15 + h) dX4_shortThen_17 ((hΩ.2 _).2.1) (by omega) ?_
  refine G_isub dX4_shortThen_18 ?_
  refine G_aload_n dX4_shortThen_19 rfl ?_
  refine G_iload_n dX4_shortThen_20 rfl ?_
  refine G_callVi dX4_shortThen_21 kX4_shortThen_X4_ofHearth ⟨rfl, rfl⟩ ⟨Nat.zero_le _, Nat.zero_le _⟩ (m_ofHearth hΩ (h := h) (by omega)) rfl rfl ((hΩ.2 _).1) rfl rfl ?_
  refine G_isub dX4_shortThen_24 ?_
  refine G_callSi dX4_shortThen_25 kX4_shortThen_X4_atLeastNone ⟨rfl, rfl⟩ ⟨Nat.zero_le _, Nat.zero_le _⟩ (c_atLeastNone) rfl rfl rfl ?_
  exact G_iret dX4_shortThen_28 ⟨Nat.zero_le _, Nat.zero_le _⟩ (rfl)
theorem m_shortByBook (hΩ : FV mp p1 fs Ω) {f : mj_S} {h : Nat} (hh : h < 5) : MC l yX4_shortByBook wsX4_shortByBook rmX4_shortByBook false [.ref mp, .int (nI (h))] (Ω f) (some (.int (s_sh3 f h))) (Ω f) := by
  refine mj_MC (cc := cX4_shortByBook) (nl := 3) (ret := (some .int)) (plainFor_of_name (by decide)) rfl (⟨_, rfl, rfl⟩) (Nat.le_of_ble_eq_true rfl) ?_
  show GG l cX4_shortByBook MX4_shortByBook false (.inl ((some (.int (s_sh3 f h))), Ω f)) 0 [some (.ref mp), some (.int (nI (h))), none] [] (Ω f) 0 0
  refine G_aload_n dX4_shortByBook_0 rfl ?_
  refine G_getf dX4_shortByBook_1 fX4_shortByBook_7 ((hΩ.2 _).1) (hΩ.1) ?_
  refine G_bipush (v := 20) dX4_shortByBook_4 (by decide) ?_
  refine G_iload_n dX4_shortByBook_6 rfl ?_
  refine G_iaddN (a := 20) (c := h) (s := 20 + h) dX4_shortByBook_7 (by omega) ?_
  refine G_ialdN (j := 20 + h) dX4_shortByBook_8 ((hΩ.2 _).2.1) (by omega) ?_
  refine G_aload_n dX4_shortByBook_9 rfl ?_
  refine G_getf dX4_shortByBook_10 fX4_shortByBook_7 ((hΩ.2 _).1) (hΩ.1) ?_
  refine G_bipush (v := 25) dX4_shortByBook_13 (by decide) ?_
  refine G_iload_n dX4_shortByBook_15 rfl ?_
  refine G_iaddN (a := 25) (c := h) (s := 25 + h) dX4_shortByBook_16 (by omega) ?_
  refine G_ialdN (j := 25 + h) dX4_shortByBook_17 ((hΩ.2 _).2.1) (by omega) ?_
  refine G_iadd dX4_shortByBook_18 ?_
  refine G_aload_n dX4_shortByBook_19 rfl ?_
  refine G_getf dX4_shortByBook_20 fX4_shortByBook_7 ((hΩ.2 _).1) (hΩ.1) ?_
  refine G_bipush (v := 30) dX4_shortByBook_23 (by decide) ?_
  refine G_iload_n dX4_shortByBook_25 rfl ?_
  refine G_iaddN (a := 30) (c := h) (s := 30 + h) dX4_shortByBook_26 (by omega) ?_
  refine G_ialdN (j := 30 + h) dX4_shortByBook_27 ((hΩ.2 _).2.1) (by omega) ?_
  refine G_isub dX4_shortByBook_28 ?_
  refine G_aload_n dX4_shortByBook_29 rfl ?_
  refine G_getf dX4_shortByBook_30 fX4_shortByBook_7 ((hΩ.2 _).1) (hΩ.1) ?_
  refine G_bipush (v := 35) dX4_shortByBook_33 (by decide) ?_
  refine G_iload_n dX4_shortByBook_35 rfl ?_
  refine G_iaddN (a := 35) (c := h) (s := 35 + h) dX4_shortByBook_36 (by omega) ?_
  refine G_ialdN (j := 35 + h) dX4_shortByBook_37 ((hΩ.2 _).2.1) (by omega) ?_
  refine G_isub dX4_shortByBook_38 ?_
  refine G_istore_n dX4_shortByBook_39 rfl (L' := [some (.ref mp), some (.int (nI (h))), some (.int ((((f (20 + h)) + (f (25 + h))) - (f (30 + h))) - (f (35 + h))))]) rfl ?_
  refine G_aload_n dX4_shortByBook_40 rfl ?_
  refine G_getf dX4_shortByBook_41 fX4_shortByBook_7 ((hΩ.2 _).1) (hΩ.1) ?_
  refine G_bipush (v := 10) dX4_shortByBook_44 (by decide) ?_
  refine G_iload_n dX4_shortByBook_46 rfl ?_
  refine G_iaddN (a := 10) (c := h) (s := 10 + h) dX4_shortByBook_47 (by omega) ?_
  refine G_ialdN (j := 10 + h) dX4_shortByBook_48 ((hΩ.2 _).2.1) (by omega) ?_
  refine G_iload_n dX4_shortByBook_49 rfl ?_
  refine G_isub dX4_shortByBook_50 ?_
  refine G_callSi dX4_shortByBook_51 kX4_shortByBook_X4_atLeastNone ⟨rfl, rfl⟩ ⟨Nat.zero_le _, Nat.zero_le _⟩ (c_atLeastNone) rfl rfl rfl ?_
  exact G_iret dX4_shortByBook_54 ⟨Nat.zero_le _, Nat.zero_le _⟩ (rfl)
theorem ml_commons (hΩ : FV mp p1 fs Ω) {f : mj_S} {b : Nat} {res : Int32} (hb : b < 4) : ∀ (d c : Nat) (x : Int32), c + d = 5 → res = itr (fun h x => x - f (53 + b + 4 * h)) d c x → GG l cX4_commons MX4_commons false (.inl (some (.int res), Ω f)) 5 [some (.ref mp), some (.int (nI (b))), some (.int x), some (.int (nI (c)))] [] (Ω f) 0 0
  | 0, c, x, hc, hr => by
    refine G_iload_n dX4_commons_5 rfl ?_
    refine G_iconst (v := 5) dX4_commons_6 (by decide) ?_
    refine G_icmp_geN (a := c) (c := 5) 32 dX4_commons_7 (by decide) (by omega) (fun c7 => ?_) (fun c7 => ?_)
    · refine G_iload_n dX4_commons_32 rfl ?_
      exact G_iret dX4_commons_33 ⟨Nat.zero_le _, Nat.zero_le _⟩ (by rw [hr, itr_0])
    · exact (show False by omega).elim
  | d + 1, c, x, hc, hr => by
    refine G_iload_n dX4_commons_5 rfl ?_
    refine G_iconst (v := 5) dX4_commons_6 (by decide) ?_
    refine G_icmp_geN (a := c) (c := 5) 32 dX4_commons_7 (by decide) (by omega) (fun c7 => ?_) (fun c7 => ?_)
    · exact (show False by omega).elim
    · refine G_iload_n dX4_commons_10 rfl ?_
      refine G_aload_n dX4_commons_11 rfl ?_
      refine G_getf dX4_commons_12 fX4_commons_7 ((hΩ.2 _).1) (hΩ.1) ?_
      refine G_bipush (v := 53) dX4_commons_15 (by decide) ?_
      refine G_iconst (v := 4) dX4_commons_17 (by decide) ?_
      refine G_iload_n dX4_commons_18 rfl ?_
      refine G_imulN (a := 4) (c := c) (s := 4 * c) dX4_commons_19 (by omega) ?_
      refine G_iaddN (a := 53) (c := 4 * c) (s := 53 + 4 * c) dX4_commons_20 (by omega) ?_
      refine G_iload_n dX4_commons_21 rfl ?_
      refine G_iaddN (a := 53 + 4 * c) (c := b) (s := 53 + b + 4 * c) dX4_commons_22 (by omega) ?_
      refine G_ialdN (j := 53 + b + 4 * c) dX4_commons_23 ((hΩ.2 _).2.1) (by omega) ?_
      refine G_isub dX4_commons_24 ?_
      refine G_istore_n dX4_commons_25 rfl (L' := [some (.ref mp), some (.int (nI (b))), some (.int (x - (f (53 + b + 4 * c)))), some (.int (nI (c)))]) rfl ?_
      refine G_iincN (a := c) (s := c + 1) dX4_commons_26 rfl (by omega) (L' := [some (.ref mp), some (.int (nI (b))), some (.int (x - (f (53 + b + 4 * c)))), some (.int (nI (c + 1)))]) rfl ?_
      refine G_goto 5 dX4_commons_29 (by decide) ?_
      exact ml_commons hΩ hb d (c + 1) (x - (f (53 + b + 4 * c))) (by omega) (by rw [hr, itr_s])
theorem m_commons (hΩ : FV mp p1 fs Ω) {f : mj_S} {b : Nat} (hb : b < 4) : MC l yX4_commons wsX4_commons rmX4_commons false [.ref mp, .int (nI (b))] (Ω f) (some (.int (s_com f b))) (Ω f) := by
  refine mj_MC (cc := cX4_commons) (nl := 4) (ret := (some .int)) (plainFor_of_name (by decide)) rfl (⟨_, rfl, rfl⟩) (Nat.le_of_ble_eq_true rfl) ?_
  show GG l cX4_commons MX4_commons false (.inl ((some (.int (s_com f b))), Ω f)) 0 [some (.ref mp), some (.int (nI (b))), none, none] [] (Ω f) 0 0
  refine G_bipush (v := 12) dX4_commons_0 (by decide) ?_
  refine G_istore_n dX4_commons_2 rfl (L' := [some (.ref mp), some (.int (nI (b))), some (.int 12), none]) rfl ?_
  refine G_iconst (v := 0) dX4_commons_3 (by decide) ?_
  refine G_istore_n dX4_commons_4 rfl (L' := [some (.ref mp), some (.int (nI (b))), some (.int 12), some (.int 0)]) rfl ?_
  exact ml_commons hΩ hb 5 0 12 rfl rfl
theorem m_sharesOf (hΩ : FV mp p1 fs Ω) {f : mj_S} {h b : Nat} (hh : h < 5) (hb : b < 4) : MC l yX4_sharesOf wsX4_sharesOf rmX4_sharesOf false [.ref mp, .int (nI (h)), .int (nI (b))] (Ω f) (some (.int (f (53 + b + 4 * h)))) (Ω f) := by
  refine mj_MC (cc := cX4_sharesOf) (nl := 3) (ret := (some .int)) (plainFor_of_name (by decide)) rfl (⟨_, rfl, rfl⟩) (Nat.le_of_ble_eq_true rfl) ?_
  show GG l cX4_sharesOf MX4_sharesOf false (.inl ((some (.int (f (53 + b + 4 * h)))), Ω f)) 0 [some (.ref mp), some (.int (nI (h))), some (.int (nI (b)))] [] (Ω f) 0 0
  refine G_iload_n dX4_sharesOf_0 rfl ?_
  refine G_iconst (v := (-1)) dX4_sharesOf_1 (by decide) ?_
  refine G_icmp_ne 13 dX4_sharesOf_2 (by decide) (fun c2 => ?_) (fun c2 => ?_)
  · refine G_aload_n dX4_sharesOf_13 rfl ?_
    refine G_getf dX4_sharesOf_14 fX4_sharesOf_7 ((hΩ.2 _).1) (hΩ.1) ?_
    refine G_bipush (v := 53) dX4_sharesOf_17 (by decide) ?_
    refine G_iconst (v := 4) dX4_sharesOf_19 (by decide) ?_
    refine G_iload_n dX4_sharesOf_20 rfl ?_
    refine G_imulN (a := 4) (c := h) (s := 4 * h) dX4_sharesOf_21 (by omega) ?_
    refine G_iaddN (a := 53) (c := 4 * h) (s := 53 + 4 * h) dX4_sharesOf_22 (by omega) ?_
    refine G_iload_n dX4_sharesOf_23 rfl ?_
    refine G_iaddN (a := 53 + 4 * h) (c := b) (s := 53 + b + 4 * h) dX4_sharesOf_24 (by omega) ?_
    refine G_ialdN (j := 53 + b + 4 * h) dX4_sharesOf_25 ((hΩ.2 _).2.1) (by omega) ?_
    exact G_iret dX4_sharesOf_26 ⟨Nat.zero_le _, Nat.zero_le _⟩ (rfl)
  · exact absurd c2 (nI_m1 (by omega))
theorem m_sharesOfN (hΩ : FV mp p1 fs Ω) {f : mj_S} {b : Nat} (hb : b < 4) : MC l yX4_sharesOf wsX4_sharesOf rmX4_sharesOf false [.ref mp, .int (-1), .int (nI (b))] (Ω f) (some (.int (s_com f b))) (Ω f) := by
  refine mj_MC (cc := cX4_sharesOf) (nl := 3) (ret := (some .int)) (plainFor_of_name (by decide)) rfl (⟨_, rfl, rfl⟩) (Nat.le_of_ble_eq_true rfl) ?_
  show GG l cX4_sharesOf MX4_sharesOf false (.inl ((some (.int (s_com f b))), Ω f)) 0 [some (.ref mp), some (.int (-1)), some (.int (nI (b)))] [] (Ω f) 0 0
  refine G_iload_n dX4_sharesOf_0 rfl ?_
  refine G_iconst (v := (-1)) dX4_sharesOf_1 (by decide) ?_
  refine G_icmp_ne 13 dX4_sharesOf_2 (by decide) (fun c2 => ?_) (fun c2 => ?_)
  · exact absurd rfl c2
  · refine G_aload_n dX4_sharesOf_5 rfl ?_
    refine G_iload_n dX4_sharesOf_6 rfl ?_
    refine G_callVi dX4_sharesOf_7 kX4_sharesOf_X4_commons ⟨rfl, rfl⟩ ⟨Nat.zero_le _, Nat.zero_le _⟩ (m_commons hΩ (b := b) (by omega)) rfl rfl ((hΩ.2 _).1) rfl rfl ?_
    refine G_goto 26 dX4_sharesOf_10 (by decide) ?_
    exact G_iret dX4_sharesOf_26 ⟨Nat.zero_le _, Nat.zero_le _⟩ (rfl)
theorem m_reason (hΩ : FV mp p1 fs Ω) {f : mj_S} {h b : Nat} (hh : h < 5) (hb : b < 4) : MC l yX4_reason wsX4_reason rmX4_reason false [.ref mp, .int (nI (h)), .int (nI (b))] (Ω f) (some (.int (s_why f h b))) (Ω f) := by
  refine mj_MC (cc := cX4_reason) (nl := 4) (ret := (some .int)) (plainFor_of_name (by decide)) rfl (⟨_, rfl, rfl⟩) (Nat.le_of_ble_eq_true rfl) ?_
  show GG l cX4_reason MX4_reason false (.inl ((some (.int (s_why f h b))), Ω f)) 0 [some (.ref mp), some (.int (nI (h))), some (.int (nI (b))), none] [] (Ω f) 0 0
  refine G_aload_n dX4_reason_0 rfl ?_
  refine G_iload_n dX4_reason_1 rfl ?_
  refine G_iload_n dX4_reason_2 rfl ?_
  refine G_callVi dX4_reason_3 kX4_reason_X4_sharesOf ⟨rfl, rfl⟩ ⟨Nat.zero_le _, Nat.zero_le _⟩ (m_sharesOf hΩ (h := h) (b := b) (by omega) (by omega)) rfl rfl ((hΩ.2 _).1) rfl rfl ?_
  refine G_istore_n dX4_reason_6 rfl (L' := [some (.ref mp), some (.int (nI (h))), some (.int (nI (b))), some (.int (f (53 + b + 4 * h)))]) rfl ?_
  refine G_iload_n dX4_reason_7 rfl ?_
  refine G_if_ne 13 dX4_reason_8 (by decide) (fun c8 => ?_) (fun c8 => ?_)
  · refine G_aload_n dX4_reason_13 rfl ?_
    refine G_iload_n dX4_reason_14 rfl ?_
    refine G_iload_n dX4_reason_15 rfl ?_
    refine G_callVi dX4_reason_16 kX4_reason_X4_workers ⟨rfl, rfl⟩ ⟨Nat.zero_le _, Nat.zero_le _⟩ (m_workers hΩ) rfl rfl ((hΩ.2 _).1) rfl rfl ?_
    refine G_iload_n dX4_reason_19 rfl ?_
    refine G_icmp_lt 25 dX4_reason_20 (by decide) (fun c20 => ?_) (fun c20 => ?_)
    · refine G_aload_n dX4_reason_25 rfl ?_
      refine G_getf dX4_reason_26 fX4_reason_7 ((hΩ.2 _).1) (hΩ.1) ?_
      refine G_bipush (v := 45) dX4_reason_29 (by decide) ?_
      refine G_iload_n dX4_reason_31 rfl ?_
      refine G_iaddN (a := 45) (c := b) (s := 45 + b) dX4_reason_32 (by omega) ?_
      refine G_ialdN (j := 45 + b) dX4_reason_33 ((hΩ.2 _).2.1) (by omega) ?_
      refine G_if_ne 41 dX4_reason_34 (by decide) (fun c34 => ?_) (fun c34 => ?_)
      · refine G_aload_n dX4_reason_41 rfl ?_
        refine G_getf dX4_reason_42 fX4_reason_7 ((hΩ.2 _).1) (hΩ.1) ?_
        refine G_iconst (v := 1) dX4_reason_45 (by decide) ?_
        refine G_ialdN (j := 1) dX4_reason_46 ((hΩ.2 _).2.1) (by omega) ?_
        refine G_iconst (v := 1) dX4_reason_47 (by decide) ?_
        refine G_icmp_ne 55 dX4_reason_48 (by decide) (fun c48 => ?_) (fun c48 => ?_)
        · refine G_iconst (v := 0) dX4_reason_55 (by decide) ?_
          exact G_iret dX4_reason_56 ⟨Nat.zero_le _, Nat.zero_le _⟩ (X_i (by simp [s_why, c8, Int32.not_le.mpr c20, c34, c48]))
        · refine G_iconst (v := 4) dX4_reason_51 (by decide) ?_
          refine G_goto 56 dX4_reason_52 (by decide) ?_
          exact G_iret dX4_reason_56 ⟨Nat.zero_le _, Nat.zero_le _⟩ (X_i (by simp [s_why, c8, Int32.not_le.mpr c20, c34, c48]))
      · refine G_iconst (v := 3) dX4_reason_37 (by decide) ?_
        refine G_goto 56 dX4_reason_38 (by decide) ?_
        exact G_iret dX4_reason_56 ⟨Nat.zero_le _, Nat.zero_le _⟩ (X_i (by simp [s_why, c8, Int32.not_le.mpr c20, c34]))
    · refine G_iconst (v := 2) dX4_reason_23 (by decide) ?_
      exact G_iret dX4_reason_24 ⟨Nat.zero_le _, Nat.zero_le _⟩ (X_i (by simp [s_why, c8, Int32.not_lt.mp c20]))
  · refine G_iconst (v := 1) dX4_reason_11 (by decide) ?_
    exact G_iret dX4_reason_12 ⟨Nat.zero_le _, Nat.zero_le _⟩ (X_i (by simp [s_why, c8]))
theorem m_setToWork (hΩ : FV mp p1 fs Ω) {f : mj_S} {c : Nat} {h b : Int32} (hc : c < 6) : MC l yX4_setToWork wsX4_setToWork rmX4_setToWork false [.ref mp, .int (nI (c)), .int h, .int b] (Ω f) none (Ω (s_setw f c h b)) := by
  refine mj_MC (cc := cX4_setToWork) (nl := 4) (ret := none) (plainFor_of_name (by decide)) rfl (rfl) (Nat.le_of_ble_eq_true rfl) ?_
  show GG l cX4_setToWork MX4_setToWork false (.inl (none, Ω (s_setw f c h b))) 0 [some (.ref mp), some (.int (nI (c))), some (.int h), some (.int b)] [] (Ω f) 0 0
  refine G_aload_n dX4_setToWork_0 rfl ?_
  refine G_getf dX4_setToWork_1 fX4_setToWork_7 ((hΩ.2 _).1) (hΩ.1) ?_
  refine G_sipush (v := 139) dX4_setToWork_4 (by decide) ?_
  refine G_iload_n dX4_setToWork_7 rfl ?_
  refine G_iaddN (a := 139) (c := c) (s := 139 + c) dX4_setToWork_8 (by omega) ?_
  refine G_iload_n dX4_setToWork_9 rfl ?_
  obtain ⟨f1, ef1⟩ : ∃ z : mj_S, z = upd f (139 + c) h := ⟨_, rfl⟩
  refine G_iastN (j := 139 + c) dX4_setToWork_10 ((hΩ.2 _).2.1) (by omega) (((hΩ.2 _).2.2 _).trans (congrArg Ω ef1.symm)) ?_
  refine G_aload_n dX4_setToWork_11 rfl ?_
  refine G_getf dX4_setToWork_12 fX4_setToWork_7 ((hΩ.2 _).1) (hΩ.1) ?_
  refine G_sipush (v := 145) dX4_setToWork_15 (by decide) ?_
  refine G_iload_n dX4_setToWork_18 rfl ?_
  refine G_iaddN (a := 145) (c := c) (s := 145 + c) dX4_setToWork_19 (by omega) ?_
  refine G_iload_n dX4_setToWork_20 rfl ?_
  obtain ⟨f2, ef2⟩ : ∃ z : mj_S, z = upd f1 (145 + c) b := ⟨_, rfl⟩
  refine G_iastN (j := 145 + c) dX4_setToWork_21 ((hΩ.2 _).2.1) (by omega) (((hΩ.2 _).2.2 _).trans (congrArg Ω ef2.symm)) ?_
  exact G_vret dX4_setToWork_22 ⟨Nat.zero_le _, Nat.zero_le _⟩ (by subst ef2; subst ef1; rfl)
theorem setw_1 (f : mj_S) (c : Nat) (h b : Int32) : s_setw f c h b 1 = f 1 := by rw [s_setw, upd_n (by omega), upd_n (by omega)]
theorem ml_turnSnow (hΩ : FV mp p1 fs Ω) {res : mj_S} : ∀ (d c : Nat) (f : mj_S) (h1 : f 1 = 1), c + d = 6 → res = itr (fun c a => s_setw a c (-1) (-1)) d c f → GG l cX4_turnSnow MX4_turnSnow false (.inl (some (.int 1), Ω res)) 16 [some (.ref mp), some (.int (nI (c)))] [] (Ω f) 0 0
  | 0, c, f, h1, hc, hr => by
    refine G_iload_n dX4_turnSnow_16 rfl ?_
    refine G_bipush (v := 6) dX4_turnSnow_17 (by decide) ?_
    refine G_icmp_geN (a := c) (c := 6) 45 dX4_turnSnow_19 (by decide) (by omega) (fun c19 => ?_) (fun c19 => ?_)
    · refine G_aload_n dX4_turnSnow_45 rfl ?_
      refine G_getf dX4_turnSnow_46 fX4_turnSnow_7 ((hΩ.2 _).1) (hΩ.1) ?_
      refine G_iconst (v := 1) dX4_turnSnow_49 (by decide) ?_
      refine G_ialdN (j := 1) dX4_turnSnow_50 ((hΩ.2 _).2.1) (by omega) ?_
      exact G_iret dX4_turnSnow_51 ⟨Nat.zero_le _, Nat.zero_le _⟩ (by rw [hr, itr_0, h1])
    · exact (show False by omega).elim
  | d + 1, c, f, h1, hc, hr => by
    refine G_iload_n dX4_turnSnow_16 rfl ?_
    refine G_bipush (v := 6) dX4_turnSnow_17 (by decide) ?_
    refine G_icmp_geN (a := c) (c := 6) 45 dX4_turnSnow_19 (by decide) (by omega) (fun c19 => ?_) (fun c19 => ?_)
    · exact (show False by omega).elim
    · refine G_aload_n dX4_turnSnow_22 rfl ?_
      refine G_getf dX4_turnSnow_23 fX4_turnSnow_7 ((hΩ.2 _).1) (hΩ.1) ?_
      refine G_iconst (v := 1) dX4_turnSnow_26 (by decide) ?_
      refine G_ialdN (j := 1) dX4_turnSnow_27 ((hΩ.2 _).2.1) (by omega) ?_
      refine G_iconst (v := 1) dX4_turnSnow_28 (by decide) ?_
      refine G_icmp_ne 45 dX4_turnSnow_29 (by decide) (fun c29 => ?_) (fun c29 => ?_)
      · exact absurd h1 c29
      · refine G_aload_n dX4_turnSnow_32 rfl ?_
        refine G_iload_n dX4_turnSnow_33 rfl ?_
        refine G_iconst (v := (-1)) dX4_turnSnow_34 (by decide) ?_
        refine G_iconst (v := (-1)) dX4_turnSnow_35 (by decide) ?_
        refine G_callVv dX4_turnSnow_36 kX4_turnSnow_X4_setToWork ⟨rfl, rfl⟩ ⟨Nat.zero_le _, Nat.zero_le _⟩ (m_setToWork hΩ (c := c) (by omega)) rfl rfl ((hΩ.2 _).1) rfl rfl ?_
        refine G_iincN (a := c) (s := c + 1) dX4_turnSnow_39 rfl (by omega) (L' := [some (.ref mp), some (.int (nI (c + 1)))]) rfl ?_
        refine G_goto 16 dX4_turnSnow_42 (by decide) ?_
        exact ml_turnSnow hΩ d (c + 1) _ (by rw [setw_1]; exact h1) (by omega) hr
theorem m_turnSnow (hΩ : FV mp p1 fs Ω) {f : mj_S} : MC l yX4_turnSnow wsX4_turnSnow rmX4_turnSnow false [.ref mp] (Ω f) (some (.int (1 - f 1))) (Ω (s_turn f)) := by
  refine mj_MC (cc := cX4_turnSnow) (nl := 2) (ret := (some .int)) (plainFor_of_name (by decide)) rfl (⟨_, rfl, rfl⟩) (Nat.le_of_ble_eq_true rfl) ?_
  show GG l cX4_turnSnow MX4_turnSnow false (.inl ((some (.int (1 - f 1))), Ω (s_turn f))) 0 [some (.ref mp), none] [] (Ω f) 0 0
  refine G_aload_n dX4_turnSnow_0 rfl ?_
  refine G_getf dX4_turnSnow_1 fX4_turnSnow_7 ((hΩ.2 _).1) (hΩ.1) ?_
  refine G_iconst (v := 1) dX4_turnSnow_4 (by decide) ?_
  refine G_iconst (v := 1) dX4_turnSnow_5 (by decide) ?_
  refine G_aload_n dX4_turnSnow_6 rfl ?_
  refine G_getf dX4_turnSnow_7 fX4_turnSnow_7 ((hΩ.2 _).1) (hΩ.1) ?_
  refine G_iconst (v := 1) dX4_turnSnow_10 (by decide) ?_
  refine G_ialdN (j := 1) dX4_turnSnow_11 ((hΩ.2 _).2.1) (by omega) ?_
  refine G_isub dX4_turnSnow_12 ?_
  obtain ⟨f1, ef1⟩ : ∃ z : mj_S, z = upd f (1) (1 - (f (1))) := ⟨_, rfl⟩
  refine G_iastN (j := 1) dX4_turnSnow_13 ((hΩ.2 _).2.1) (by omega) (((hΩ.2 _).2.2 _).trans (congrArg Ω ef1.symm)) ?_
  refine G_iconst (v := 0) dX4_turnSnow_14 (by decide) ?_
  refine G_istore_n dX4_turnSnow_15 rfl (L' := [some (.ref mp), some (.int 0)]) rfl ?_
  have e1 : f1 1 = 1 - f 1 := by rw [ef1, upd_s]
  by_cases hs : 1 - f 1 = 1
  · have qx : (Sum.inl (some (Value.int (1 - f 1)), Ω (s_turn f)) : mj_R) = .inl (some (.int 1), Ω (itr (fun c a => s_setw a c (-1) (-1)) 6 0 f1)) := X_iw hs (by rw [s_turn, if_pos hs, ← ef1])
    rw [qx]
    exact ml_turnSnow hΩ 6 0 f1 (by rw [e1]; exact hs) rfl rfl
  · refine G_iload_n dX4_turnSnow_16 rfl ?_
    refine G_bipush (v := 6) dX4_turnSnow_17 (by decide) ?_
    refine G_icmp_geN (a := 0) (c := 6) 45 dX4_turnSnow_19 (by decide) (by omega) (fun c19 => ?_) (fun c19 => ?_)
    · exact (show False by omega).elim
    · refine G_aload_n dX4_turnSnow_22 rfl ?_
      refine G_getf dX4_turnSnow_23 fX4_turnSnow_7 ((hΩ.2 _).1) (hΩ.1) ?_
      refine G_iconst (v := 1) dX4_turnSnow_26 (by decide) ?_
      refine G_ialdN (j := 1) dX4_turnSnow_27 ((hΩ.2 _).2.1) (by omega) ?_
      refine G_iconst (v := 1) dX4_turnSnow_28 (by decide) ?_
      refine G_icmp_ne 45 dX4_turnSnow_29 (by decide) (fun c29 => ?_) (fun c29 => ?_)
      · refine G_aload_n dX4_turnSnow_45 rfl ?_
        refine G_getf dX4_turnSnow_46 fX4_turnSnow_7 ((hΩ.2 _).1) (hΩ.1) ?_
        refine G_iconst (v := 1) dX4_turnSnow_49 (by decide) ?_
        refine G_ialdN (j := 1) dX4_turnSnow_50 ((hΩ.2 _).2.1) (by omega) ?_
        exact G_iret dX4_turnSnow_51 ⟨Nat.zero_le _, Nat.zero_le _⟩ (by rw [s_turn, if_neg hs, ← ef1, e1])
      · exact absurd (e1.symm.trans c29) hs
theorem ml_sumOf (hΩ : FV mp p1 fs Ω) {f : mj_S} {a m : Nat} {res : Int32} (ha : a + m ≤ 157) : ∀ (d c : Nat) (x : Int32), c + d = m → res = itr (fun i x => x + f (a + i)) d c x → GG l cX4_sumOf MX4_sumOf false (.inl (some (.int res), Ω f)) 5 [some (.ref mp), some (.int (nI (a))), some (.int (nI (m))), some (.int x), some (.int (nI (c)))] [] (Ω f) 0 0
  | 0, c, x, hc, hr => by
    refine G_iload dX4_sumOf_5 rfl ?_
    refine G_iload_n dX4_sumOf_7 rfl ?_
    refine G_icmp_geN (a := c) (c := m) 29 dX4_sumOf_8 (by decide) (by omega) (fun c8 => ?_) (fun c8 => ?_)
    · refine G_iload_n dX4_sumOf_29 rfl ?_
      exact G_iret dX4_sumOf_30 ⟨Nat.zero_le _, Nat.zero_le _⟩ (by rw [hr, itr_0])
    · exact (show False by omega).elim
  | d + 1, c, x, hc, hr => by
    refine G_iload dX4_sumOf_5 rfl ?_
    refine G_iload_n dX4_sumOf_7 rfl ?_
    refine G_icmp_geN (a := c) (c := m) 29 dX4_sumOf_8 (by decide) (by omega) (fun c8 => ?_) (fun c8 => ?_)
    · exact (show False by omega).elim
    · refine G_iload_n dX4_sumOf_11 rfl ?_
      refine G_aload_n dX4_sumOf_12 rfl ?_
      refine G_getf dX4_sumOf_13 fX4_sumOf_7 ((hΩ.2 _).1) (hΩ.1) ?_
      refine G_iload_n dX4_sumOf_16 rfl ?_
      refine G_iload dX4_sumOf_17 rfl ?_
      refine G_iaddN (a := a) (c := c) (s := a + c) dX4_sumOf_19 (by omega) ?_
      refine G_ialdN (j := a + c) dX4_sumOf_20 ((hΩ.2 _).2.1) (by omega) ?_
      refine G_iadd dX4_sumOf_21 ?_
      refine G_istore_n dX4_sumOf_22 rfl (L' := [some (.ref mp), some (.int (nI (a))), some (.int (nI (m))), some (.int (x + (f (a + c)))), some (.int (nI (c)))]) rfl ?_
      refine G_iincN (a := c) (s := c + 1) dX4_sumOf_23 rfl (by omega) (L' := [some (.ref mp), some (.int (nI (a))), some (.int (nI (m))), some (.int (x + (f (a + c)))), some (.int (nI (c + 1)))]) rfl ?_
      refine G_goto 5 dX4_sumOf_26 (by decide) ?_
      exact ml_sumOf hΩ ha d (c + 1) (x + (f (a + c))) (by omega) hr
theorem m_sumOf (hΩ : FV mp p1 fs Ω) {f : mj_S} {a m : Nat} (ha : a + m ≤ 157) : MC l yX4_sumOf wsX4_sumOf rmX4_sumOf false [.ref mp, .int (nI (a)), .int (nI (m))] (Ω f) (some (.int (s_sum f a m))) (Ω f) := by
  refine mj_MC (cc := cX4_sumOf) (nl := 5) (ret := (some .int)) (plainFor_of_name (by decide)) rfl (⟨_, rfl, rfl⟩) (Nat.le_of_ble_eq_true rfl) ?_
  show GG l cX4_sumOf MX4_sumOf false (.inl ((some (.int (s_sum f a m))), Ω f)) 0 [some (.ref mp), some (.int (nI (a))), some (.int (nI (m))), none, none] [] (Ω f) 0 0
  refine G_iconst (v := 0) dX4_sumOf_0 (by decide) ?_
  refine G_istore_n dX4_sumOf_1 rfl (L' := [some (.ref mp), some (.int (nI (a))), some (.int (nI (m))), some (.int 0), none]) rfl ?_
  refine G_iconst (v := 0) dX4_sumOf_2 (by decide) ?_
  refine G_istore dX4_sumOf_3 rfl (L' := [some (.ref mp), some (.int (nI (a))), some (.int (nI (m))), some (.int 0), some (.int 0)]) rfl ?_
  exact ml_sumOf hΩ ha m 0 0 (by omega) rfl
theorem ml_poor (hΩ : FV mp p1 fs Ω) {f : mj_S} {res : Int32} : ∀ (d c : Nat) (a : Int32) (y3 : Option Value) (ha : a = -1 ∨ ∃ v, v < 5 ∧ a = nI v), c + d = 5 → res = itr (fun h a => if f (5 + h) = 1 ∧ (a = -1 ∨ f (15 + h) < f (15 + a.toNatClampNeg)) then nI h else a) d c a → GG l cX4_poorest MX4_poorest false (.inl (some (.int res), Ω f)) 4 [some (.ref mp), some (.int a), some (.int (nI (c))), y3] [] (Ω f) 0 0
  | 0, c, a, y3, ha, hc, hr => by
    refine G_iload_n dX4_poorest_4 rfl ?_
    refine G_iconst (v := 5) dX4_poorest_5 (by decide) ?_
    refine G_icmp_geN (a := c) (c := 5) 69 dX4_poorest_6 (by decide) (by omega) (fun c6 => ?_) (fun c6 => ?_)
    · refine G_iload_n dX4_poorest_69 rfl ?_
      exact G_iret dX4_poorest_70 ⟨Nat.zero_le _, Nat.zero_le _⟩ (by rw [hr, itr_0])
    · exact (show False by omega).elim
  | d + 1, c, a, y3, ha, hc, hr => by
    refine G_iload_n dX4_poorest_4 rfl ?_
    refine G_iconst (v := 5) dX4_poorest_5 (by decide) ?_
    refine G_icmp_geN (a := c) (c := 5) 69 dX4_poorest_6 (by decide) (by omega) (fun c6 => ?_) (fun c6 => ?_)
    · exact (show False by omega).elim
    · refine G_aload_n dX4_poorest_9 rfl ?_
      refine G_getf dX4_poorest_10 fX4_poorest_7 ((hΩ.2 _).1) (hΩ.1) ?_
      refine G_iconst (v := 5) dX4_poorest_13 (by decide) ?_
      refine G_iload_n dX4_poorest_14 rfl ?_
      refine G_iaddN (a := 5) (c := c) (s := 5 + c) dX4_poorest_15 (by omega) ?_
      refine G_ialdN (j := 5 + c) dX4_poorest_16 ((hΩ.2 _).2.1) (by omega) ?_
      refine G_iconst (v := 1) dX4_poorest_17 (by decide) ?_
      refine G_icmp_ne 51 dX4_poorest_18 (by decide) (fun c18 => ?_) (fun c18 => ?_)
      · refine G_iconst (v := 0) dX4_poorest_51 (by decide) ?_
        refine G_istore_n dX4_poorest_52 rfl (L' := [some (.ref mp), some (.int a), some (.int (nI (c))), some (.int 0)]) rfl ?_
        refine G_iload_n dX4_poorest_53 rfl ?_
        refine G_if_eqN (a := 0) 61 dX4_poorest_54 (by decide) (by omega) (fun c54 => ?_) (fun c54 => ?_)
        · refine G_iload_n dX4_poorest_61 rfl ?_
          refine G_istore_n dX4_poorest_62 rfl (L' := [some (.ref mp), some (.int a), some (.int (nI (c))), some (.int 0)]) rfl ?_
          refine G_iincN (a := c) (s := c + 1) dX4_poorest_63 rfl (by omega) (L' := [some (.ref mp), some (.int a), some (.int (nI (c + 1))), some (.int 0)]) rfl ?_
          refine G_goto 4 dX4_poorest_66 (by decide) ?_
          exact ml_poor hΩ d (c + 1) a _ ha (by omega) (by rw [hr, itr_s]; congr 1; simp [c18])
        · exact (show False by omega).elim
      · refine G_iload_n dX4_poorest_21 rfl ?_
        refine G_iconst (v := (-1)) dX4_poorest_22 (by decide) ?_
        refine G_icmp_eq 47 dX4_poorest_23 (by decide) (fun c23 => ?_) (fun c23 => ?_)
        · refine G_iconst (v := 1) dX4_poorest_47 (by decide) ?_
          refine G_goto 52 dX4_poorest_48 (by decide) ?_
          refine G_istore_n dX4_poorest_52 rfl (L' := [some (.ref mp), some (.int a), some (.int (nI (c))), some (.int 1)]) rfl ?_
          refine G_iload_n dX4_poorest_53 rfl ?_
          refine G_if_eqN (a := 1) 61 dX4_poorest_54 (by decide) (by omega) (fun c54 => ?_) (fun c54 => ?_)
          · exact (show False by omega).elim
          · refine G_iload_n dX4_poorest_57 rfl ?_
            refine G_goto 62 dX4_poorest_58 (by decide) ?_
            refine G_istore_n dX4_poorest_62 rfl (L' := [some (.ref mp), some (.int (nI (c))), some (.int (nI (c))), some (.int 1)]) rfl ?_
            refine G_iincN (a := c) (s := c + 1) dX4_poorest_63 rfl (by omega) (L' := [some (.ref mp), some (.int (nI (c))), some (.int (nI (c + 1))), some (.int 1)]) rfl ?_
            refine G_goto 4 dX4_poorest_66 (by decide) ?_
            exact ml_poor hΩ d (c + 1) (nI c) _ (Or.inr ⟨c, by omega, rfl⟩) (by omega) (by rw [hr, itr_s]; congr 1; simp [c18, c23])
        · obtain ⟨v, hv, ea⟩ := ha.resolve_left c23
          subst ea
          refine G_aload_n dX4_poorest_26 rfl ?_
          refine G_getf dX4_poorest_27 fX4_poorest_7 ((hΩ.2 _).1) (hΩ.1) ?_
          refine G_bipush (v := 15) dX4_poorest_30 (by decide) ?_
          refine G_iload_n dX4_poorest_32 rfl ?_
          refine G_iaddN (a := 15) (c := c) (s := 15 + c) dX4_poorest_33 (by omega) ?_
          refine G_ialdN (j := 15 + c) dX4_poorest_34 ((hΩ.2 _).2.1) (by omega) ?_
          refine G_aload_n dX4_poorest_35 rfl ?_
          refine G_getf dX4_poorest_36 fX4_poorest_7 ((hΩ.2 _).1) (hΩ.1) ?_
          refine G_bipush (v := 15) dX4_poorest_39 (by decide) ?_
          refine G_iload_n dX4_poorest_41 rfl ?_
          refine G_iaddN (a := 15) (c := v) (s := 15 + v) dX4_poorest_42 (by omega) ?_
          refine G_ialdN (j := 15 + v) dX4_poorest_43 ((hΩ.2 _).2.1) (by omega) ?_
          refine G_icmp_ge 51 dX4_poorest_44 (by decide) (fun c44 => ?_) (fun c44 => ?_)
          · refine G_iconst (v := 0) dX4_poorest_51 (by decide) ?_
            refine G_istore_n dX4_poorest_52 rfl (L' := [some (.ref mp), some (.int (nI (v))), some (.int (nI (c))), some (.int 0)]) rfl ?_
            refine G_iload_n dX4_poorest_53 rfl ?_
            refine G_if_eqN (a := 0) 61 dX4_poorest_54 (by decide) (by omega) (fun c54 => ?_) (fun c54 => ?_)
            · refine G_iload_n dX4_poorest_61 rfl ?_
              refine G_istore_n dX4_poorest_62 rfl (L' := [some (.ref mp), some (.int (nI (v))), some (.int (nI (c))), some (.int 0)]) rfl ?_
              refine G_iincN (a := c) (s := c + 1) dX4_poorest_63 rfl (by omega) (L' := [some (.ref mp), some (.int (nI (v))), some (.int (nI (c + 1))), some (.int 0)]) rfl ?_
              refine G_goto 4 dX4_poorest_66 (by decide) ?_
              exact ml_poor hΩ d (c + 1) (nI v) _ (Or.inr ⟨v, hv, rfl⟩) (by omega) (by rw [hr, itr_s]; congr 1; rw [nI_clamp (show v < 2 ^ 31 by omega)]; simp [c18, c23, Int32.not_lt.mpr c44])
            · exact (show False by omega).elim
          · refine G_iconst (v := 1) dX4_poorest_47 (by decide) ?_
            refine G_goto 52 dX4_poorest_48 (by decide) ?_
            refine G_istore_n dX4_poorest_52 rfl (L' := [some (.ref mp), some (.int (nI (v))), some (.int (nI (c))), some (.int 1)]) rfl ?_
            refine G_iload_n dX4_poorest_53 rfl ?_
            refine G_if_eqN (a := 1) 61 dX4_poorest_54 (by decide) (by omega) (fun c54 => ?_) (fun c54 => ?_)
            · exact (show False by omega).elim
            · refine G_iload_n dX4_poorest_57 rfl ?_
              refine G_goto 62 dX4_poorest_58 (by decide) ?_
              refine G_istore_n dX4_poorest_62 rfl (L' := [some (.ref mp), some (.int (nI (c))), some (.int (nI (c))), some (.int 1)]) rfl ?_
              refine G_iincN (a := c) (s := c + 1) dX4_poorest_63 rfl (by omega) (L' := [some (.ref mp), some (.int (nI (c))), some (.int (nI (c + 1))), some (.int 1)]) rfl ?_
              refine G_goto 4 dX4_poorest_66 (by decide) ?_
              exact ml_poor hΩ d (c + 1) (nI c) _ (Or.inr ⟨c, by omega, rfl⟩) (by omega) (by rw [hr, itr_s]; congr 1; rw [nI_clamp (show v < 2 ^ 31 by omega)]; simp [c18, c23, Int32.not_le.mp c44])
theorem m_poorest (hΩ : FV mp p1 fs Ω) {f : mj_S} : MC l yX4_poorest wsX4_poorest rmX4_poorest false [.ref mp] (Ω f) (some (.int (s_poor f))) (Ω f) := by
  refine mj_MC (cc := cX4_poorest) (nl := 4) (ret := (some .int)) (plainFor_of_name (by decide)) rfl (⟨_, rfl, rfl⟩) (Nat.le_of_ble_eq_true rfl) ?_
  show GG l cX4_poorest MX4_poorest false (.inl ((some (.int (s_poor f))), Ω f)) 0 [some (.ref mp), none, none, none] [] (Ω f) 0 0
  refine G_iconst (v := (-1)) dX4_poorest_0 (by decide) ?_
  refine G_istore_n dX4_poorest_1 rfl (L' := [some (.ref mp), some (.int (-1)), none, none]) rfl ?_
  refine G_iconst (v := 0) dX4_poorest_2 (by decide) ?_
  refine G_istore_n dX4_poorest_3 rfl (L' := [some (.ref mp), some (.int (-1)), some (.int 0), none]) rfl ?_
  exact ml_poor hΩ 5 0 (-1) _ (Or.inl rfl) (by omega) rfl
end RA

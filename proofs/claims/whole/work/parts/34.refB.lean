/-! REFERENCE: a day -/
theorem wth_itr (r : Nat) (f : mj_S) : itr (fun p a => if 6 < r then s_soak p a else if r < 4 then s_dry p a else a) 20 0 f = s_wth r f := by
  unfold s_wth
  by_cases h1 : 6 < r
  · rw [if_pos h1]; exact itr_congr _ _ _ (fun k _ _ x => if_pos h1)
  · rw [if_neg h1]
    by_cases h2 : r < 4
    · rw [if_pos h2]; exact itr_congr _ _ _ (fun k _ _ x => by rw [if_neg h1, if_pos h2])
    · rw [if_neg h2]
      rw [itr_congr (g' := fun _ a => a) _ _ _ (fun k _ _ x => by rw [if_neg h1, if_neg h2])]
      rfl
section RB
variable {l : Launch} {mp p1 : Nat} {fs : List Value} {Ω : mj_S → mj_W}
theorem ml_cutAll (hΩ : FV mp p1 fs Ω) {res : mj_S} {D : Nat} : ∀ (d c : Nat) (f : mj_S) (y2 y3 y4 : Option Value) (ho : oA f D), c + d = 6 → res = itr s_cut d c f → GG l cX4_cutAll MX4_cutAll false (.inl (none, Ω res)) 2 [some (.ref mp), some (.int (nI (c))), y2, y3, y4] [] (Ω f) 0 0
  | 0, c, f, y2, y3, y4, ho, hc, hr => by
    refine G_iload_n dX4_cutAll_2 rfl ?_
    refine G_bipush (v := 6) dX4_cutAll_3 (by decide) ?_
    refine G_icmp_geN (a := c) (c := 6) 126 dX4_cutAll_5 (by decide) (by omega) (fun c5 => ?_) (fun c5 => ?_)
    · exact G_vret dX4_cutAll_126 ⟨Nat.zero_le _, Nat.zero_le _⟩ (by rw [hr, itr_0])
    · exact (show False by omega).elim
  | d + 1, c, f, y2, y3, y4, ho, hc, hr => by
    refine G_iload_n dX4_cutAll_2 rfl ?_
    refine G_bipush (v := 6) dX4_cutAll_3 (by decide) ?_
    refine G_icmp_geN (a := c) (c := 6) 126 dX4_cutAll_5 (by decide) (by omega) (fun c5 => ?_) (fun c5 => ?_)
    · exact (show False by omega).elim
    · rcases ho.2.2.2.2.2.2.2.2 c (by omega) with ⟨e1, e2⟩ | ⟨h, b, hh, hb, e1, e2⟩
      · refine G_aload_n dX4_cutAll_8 rfl ?_
        refine G_getf dX4_cutAll_9 fX4_cutAll_7 ((hΩ.2 _).1) (hΩ.1) ?_
        refine G_sipush (v := 139) dX4_cutAll_12 (by decide) ?_
        refine G_iload_n dX4_cutAll_15 rfl ?_
        refine G_iaddN (a := 139) (c := c) (s := 139 + c) dX4_cutAll_16 (by omega) ?_
        refine G_ialdN (j := 139 + c) dX4_cutAll_17 ((hΩ.2 _).2.1) (by omega) ?_
        refine G_eqi e1 ?_
        refine G_istore_n dX4_cutAll_18 rfl (L' := [some (.ref mp), some (.int (nI (c))), some (.int (-1)), y3, y4]) rfl ?_
        refine G_aload_n dX4_cutAll_19 rfl ?_
        refine G_getf dX4_cutAll_20 fX4_cutAll_7 ((hΩ.2 _).1) (hΩ.1) ?_
        refine G_sipush (v := 145) dX4_cutAll_23 (by decide) ?_
        refine G_iload_n dX4_cutAll_26 rfl ?_
        refine G_iaddN (a := 145) (c := c) (s := 145 + c) dX4_cutAll_27 (by omega) ?_
        refine G_ialdN (j := 145 + c) dX4_cutAll_28 ((hΩ.2 _).2.1) (by omega) ?_
        refine G_eqi e2 ?_
        refine G_istore_n dX4_cutAll_29 rfl (L' := [some (.ref mp), some (.int (nI (c))), some (.int (-1)), some (.int (-1)), y4]) rfl ?_
        refine G_iload_n dX4_cutAll_30 rfl ?_
        refine G_iconst (v := (-1)) dX4_cutAll_31 (by decide) ?_
        refine G_icmp_eq 120 dX4_cutAll_32 (by decide) (fun c32 => ?_) (fun c32 => ?_)
        · refine G_iincN (a := c) (s := c + 1) dX4_cutAll_120 rfl (by omega) (L' := [some (.ref mp), some (.int (nI (c + 1))), some (.int (-1)), some (.int (-1)), y4]) rfl ?_
          refine G_goto 2 dX4_cutAll_123 (by decide) ?_
          have ecut : s_cut c f = f := by rw [s_cut, if_pos e1]
          refine ml_cutAll hΩ d (c + 1) f _ _ _ ho (by omega) (by rw [hr, itr_s, ecut])
        · exact absurd rfl c32
      · refine G_aload_n dX4_cutAll_8 rfl ?_
        refine G_getf dX4_cutAll_9 fX4_cutAll_7 ((hΩ.2 _).1) (hΩ.1) ?_
        refine G_sipush (v := 139) dX4_cutAll_12 (by decide) ?_
        refine G_iload_n dX4_cutAll_15 rfl ?_
        refine G_iaddN (a := 139) (c := c) (s := 139 + c) dX4_cutAll_16 (by omega) ?_
        refine G_ialdN (j := 139 + c) dX4_cutAll_17 ((hΩ.2 _).2.1) (by omega) ?_
        refine G_eqi e1 ?_
        refine G_istore_n dX4_cutAll_18 rfl (L' := [some (.ref mp), some (.int (nI (c))), some (.int (nI (h))), y3, y4]) rfl ?_
        refine G_aload_n dX4_cutAll_19 rfl ?_
        refine G_getf dX4_cutAll_20 fX4_cutAll_7 ((hΩ.2 _).1) (hΩ.1) ?_
        refine G_sipush (v := 145) dX4_cutAll_23 (by decide) ?_
        refine G_iload_n dX4_cutAll_26 rfl ?_
        refine G_iaddN (a := 145) (c := c) (s := 145 + c) dX4_cutAll_27 (by omega) ?_
        refine G_ialdN (j := 145 + c) dX4_cutAll_28 ((hΩ.2 _).2.1) (by omega) ?_
        refine G_eqi e2 ?_
        refine G_istore_n dX4_cutAll_29 rfl (L' := [some (.ref mp), some (.int (nI (c))), some (.int (nI (h))), some (.int (nI (b))), y4]) rfl ?_
        refine G_iload_n dX4_cutAll_30 rfl ?_
        refine G_iconst (v := (-1)) dX4_cutAll_31 (by decide) ?_
        refine G_icmp_eq 120 dX4_cutAll_32 (by decide) (fun c32 => ?_) (fun c32 => ?_)
        · exact absurd c32 (nI_m1 (by omega))
        · refine G_aload_n dX4_cutAll_35 rfl ?_
          refine G_getf dX4_cutAll_36 fX4_cutAll_7 ((hΩ.2 _).1) (hΩ.1) ?_
          refine G_sipush (v := 133) dX4_cutAll_39 (by decide) ?_
          refine G_iload_n dX4_cutAll_42 rfl ?_
          refine G_iaddN (a := 133) (c := c) (s := 133 + c) dX4_cutAll_43 (by omega) ?_
          refine G_ialdN (j := 133 + c) dX4_cutAll_44 ((hΩ.2 _).2.1) (by omega) ?_
          refine G_aload_n dX4_cutAll_45 rfl ?_
          refine G_getf dX4_cutAll_46 fX4_cutAll_7 ((hΩ.2 _).1) (hΩ.1) ?_
          refine G_bipush (v := 45) dX4_cutAll_49 (by decide) ?_
          refine G_iload_n dX4_cutAll_51 rfl ?_
          refine G_iaddN (a := 45) (c := b) (s := 45 + b) dX4_cutAll_52 (by omega) ?_
          refine G_ialdN (j := 45 + b) dX4_cutAll_53 ((hΩ.2 _).2.1) (by omega) ?_
          refine G_callSi dX4_cutAll_54 kX4_cutAll_X4_less ⟨rfl, rfl⟩ ⟨Nat.zero_le _, Nat.zero_le _⟩ (c_less) rfl rfl rfl ?_
          refine G_istore dX4_cutAll_57 rfl (L' := [some (.ref mp), some (.int (nI (c))), some (.int (nI (h))), some (.int (nI (b))), some (.int (mn (f (133 + c)) (f (45 + b))))]) rfl ?_
          refine G_aload_n dX4_cutAll_59 rfl ?_
          refine G_getf dX4_cutAll_60 fX4_cutAll_7 ((hΩ.2 _).1) (hΩ.1) ?_
          refine G_bipush (v := 45) dX4_cutAll_63 (by decide) ?_
          refine G_iload_n dX4_cutAll_65 rfl ?_
          refine G_iaddN (a := 45) (c := b) (s := 45 + b) dX4_cutAll_66 (by omega) ?_
          refine G_dup2 dX4_cutAll_67 rfl rfl ?_
          refine G_ialdN (j := 45 + b) dX4_cutAll_68 ((hΩ.2 _).2.1) (by omega) ?_
          refine G_iload dX4_cutAll_69 rfl ?_
          refine G_isub dX4_cutAll_71 ?_
          obtain ⟨f1, ef1⟩ : ∃ z : mj_S, z = upd f (45 + b) ((f (45 + b)) - (mn (f (133 + c)) (f (45 + b)))) := ⟨_, rfl⟩
          refine G_iastN (j := 45 + b) dX4_cutAll_72 ((hΩ.2 _).2.1) (by omega) (((hΩ.2 _).2.2 _).trans (congrArg Ω ef1.symm)) ?_
          refine G_aload_n dX4_cutAll_73 rfl ?_
          refine G_getf dX4_cutAll_74 fX4_cutAll_7 ((hΩ.2 _).1) (hΩ.1) ?_
          refine G_bipush (v := 73) dX4_cutAll_77 (by decide) ?_
          refine G_iconst (v := 4) dX4_cutAll_79 (by decide) ?_
          refine G_iload_n dX4_cutAll_80 rfl ?_
          refine G_imulN (a := 4) (c := h) (s := 4 * h) dX4_cutAll_81 (by omega) ?_
          refine G_iaddN (a := 73) (c := 4 * h) (s := 73 + 4 * h) dX4_cutAll_82 (by omega) ?_
          refine G_iload_n dX4_cutAll_83 rfl ?_
          refine G_iaddN (a := 73 + 4 * h) (c := b) (s := 73 + b + 4 * h) dX4_cutAll_84 (by omega) ?_
          refine G_dup2 dX4_cutAll_85 rfl rfl ?_
          refine G_ialdN (j := 73 + b + 4 * h) dX4_cutAll_86 ((hΩ.2 _).2.1) (by omega) ?_
          refine G_iload dX4_cutAll_87 rfl ?_
          refine G_iadd dX4_cutAll_89 ?_
          obtain ⟨f2, ef2⟩ : ∃ z : mj_S, z = upd f1 (73 + b + 4 * h) ((f1 (73 + b + 4 * h)) + (mn (f (133 + c)) (f (45 + b)))) := ⟨_, rfl⟩
          refine G_iastN (j := 73 + b + 4 * h) dX4_cutAll_90 ((hΩ.2 _).2.1) (by omega) (((hΩ.2 _).2.2 _).trans (congrArg Ω ef2.symm)) ?_
          refine G_aload_n dX4_cutAll_91 rfl ?_
          refine G_getf dX4_cutAll_92 fX4_cutAll_7 ((hΩ.2 _).1) (hΩ.1) ?_
          refine G_bipush (v := 20) dX4_cutAll_95 (by decide) ?_
          refine G_iload_n dX4_cutAll_97 rfl ?_
          refine G_iaddN (a := 20) (c := h) (s := 20 + h) dX4_cutAll_98 (by omega) ?_
          refine G_dup2 dX4_cutAll_99 rfl rfl ?_
          refine G_ialdN (j := 20 + h) dX4_cutAll_100 ((hΩ.2 _).2.1) (by omega) ?_
          refine G_iload dX4_cutAll_101 rfl ?_
          refine G_iadd dX4_cutAll_103 ?_
          obtain ⟨f3, ef3⟩ : ∃ z : mj_S, z = upd f2 (20 + h) ((f2 (20 + h)) + (mn (f (133 + c)) (f (45 + b)))) := ⟨_, rfl⟩
          refine G_iastN (j := 20 + h) dX4_cutAll_104 ((hΩ.2 _).2.1) (by omega) (((hΩ.2 _).2.2 _).trans (congrArg Ω ef3.symm)) ?_
          refine G_aload_n dX4_cutAll_105 rfl ?_
          refine G_getf dX4_cutAll_106 fX4_cutAll_7 ((hΩ.2 _).1) (hΩ.1) ?_
          refine G_sipush (v := 151) dX4_cutAll_109 (by decide) ?_
          refine G_iload_n dX4_cutAll_112 rfl ?_
          refine G_iaddN (a := 151) (c := c) (s := 151 + c) dX4_cutAll_113 (by omega) ?_
          refine G_dup2 dX4_cutAll_114 rfl rfl ?_
          refine G_ialdN (j := 151 + c) dX4_cutAll_115 ((hΩ.2 _).2.1) (by omega) ?_
          refine G_iload dX4_cutAll_116 rfl ?_
          refine G_iadd dX4_cutAll_118 ?_
          obtain ⟨f4, ef4⟩ : ∃ z : mj_S, z = upd f3 (151 + c) ((f3 (151 + c)) + (mn (f (133 + c)) (f (45 + b)))) := ⟨_, rfl⟩
          refine G_iastN (j := 151 + c) dX4_cutAll_119 ((hΩ.2 _).2.1) (by omega) (((hΩ.2 _).2.2 _).trans (congrArg Ω ef4.symm)) ?_
          refine G_iincN (a := c) (s := c + 1) dX4_cutAll_120 rfl (by omega) (L' := [some (.ref mp), some (.int (nI (c + 1))), some (.int (nI (h))), some (.int (nI (b))), some (.int (mn (f (133 + c)) (f (45 + b))))]) rfl ?_
          refine G_goto 2 dX4_cutAll_123 (by decide) ?_
          have ecut : s_cut c f = f4 := by subst ef4; subst ef3; subst ef2; subst ef1; rw [s_cut, if_neg (by rw [e1]; exact nI_m1 (by omega))]; simp only [e1, e2, nI_clamp (show h < 2 ^ 31 by omega), nI_clamp (show b < 2 ^ 31 by omega)]
          rw [← ecut]
          exact ml_cutAll hΩ d (c + 1) (s_cut c f) _ _ _ (oA_same (sA_cut ho (by omega)) ho) (by omega) hr
theorem m_cutAll (hΩ : FV mp p1 fs Ω) {f : mj_S} {D : Nat} (ho : oA f D) : MC l yX4_cutAll wsX4_cutAll rmX4_cutAll false [.ref mp] (Ω f) none (Ω (s_cuts f)) := by
  refine mj_MC (cc := cX4_cutAll) (nl := 5) (ret := none) (plainFor_of_name (by decide)) rfl (rfl) (Nat.le_of_ble_eq_true rfl) ?_
  show GG l cX4_cutAll MX4_cutAll false (.inl (none, Ω (s_cuts f))) 0 [some (.ref mp), none, none, none, none] [] (Ω f) 0 0
  refine G_iconst (v := 0) dX4_cutAll_0 (by decide) ?_
  refine G_istore_n dX4_cutAll_1 rfl (L' := [some (.ref mp), some (.int 0), none, none, none]) rfl ?_
  exact ml_cutAll hΩ 6 0 f _ _ _ ho (by omega) rfl
theorem m_bringHome (hΩ : FV mp p1 fs Ω) {f : mj_S} {h b : Nat} {m : Int32} (hh : h < 5) (hb : b < 4) (hfl : f (5 + h) = 0 ∨ f (5 + h) = 1) : MC l yX4_bringHome wsX4_bringHome rmX4_bringHome false [.ref mp, .int (nI (h)), .int (nI (b)), .int m] (Ω f) none (Ω (s_bring f h b m)) := by
  refine mj_MC (cc := cX4_bringHome) (nl := 6) (ret := none) (plainFor_of_name (by decide)) rfl (rfl) (Nat.le_of_ble_eq_true rfl) ?_
  show GG l cX4_bringHome MX4_bringHome false (.inl (none, Ω (s_bring f h b m))) 0 [some (.ref mp), some (.int (nI (h))), some (.int (nI (b))), some (.int m), none, none] [] (Ω f) 0 0
  refine G_aload_n dX4_bringHome_0 rfl ?_
  refine G_getf dX4_bringHome_1 fX4_bringHome_7 ((hΩ.2 _).1) (hΩ.1) ?_
  refine G_bipush (v := 113) dX4_bringHome_4 (by decide) ?_
  refine G_iconst (v := 4) dX4_bringHome_6 (by decide) ?_
  refine G_iload_n dX4_bringHome_7 rfl ?_
  refine G_imulN (a := 4) (c := h) (s := 4 * h) dX4_bringHome_8 (by omega) ?_
  refine G_iaddN (a := 113) (c := 4 * h) (s := 113 + 4 * h) dX4_bringHome_9 (by omega) ?_
  refine G_iload_n dX4_bringHome_10 rfl ?_
  refine G_iaddN (a := 113 + 4 * h) (c := b) (s := 113 + b + 4 * h) dX4_bringHome_11 (by omega) ?_
  refine G_dup2 dX4_bringHome_12 rfl rfl ?_
  refine G_ialdN (j := 113 + b + 4 * h) dX4_bringHome_13 ((hΩ.2 _).2.1) (by omega) ?_
  refine G_iload_n dX4_bringHome_14 rfl ?_
  refine G_isub dX4_bringHome_15 ?_
  obtain ⟨f1, ef1⟩ : ∃ z : mj_S, z = upd f (113 + b + 4 * h) ((f (113 + b + 4 * h)) - m) := ⟨_, rfl⟩
  refine G_iastN (j := 113 + b + 4 * h) dX4_bringHome_16 ((hΩ.2 _).2.1) (by omega) (((hΩ.2 _).2.2 _).trans (congrArg Ω ef1.symm)) ?_
  refine G_aload_n dX4_bringHome_17 rfl ?_
  refine G_getf dX4_bringHome_18 fX4_bringHome_7 ((hΩ.2 _).1) (hΩ.1) ?_
  refine G_bipush (v := 15) dX4_bringHome_21 (by decide) ?_
  refine G_iload_n dX4_bringHome_23 rfl ?_
  refine G_iaddN (a := 15) (c := h) (s := 15 + h) dX4_bringHome_24 (by omega) ?_
  refine G_dup2 dX4_bringHome_25 rfl rfl ?_
  refine G_ialdN (j := 15 + h) dX4_bringHome_26 ((hΩ.2 _).2.1) (by omega) ?_
  refine G_iload_n dX4_bringHome_27 rfl ?_
  refine G_iadd dX4_bringHome_28 ?_
  obtain ⟨f2, ef2⟩ : ∃ z : mj_S, z = upd f1 (15 + h) ((f1 (15 + h)) + m) := ⟨_, rfl⟩
  refine G_iastN (j := 15 + h) dX4_bringHome_29 ((hΩ.2 _).2.1) (by omega) (((hΩ.2 _).2.2 _).trans (congrArg Ω ef2.symm)) ?_
  refine G_aload_n dX4_bringHome_30 rfl ?_
  refine G_callVi dX4_bringHome_31 kX4_bringHome_X4_poorest ⟨rfl, rfl⟩ ⟨Nat.zero_le _, Nat.zero_le _⟩ (m_poorest hΩ) rfl rfl ((hΩ.2 _).1) rfl rfl ?_
  refine G_istore dX4_bringHome_34 rfl (L' := [some (.ref mp), some (.int (nI (h))), some (.int (nI (b))), some (.int m), some (.int (s_poor f2)), none]) rfl ?_
  refine G_aload_n dX4_bringHome_36 rfl ?_
  refine G_getf dX4_bringHome_37 fX4_bringHome_7 ((hΩ.2 _).1) (hΩ.1) ?_
  refine G_iconst (v := 5) dX4_bringHome_40 (by decide) ?_
  refine G_iload_n dX4_bringHome_41 rfl ?_
  refine G_iaddN (a := 5) (c := h) (s := 5 + h) dX4_bringHome_42 (by omega) ?_
  refine G_ialdN (j := 5 + h) dX4_bringHome_43 ((hΩ.2 _).2.1) (by omega) ?_
  refine G_if_ne 124 dX4_bringHome_44 (by decide) (fun c44 => ?_) (fun c44 => ?_)
  · refine G_vret dX4_bringHome_124 ⟨Nat.zero_le _, Nat.zero_le _⟩ ?_
    refine X_w (congrArg Ω ?_)
    have q5 : f2 (5 + h) = f (5 + h) := by rw [ef2, upd_n (by omega), ef1, upd_n (by omega)]
    unfold s_bring
    simp only [← ef1, ← ef2]
    rw [if_pos (by rw [q5] at c44 ⊢; exact hfl.resolve_left c44)]
  · refine G_iload dX4_bringHome_47 rfl ?_
    refine G_iconst (v := (-1)) dX4_bringHome_49 (by decide) ?_
    refine G_icmp_eq 124 dX4_bringHome_50 (by decide) (fun c50 => ?_) (fun c50 => ?_)
    · refine G_vret dX4_bringHome_124 ⟨Nat.zero_le _, Nat.zero_le _⟩ ?_
      refine X_w (congrArg Ω ?_)
      have q5 : f2 (5 + h) = f (5 + h) := by rw [ef2, upd_n (by omega), ef1, upd_n (by omega)]
      unfold s_bring
      simp only [← ef1, ← ef2]
      rw [if_neg (by rw [c44]; decide), if_pos c50]
    · obtain ⟨v, hv, ev⟩ := (poor_in f2).resolve_left c50
      rw [ev]
      refine G_iload_n dX4_bringHome_53 rfl ?_
      refine G_aload_n dX4_bringHome_54 rfl ?_
      refine G_getf dX4_bringHome_55 fX4_bringHome_7 ((hΩ.2 _).1) (hΩ.1) ?_
      refine G_iconst (v := 3) dX4_bringHome_58 (by decide) ?_
      refine G_ialdN (j := 3) dX4_bringHome_59 ((hΩ.2 _).2.1) (by omega) ?_
      refine G_imul dX4_bringHome_60 ?_
      refine G_bipush (v := 100) dX4_bringHome_61 (by decide) ?_
      refine G_idiv dX4_bringHome_63 (by decide) ?_
      obtain ⟨z1, ez1⟩ : ∃ z : Int32, z = ((m * (f2 (3))) / 100) := ⟨_, rfl⟩
      refine G_eqi ez1.symm ?_
      refine G_istore dX4_bringHome_64 rfl (L' := [some (.ref mp), some (.int (nI (h))), some (.int (nI (b))), some (.int m), some (.int (nI (v))), some (.int z1)]) rfl ?_
      refine G_aload_n dX4_bringHome_66 rfl ?_
      refine G_getf dX4_bringHome_67 fX4_bringHome_7 ((hΩ.2 _).1) (hΩ.1) ?_
      refine G_bipush (v := 15) dX4_bringHome_70 (by decide) ?_
      refine G_iload_n dX4_bringHome_72 rfl ?_
      refine G_iaddN (a := 15) (c := h) (s := 15 + h) dX4_bringHome_73 (by omega) ?_
      refine G_dup2 dX4_bringHome_74 rfl rfl ?_
      refine G_ialdN (j := 15 + h) dX4_bringHome_75 ((hΩ.2 _).2.1) (by omega) ?_
      refine G_iload dX4_bringHome_76 rfl ?_
      refine G_isub dX4_bringHome_78 ?_
      obtain ⟨f3, ef3⟩ : ∃ z : mj_S, z = upd f2 (15 + h) ((f2 (15 + h)) - z1) := ⟨_, rfl⟩
      refine G_iastN (j := 15 + h) dX4_bringHome_79 ((hΩ.2 _).2.1) (by omega) (((hΩ.2 _).2.2 _).trans (congrArg Ω ef3.symm)) ?_
      refine G_aload_n dX4_bringHome_80 rfl ?_
      refine G_getf dX4_bringHome_81 fX4_bringHome_7 ((hΩ.2 _).1) (hΩ.1) ?_
      refine G_bipush (v := 30) dX4_bringHome_84 (by decide) ?_
      refine G_iload_n dX4_bringHome_86 rfl ?_
      refine G_iaddN (a := 30) (c := h) (s := 30 + h) dX4_bringHome_87 (by omega) ?_
      refine G_dup2 dX4_bringHome_88 rfl rfl ?_
      refine G_ialdN (j := 30 + h) dX4_bringHome_89 ((hΩ.2 _).2.1) (by omega) ?_
      refine G_iload dX4_bringHome_90 rfl ?_
      refine G_iadd dX4_bringHome_92 ?_
      obtain ⟨f4, ef4⟩ : ∃ z : mj_S, z = upd f3 (30 + h) ((f3 (30 + h)) + z1) := ⟨_, rfl⟩
      refine G_iastN (j := 30 + h) dX4_bringHome_93 ((hΩ.2 _).2.1) (by omega) (((hΩ.2 _).2.2 _).trans (congrArg Ω ef4.symm)) ?_
      refine G_aload_n dX4_bringHome_94 rfl ?_
      refine G_getf dX4_bringHome_95 fX4_bringHome_7 ((hΩ.2 _).1) (hΩ.1) ?_
      refine G_bipush (v := 15) dX4_bringHome_98 (by decide) ?_
      refine G_iload dX4_bringHome_100 rfl ?_
      refine G_iaddN (a := 15) (c := v) (s := 15 + v) dX4_bringHome_102 (by omega) ?_
      refine G_dup2 dX4_bringHome_103 rfl rfl ?_
      refine G_ialdN (j := 15 + v) dX4_bringHome_104 ((hΩ.2 _).2.1) (by omega) ?_
      refine G_iload dX4_bringHome_105 rfl ?_
      refine G_iadd dX4_bringHome_107 ?_
      obtain ⟨f5, ef5⟩ : ∃ z : mj_S, z = upd f4 (15 + v) ((f4 (15 + v)) + z1) := ⟨_, rfl⟩
      refine G_iastN (j := 15 + v) dX4_bringHome_108 ((hΩ.2 _).2.1) (by omega) (((hΩ.2 _).2.2 _).trans (congrArg Ω ef5.symm)) ?_
      refine G_aload_n dX4_bringHome_109 rfl ?_
      refine G_getf dX4_bringHome_110 fX4_bringHome_7 ((hΩ.2 _).1) (hΩ.1) ?_
      refine G_bipush (v := 25) dX4_bringHome_113 (by decide) ?_
      refine G_iload dX4_bringHome_115 rfl ?_
      refine G_iaddN (a := 25) (c := v) (s := 25 + v) dX4_bringHome_117 (by omega) ?_
      refine G_dup2 dX4_bringHome_118 rfl rfl ?_
      refine G_ialdN (j := 25 + v) dX4_bringHome_119 ((hΩ.2 _).2.1) (by omega) ?_
      refine G_iload dX4_bringHome_120 rfl ?_
      refine G_iadd dX4_bringHome_122 ?_
      obtain ⟨f6, ef6⟩ : ∃ z : mj_S, z = upd f5 (25 + v) ((f5 (25 + v)) + z1) := ⟨_, rfl⟩
      refine G_iastN (j := 25 + v) dX4_bringHome_123 ((hΩ.2 _).2.1) (by omega) (((hΩ.2 _).2.2 _).trans (congrArg Ω ef6.symm)) ?_
      refine G_vret dX4_bringHome_124 ⟨Nat.zero_le _, Nat.zero_le _⟩ ?_
      refine X_w (congrArg Ω ?_)
      have q5 : f2 (5 + h) = f (5 + h) := by rw [ef2, upd_n (by omega), ef1, upd_n (by omega)]
      unfold s_bring
      simp only [← ef1, ← ef2]
      rw [if_neg (by rw [c44]; decide), if_neg c50, ev, nI_clamp (show v < 2 ^ 31 by omega), ← ez1, ← ef3, ← ef4, ← ef5, ← ef6]
theorem ml_cart (hΩ : FV mp p1 fs Ω) {f : mj_S} {res : mj_S × Int32} {D b : Nat} (hb : b < 4) (ho : oA f D) (hD : D < 2147483000) : ∀ (d c : Nat) (g : mj_S) (l1 : Int32) (y4 y5 : Option Value) (hs : sA f g), c + d = 5 → res = itr (s_cart1 D b) d c (g, l1) → GG l cX4_cart MX4_cart false (.inl (some (.int (f (49 + b) - res.2)), Ω res.1)) 12 [some (.ref mp), some (.int (nI (b))), some (.int l1), some (.int (nI (c))), y4, y5] [] (Ω g) 0 0
  | 0, c, g, l1, y4, y5, hs, hc, hr => by
    have hg0 : g 0 = nI D := by rw [hs 0 (Or.inl (by omega))]; exact ho.1
    refine G_iload_n dX4_cart_12 rfl ?_
    refine G_iconst (v := 5) dX4_cart_13 (by decide) ?_
    refine G_icmp_geN (a := c) (c := 5) 69 dX4_cart_14 (by decide) (by omega) (fun c14 => ?_) (fun c14 => ?_)
    · refine G_aload_n dX4_cart_69 rfl ?_
      refine G_getf dX4_cart_70 fX4_cart_7 ((hΩ.2 _).1) (hΩ.1) ?_
      refine G_bipush (v := 49) dX4_cart_73 (by decide) ?_
      refine G_iload_n dX4_cart_75 rfl ?_
      refine G_iaddN (a := 49) (c := b) (s := 49 + b) dX4_cart_76 (by omega) ?_
      refine G_ialdN (j := 49 + b) dX4_cart_77 ((hΩ.2 _).2.1) (by omega) ?_
      refine G_iload_n dX4_cart_78 rfl ?_
      refine G_isub dX4_cart_79 ?_
      refine G_iret dX4_cart_80 ⟨Nat.zero_le _, Nat.zero_le _⟩ ?_
      have q : g (49 + b) = f (49 + b) := hs _ (Or.inr (Or.inl (by omega)))
      rw [hr, itr_0, q]
    · exact (show False by omega).elim
  | d + 1, c, g, l1, y4, y5, hs, hc, hr => by
    have hg0 : g 0 = nI D := by rw [hs 0 (Or.inl (by omega))]; exact ho.1
    refine G_iload_n dX4_cart_12 rfl ?_
    refine G_iconst (v := 5) dX4_cart_13 (by decide) ?_
    refine G_icmp_geN (a := c) (c := 5) 69 dX4_cart_14 (by decide) (by omega) (fun c14 => ?_) (fun c14 => ?_)
    · exact (show False by omega).elim
    · refine G_aload_n dX4_cart_17 rfl ?_
      refine G_getf dX4_cart_18 fX4_cart_7 ((hΩ.2 _).1) (hΩ.1) ?_
      refine G_iconst (v := 0) dX4_cart_21 (by decide) ?_
      refine G_ialdN (j := 0) dX4_cart_22 ((hΩ.2 _).2.1) (by omega) ?_
      refine G_eqi hg0 ?_
      refine G_iload_n dX4_cart_23 rfl ?_
      refine G_iaddN (a := D) (c := c) (s := D + c) dX4_cart_24 (by omega) ?_
      refine G_iconst (v := 5) dX4_cart_25 (by decide) ?_
      refine G_iremN (a := D + c) (c := 5) (s := ((D + c) % 5)) dX4_cart_26 (by omega) (by omega) ?_
      obtain ⟨h, eh⟩ : ∃ h, h = (D + c) % 5 := ⟨_, rfl⟩
      rw [← eh]
      have hh : h < 5 := by omega
      have hfl := (oA_same hs ho).2.2.2.2.2.1 h hh
      refine G_istore dX4_cart_27 rfl (L' := [some (.ref mp), some (.int (nI (b))), some (.int l1), some (.int (nI (c))), some (.int (nI (h))), y5]) rfl ?_
      refine G_aload_n dX4_cart_29 rfl ?_
      refine G_getf dX4_cart_30 fX4_cart_7 ((hΩ.2 _).1) (hΩ.1) ?_
      refine G_bipush (v := 113) dX4_cart_33 (by decide) ?_
      refine G_iconst (v := 4) dX4_cart_35 (by decide) ?_
      refine G_iload dX4_cart_36 rfl ?_
      refine G_imulN (a := 4) (c := h) (s := 4 * h) dX4_cart_38 (by omega) ?_
      refine G_iaddN (a := 113) (c := 4 * h) (s := 113 + 4 * h) dX4_cart_39 (by omega) ?_
      refine G_iload_n dX4_cart_40 rfl ?_
      refine G_iaddN (a := 113 + 4 * h) (c := b) (s := 113 + b + 4 * h) dX4_cart_41 (by omega) ?_
      refine G_ialdN (j := 113 + b + 4 * h) dX4_cart_42 ((hΩ.2 _).2.1) (by omega) ?_
      refine G_iload_n dX4_cart_43 rfl ?_
      refine G_callSi dX4_cart_44 kX4_cart_X4_less ⟨rfl, rfl⟩ ⟨Nat.zero_le _, Nat.zero_le _⟩ (c_less) rfl rfl rfl ?_
      refine G_istore dX4_cart_47 rfl (L' := [some (.ref mp), some (.int (nI (b))), some (.int l1), some (.int (nI (c))), some (.int (nI (h))), some (.int (mn (g (113 + b + 4 * h)) l1))]) rfl ?_
      refine G_aload_n dX4_cart_49 rfl ?_
      refine G_iload dX4_cart_50 rfl ?_
      refine G_iload_n dX4_cart_52 rfl ?_
      refine G_iload dX4_cart_53 rfl ?_
      refine G_callVv dX4_cart_55 kX4_cart_X4_bringHome ⟨rfl, rfl⟩ ⟨Nat.zero_le _, Nat.zero_le _⟩ (m_bringHome hΩ (h := h) (b := b) (by omega) (by omega) hfl) rfl rfl ((hΩ.2 _).1) rfl rfl ?_
      refine G_iload_n dX4_cart_58 rfl ?_
      refine G_iload dX4_cart_59 rfl ?_
      refine G_isub dX4_cart_61 ?_
      refine G_istore_n dX4_cart_62 rfl (L' := [some (.ref mp), some (.int (nI (b))), some (.int (l1 - (mn (g (113 + b + 4 * h)) l1))), some (.int (nI (c))), some (.int (nI (h))), some (.int (mn (g (113 + b + 4 * h)) l1))]) rfl ?_
      refine G_iincN (a := c) (s := c + 1) dX4_cart_63 rfl (by omega) (L' := [some (.ref mp), some (.int (nI (b))), some (.int (l1 - (mn (g (113 + b + 4 * h)) l1))), some (.int (nI (c + 1))), some (.int (nI (h))), some (.int (mn (g (113 + b + 4 * h)) l1))]) rfl ?_
      refine G_goto 12 dX4_cart_66 (by decide) ?_
      exact ml_cart hΩ hb ho hD d (c + 1) _ _ _ _ (hs.tr (sA_bring hh hb)) (by omega) (by rw [hr, itr_s, s_cart1, ← eh])
theorem m_cart (hΩ : FV mp p1 fs Ω) {f : mj_S} {D b : Nat} (hb : b < 4) (ho : oA f D) (hD : D < 2147483000) : MC l yX4_cart wsX4_cart rmX4_cart false [.ref mp, .int (nI (b))] (Ω f) (some (.int (f (49 + b) - (s_cart D b f).2))) (Ω ((s_cart D b f).1)) := by
  refine mj_MC (cc := cX4_cart) (nl := 6) (ret := (some .int)) (plainFor_of_name (by decide)) rfl (⟨_, rfl, rfl⟩) (Nat.le_of_ble_eq_true rfl) ?_
  show GG l cX4_cart MX4_cart false (.inl ((some (.int (f (49 + b) - (s_cart D b f).2))), Ω ((s_cart D b f).1))) 0 [some (.ref mp), some (.int (nI (b))), none, none, none, none] [] (Ω f) 0 0
  refine G_aload_n dX4_cart_0 rfl ?_
  refine G_getf dX4_cart_1 fX4_cart_7 ((hΩ.2 _).1) (hΩ.1) ?_
  refine G_bipush (v := 49) dX4_cart_4 (by decide) ?_
  refine G_iload_n dX4_cart_6 rfl ?_
  refine G_iaddN (a := 49) (c := b) (s := 49 + b) dX4_cart_7 (by omega) ?_
  refine G_ialdN (j := 49 + b) dX4_cart_8 ((hΩ.2 _).2.1) (by omega) ?_
  refine G_istore_n dX4_cart_9 rfl (L' := [some (.ref mp), some (.int (nI (b))), some (.int (f (49 + b))), none, none, none]) rfl ?_
  refine G_iconst (v := 0) dX4_cart_10 (by decide) ?_
  refine G_istore_n dX4_cart_11 rfl (L' := [some (.ref mp), some (.int (nI (b))), some (.int (f (49 + b))), some (.int 0), none, none]) rfl ?_
  exact ml_cart hΩ hb ho hD 5 0 f _ _ _ (sA_rf f) (by omega) rfl
theorem ml_burn (hΩ : FV mp p1 fs Ω) {res : mj_S} : ∀ (d c : Nat) (f : mj_S) (y2 : Option Value), c + d = 5 → res = itr s_burn1 d c f → GG l cX4_burnAll MX4_burnAll false (.inl (none, Ω res)) 2 [some (.ref mp), some (.int (nI (c))), y2] [] (Ω f) 0 0
  | 0, c, f, y2, hc, hr => by
    refine G_iload_n dX4_burnAll_2 rfl ?_
    refine G_iconst (v := 5) dX4_burnAll_3 (by decide) ?_
    refine G_icmp_geN (a := c) (c := 5) 78 dX4_burnAll_4 (by decide) (by omega) (fun c4 => ?_) (fun c4 => ?_)
    · exact G_vret dX4_burnAll_78 ⟨Nat.zero_le _, Nat.zero_le _⟩ (by rw [hr, itr_0])
    · exact (show False by omega).elim
  | d + 1, c, f, y2, hc, hr => by
    refine G_iload_n dX4_burnAll_2 rfl ?_
    refine G_iconst (v := 5) dX4_burnAll_3 (by decide) ?_
    refine G_icmp_geN (a := c) (c := 5) 78 dX4_burnAll_4 (by decide) (by omega) (fun c4 => ?_) (fun c4 => ?_)
    · exact (show False by omega).elim
    · refine G_aload_n dX4_burnAll_7 rfl ?_
      refine G_getf dX4_burnAll_8 fX4_burnAll_7 ((hΩ.2 _).1) (hΩ.1) ?_
      refine G_iconst (v := 4) dX4_burnAll_11 (by decide) ?_
      refine G_ialdN (j := 4) dX4_burnAll_12 ((hΩ.2 _).2.1) (by omega) ?_
      refine G_aload_n dX4_burnAll_13 rfl ?_
      refine G_getf dX4_burnAll_14 fX4_burnAll_7 ((hΩ.2 _).1) (hΩ.1) ?_
      refine G_bipush (v := 15) dX4_burnAll_17 (by decide) ?_
      refine G_iload_n dX4_burnAll_19 rfl ?_
      refine G_iaddN (a := 15) (c := c) (s := 15 + c) dX4_burnAll_20 (by omega) ?_
      refine G_ialdN (j := 15 + c) dX4_burnAll_21 ((hΩ.2 _).2.1) (by omega) ?_
      refine G_callSi dX4_burnAll_22 kX4_burnAll_X4_less ⟨rfl, rfl⟩ ⟨Nat.zero_le _, Nat.zero_le _⟩ (c_less) rfl rfl rfl ?_
      refine G_istore_n dX4_burnAll_25 rfl (L' := [some (.ref mp), some (.int (nI (c))), some (.int (mn (f (4)) (f (15 + c))))]) rfl ?_
      refine G_aload_n dX4_burnAll_26 rfl ?_
      refine G_getf dX4_burnAll_27 fX4_burnAll_7 ((hΩ.2 _).1) (hΩ.1) ?_
      refine G_bipush (v := 15) dX4_burnAll_30 (by decide) ?_
      refine G_iload_n dX4_burnAll_32 rfl ?_
      refine G_iaddN (a := 15) (c := c) (s := 15 + c) dX4_burnAll_33 (by omega) ?_
      refine G_dup2 dX4_burnAll_34 rfl rfl ?_
      refine G_ialdN (j := 15 + c) dX4_burnAll_35 ((hΩ.2 _).2.1) (by omega) ?_
      refine G_iload_n dX4_burnAll_36 rfl ?_
      refine G_isub dX4_burnAll_37 ?_
      obtain ⟨f1, ef1⟩ : ∃ z : mj_S, z = upd f (15 + c) ((f (15 + c)) - (mn (f (4)) (f (15 + c)))) := ⟨_, rfl⟩
      refine G_iastN (j := 15 + c) dX4_burnAll_38 ((hΩ.2 _).2.1) (by omega) (((hΩ.2 _).2.2 _).trans (congrArg Ω ef1.symm)) ?_
      refine G_aload_n dX4_burnAll_39 rfl ?_
      refine G_getf dX4_burnAll_40 fX4_burnAll_7 ((hΩ.2 _).1) (hΩ.1) ?_
      refine G_bipush (v := 35) dX4_burnAll_43 (by decide) ?_
      refine G_iload_n dX4_burnAll_45 rfl ?_
      refine G_iaddN (a := 35) (c := c) (s := 35 + c) dX4_burnAll_46 (by omega) ?_
      refine G_dup2 dX4_burnAll_47 rfl rfl ?_
      refine G_ialdN (j := 35 + c) dX4_burnAll_48 ((hΩ.2 _).2.1) (by omega) ?_
      refine G_iload_n dX4_burnAll_49 rfl ?_
      refine G_iadd dX4_burnAll_50 ?_
      obtain ⟨f2, ef2⟩ : ∃ z : mj_S, z = upd f1 (35 + c) ((f1 (35 + c)) + (mn (f (4)) (f (15 + c)))) := ⟨_, rfl⟩
      refine G_iastN (j := 35 + c) dX4_burnAll_51 ((hΩ.2 _).2.1) (by omega) (((hΩ.2 _).2.2 _).trans (congrArg Ω ef2.symm)) ?_
      refine G_aload_n dX4_burnAll_52 rfl ?_
      refine G_getf dX4_burnAll_53 fX4_burnAll_7 ((hΩ.2 _).1) (hΩ.1) ?_
      refine G_bipush (v := 40) dX4_burnAll_56 (by decide) ?_
      refine G_iload_n dX4_burnAll_58 rfl ?_
      refine G_iaddN (a := 40) (c := c) (s := 40 + c) dX4_burnAll_59 (by omega) ?_
      refine G_dup2 dX4_burnAll_60 rfl rfl ?_
      refine G_ialdN (j := 40 + c) dX4_burnAll_61 ((hΩ.2 _).2.1) (by omega) ?_
      refine G_aload_n dX4_burnAll_62 rfl ?_
      refine G_getf dX4_burnAll_63 fX4_burnAll_7 ((hΩ.2 _).1) (hΩ.1) ?_
      refine G_iconst (v := 4) dX4_burnAll_66 (by decide) ?_
      refine G_ialdN (j := 4) dX4_burnAll_67 ((hΩ.2 _).2.1) (by omega) ?_
      refine G_iload_n dX4_burnAll_68 rfl ?_
      refine G_isub dX4_burnAll_69 ?_
      refine G_iadd dX4_burnAll_70 ?_
      obtain ⟨f3, ef3⟩ : ∃ z : mj_S, z = upd f2 (40 + c) ((f2 (40 + c)) + ((f2 (4)) - (mn (f (4)) (f (15 + c))))) := ⟨_, rfl⟩
      refine G_iastN (j := 40 + c) dX4_burnAll_71 ((hΩ.2 _).2.1) (by omega) (((hΩ.2 _).2.2 _).trans (congrArg Ω ef3.symm)) ?_
      refine G_iincN (a := c) (s := c + 1) dX4_burnAll_72 rfl (by omega) (L' := [some (.ref mp), some (.int (nI (c + 1))), some (.int (mn (f (4)) (f (15 + c))))]) rfl ?_
      refine G_goto 2 dX4_burnAll_75 (by decide) ?_
      have q4 : f2 4 = f 4 := by rw [ef2, upd_n (by omega), ef1, upd_n (by omega)]
      rw [q4] at ef3
      exact ml_burn hΩ d (c + 1) f3 _ (by omega) (by rw [hr, itr_s]; congr 1; subst ef3; subst ef2; subst ef1; rfl)
theorem m_burnAll (hΩ : FV mp p1 fs Ω) {f : mj_S} : MC l yX4_burnAll wsX4_burnAll rmX4_burnAll false [.ref mp] (Ω f) none (Ω (s_burn f)) := by
  refine mj_MC (cc := cX4_burnAll) (nl := 3) (ret := none) (plainFor_of_name (by decide)) rfl (rfl) (Nat.le_of_ble_eq_true rfl) ?_
  show GG l cX4_burnAll MX4_burnAll false (.inl (none, Ω (s_burn f))) 0 [some (.ref mp), none, none] [] (Ω f) 0 0
  refine G_iconst (v := 0) dX4_burnAll_0 (by decide) ?_
  refine G_istore_n dX4_burnAll_1 rfl (L' := [some (.ref mp), some (.int 0), none]) rfl ?_
  exact ml_burn hΩ 5 0 f _ rfl rfl
theorem ml_plots (hΩ : FV mp p1 fs Ω) {X : mj_R} {F : mj_S} {sn : Int32} {r : Nat} (hr10 : r < 10) (K : ∀ (y3 y4 : Option Value), GG l cX4_passOne MX4_passOne false X 91 [some (.ref mp), some (.int sn), some (.int (nI r)), y3, y4] [] (Ω F) 0 0) : ∀ (d c : Nat) (g : mj_S) (y4 : Option Value), c + d = 20 → F = itr (fun p a => if 6 < r then s_soak p a else if r < 4 then s_dry p a else a) d c g → GG l cX4_passOne MX4_passOne false X 55 [some (.ref mp), some (.int sn), some (.int (nI r)), some (.int (nI c)), y4] [] (Ω g) 0 0
  | 0, c, g, y4, hc, hr => by
    refine G_iload_n dX4_passOne_55 rfl ?_
    refine G_bipush (v := 20) dX4_passOne_56 (by decide) ?_
    refine G_icmp_geN (a := c) (c := 20) 91 dX4_passOne_58 (by decide) (by omega) (fun c58 => ?_) (fun c58 => ?_)
    · rw [itr_0] at hr
      subst hr
      exact K _ _
    · exact (show False by omega).elim
  | d + 1, c, g, y4, hc, hr => by
    refine G_iload_n dX4_passOne_55 rfl ?_
    refine G_bipush (v := 20) dX4_passOne_56 (by decide) ?_
    refine G_icmp_geN (a := c) (c := 20) 91 dX4_passOne_58 (by decide) (by omega) (fun c58 => ?_) (fun c58 => ?_)
    · exact (show False by omega).elim
    · refine G_iload_n dX4_passOne_61 rfl ?_
      refine G_bipush (v := 6) dX4_passOne_62 (by decide) ?_
      refine G_icmp_leN (a := r) (c := 6) 75 dX4_passOne_64 (by decide) (by omega) (fun c64 => ?_) (fun c64 => ?_)
      · refine G_iload_n dX4_passOne_75 rfl ?_
        refine G_iconst (v := 4) dX4_passOne_76 (by decide) ?_
        refine G_icmp_geN (a := r) (c := 4) 85 dX4_passOne_77 (by decide) (by omega) (fun c77 => ?_) (fun c77 => ?_)
        · refine G_iincN (a := c) (s := c + 1) dX4_passOne_85 rfl (by omega) (L' := [some (.ref mp), some (.int sn), some (.int (nI (r))), some (.int (nI (c + 1))), y4]) rfl ?_
          refine G_goto 55 dX4_passOne_88 (by decide) ?_
          exact ml_plots hΩ hr10 K d (c + 1) g _ (by omega) (by rw [hr, itr_s]; exact congrArg _ (by rw [if_neg (by omega), if_neg (by omega)]))
        · refine G_aload_n dX4_passOne_80 rfl ?_
          refine G_iload_n dX4_passOne_81 rfl ?_
          refine G_callVv dX4_passOne_82 kX4_passOne_X4_dry ⟨rfl, rfl⟩ ⟨Nat.zero_le _, Nat.zero_le _⟩ (m_dry hΩ (p := c) (by omega)) rfl rfl ((hΩ.2 _).1) rfl rfl ?_
          refine G_iincN (a := c) (s := c + 1) dX4_passOne_85 rfl (by omega) (L' := [some (.ref mp), some (.int sn), some (.int (nI (r))), some (.int (nI (c + 1))), y4]) rfl ?_
          refine G_goto 55 dX4_passOne_88 (by decide) ?_
          exact ml_plots hΩ hr10 K d (c + 1) (s_dry (c) g) _ (by omega) (by rw [hr, itr_s]; exact congrArg _ (by rw [if_neg (by omega), if_pos (by omega)]))
      · refine G_aload_n dX4_passOne_67 rfl ?_
        refine G_iload_n dX4_passOne_68 rfl ?_
        refine G_callVv dX4_passOne_69 kX4_passOne_X4_soak ⟨rfl, rfl⟩ ⟨Nat.zero_le _, Nat.zero_le _⟩ (m_soak hΩ (p := c) (by omega)) rfl rfl ((hΩ.2 _).1) rfl rfl ?_
        refine G_goto 85 dX4_passOne_72 (by decide) ?_
        refine G_iincN (a := c) (s := c + 1) dX4_passOne_85 rfl (by omega) (L' := [some (.ref mp), some (.int sn), some (.int (nI (r))), some (.int (nI (c + 1))), y4]) rfl ?_
        refine G_goto 55 dX4_passOne_88 (by decide) ?_
        exact ml_plots hΩ hr10 K d (c + 1) (s_soak (c) g) _ (by omega) (by rw [hr, itr_s]; exact congrArg _ (if_pos (by omega)))
theorem ml_carts (hΩ : FV mp p1 fs Ω) {res : mj_S × Int32} {sn : Int32} {r D : Nat} (hD : D < 2147483000) (hr10 : r < 10) : ∀ (d c : Nat) (g : mj_S) (x : Int32) (hog : oA g D) (hv : vt g), c + d = 4 → res = itr (s_carts1 D) d c (g, x) → GG l cX4_passOne MX4_passOne false (.inl (some (.int res.2), Ω res.1)) 106 [some (.ref mp), some (.int sn), some (.int (nI r)), some (.int x), some (.int (nI c))] [] (Ω g) 0 0
  | 0, c, g, x, hog, hv, hc, hr => by
    refine G_iload dX4_passOne_106 rfl ?_
    refine G_iconst (v := 4) dX4_passOne_108 (by decide) ?_
    refine G_icmp_geN (a := c) (c := 4) 127 dX4_passOne_109 (by decide) (by omega) (fun c109 => ?_) (fun c109 => ?_)
    · refine G_iload_n dX4_passOne_127 rfl ?_
      exact G_iret dX4_passOne_128 ⟨Nat.zero_le _, Nat.zero_le _⟩ (by rw [hr, itr_0])
    · exact (show False by omega).elim
  | d + 1, c, g, x, hog, hv, hc, hr => by
    obtain ⟨kk, hkk, ekk⟩ := hog.2.2.2.2.2.2.1 c (by omega)
    refine G_iload dX4_passOne_106 rfl ?_
    refine G_iconst (v := 4) dX4_passOne_108 (by decide) ?_
    refine G_icmp_geN (a := c) (c := 4) 127 dX4_passOne_109 (by decide) (by omega) (fun c109 => ?_) (fun c109 => ?_)
    · exact (show False by omega).elim
    · refine G_iload_n dX4_passOne_112 rfl ?_
      refine G_aload_n dX4_passOne_113 rfl ?_
      refine G_iload dX4_passOne_114 rfl ?_
      refine G_callVi dX4_passOne_116 kX4_passOne_X4_cart ⟨rfl, rfl⟩ ⟨Nat.zero_le _, Nat.zero_le _⟩ (m_cart hΩ (D := D) (b := c) (by omega) hog hD) rfl rfl ((hΩ.2 _).1) rfl rfl ?_
      refine G_iadd dX4_passOne_119 ?_
      refine G_istore_n dX4_passOne_120 rfl (L' := [some (.ref mp), some (.int sn), some (.int (nI (r))), some (.int (x + (g (49 + c) - (s_cart D (c) g).2))), some (.int (nI (c)))]) rfl ?_
      refine G_iincN (a := c) (s := c + 1) dX4_passOne_121 rfl (by omega) (L' := [some (.ref mp), some (.int sn), some (.int (nI (r))), some (.int (x + (g (49 + c) - (s_cart D (c) g).2))), some (.int (nI (c + 1)))]) rfl ?_
      refine G_goto 106 dX4_passOne_124 (by decide) ?_
      obtain ⟨l1, k1, k2, k3, k4⟩ := cart_ok (f := g) (D := D) (b := c) (by omega) 5 0 g kk (sA_rf g) hv (by omega)
      rw [← ekk] at k2 k3
      exact ml_carts hΩ hD hr10 d (c + 1) _ _ (oA_same k2 hog) k3 (by omega) (by rw [hr, itr_s, s_carts1])
theorem m_passOne (hΩ : FV mp p1 fs Ω) {f : mj_S} {D : Nat} (ho : oA f D) (hv : vt f) (hD : D < 2147480000) : MC l yX4_passOne wsX4_passOne rmX4_passOne false [.ref mp] (Ω f) (some (.int (s_day f).2)) (Ω ((s_day f).1)) := by
  refine mj_MC (cc := cX4_passOne) (nl := 5) (ret := (some .int)) (plainFor_of_name (by decide)) rfl (⟨_, rfl, rfl⟩) (Nat.le_of_ble_eq_true rfl) ?_
  show GG l cX4_passOne MX4_passOne false (.inl ((some (.int (s_day f).2)), Ω ((s_day f).1))) 0 [some (.ref mp), none, none, none, none] [] (Ω f) 0 0
  refine G_aload_n dX4_passOne_0 rfl ?_
  refine G_getf dX4_passOne_1 fX4_passOne_7 ((hΩ.2 _).1) (hΩ.1) ?_
  refine G_iconst (v := 0) dX4_passOne_4 (by decide) ?_
  refine G_dup2 dX4_passOne_5 rfl rfl ?_
  refine G_ialdN (j := 0) dX4_passOne_6 ((hΩ.2 _).2.1) (by omega) ?_
  refine G_iconst (v := 1) dX4_passOne_7 (by decide) ?_
  refine G_iadd dX4_passOne_8 ?_
  obtain ⟨f1, ef1⟩ : ∃ z : mj_S, z = upd f (0) ((f (0)) + 1) := ⟨_, rfl⟩
  refine G_iastN (j := 0) dX4_passOne_9 ((hΩ.2 _).2.1) (by omega) (((hΩ.2 _).2.2 _).trans (congrArg Ω ef1.symm)) ?_
  have hof1 : oA f1 (D + 1) := by rw [ef1]; exact oA_day ho
  have hvf1 : vt f1 := by rw [ef1]; exact vt_same (sT_upd (sT_rf f) (by unfold inT; omega)) hv
  have q1 : f1 1 = f 1 := by rw [ef1, upd_n (by omega)]
  refine G_aload_n dX4_passOne_10 rfl ?_
  refine G_getf dX4_passOne_11 fX4_passOne_7 ((hΩ.2 _).1) (hΩ.1) ?_
  refine G_iconst (v := 1) dX4_passOne_14 (by decide) ?_
  refine G_ialdN (j := 1) dX4_passOne_15 ((hΩ.2 _).2.1) (by omega) ?_
  refine G_iconst (v := 1) dX4_passOne_16 (by decide) ?_
  refine G_icmp_ne 24 dX4_passOne_17 (by decide) (fun c17 => ?_) (fun c17 => ?_)
  · refine G_iconst (v := 0) dX4_passOne_24 (by decide) ?_
    refine G_istore_n dX4_passOne_25 rfl (L' := [some (.ref mp), some (.int 0), none, none, none]) rfl ?_
    refine G_iload_n dX4_passOne_26 rfl ?_
    refine G_if_eqN (a := 0) 34 dX4_passOne_27 (by decide) (by omega) (fun c27 => ?_) (fun c27 => ?_)
    · refine G_aload_n dX4_passOne_34 rfl ?_
      refine G_aload_n dX4_passOne_35 rfl ?_
      refine G_getf dX4_passOne_36 fX4_passOne_7 ((hΩ.2 _).1) (hΩ.1) ?_
      refine G_iconst (v := 0) dX4_passOne_39 (by decide) ?_
      refine G_ialdN (j := 0) dX4_passOne_40 ((hΩ.2 _).2.1) (by omega) ?_
      refine G_eqi hof1.1 ?_
      obtain ⟨sg, hs9, hs⟩ := hof1.2.2.1
      refine G_callVi dX4_passOne_41 kX4_passOne_X4_rainOf ⟨rfl, rfl⟩ ⟨Nat.zero_le _, Nat.zero_le _⟩ (m_rainOf hΩ (d := D + 1) (sg := sg) (by omega) hs hs9) rfl rfl ((hΩ.2 _).1) rfl rfl ?_
      obtain ⟨r, er⟩ : ∃ r, r = s_rain f1 (D + 1) := ⟨_, rfl⟩
      rw [← er]
      have hr10 : r < 10 := by rw [er]; exact Nat.mod_lt _ (by omega)
      refine G_istore_n dX4_passOne_44 rfl (L' := [some (.ref mp), some (.int 0), some (.int (nI (r))), none, none]) rfl ?_
      refine G_iload_n dX4_passOne_45 rfl ?_
      refine G_if_neN (a := 0) 53 dX4_passOne_46 (by decide) (by omega) (fun c46 => ?_) (fun c46 => ?_)
      · exact (show False by omega).elim
      · refine G_aload_n dX4_passOne_49 rfl ?_
        refine G_callVv dX4_passOne_50 kX4_passOne_X4_cutAll ⟨rfl, rfl⟩ ⟨Nat.zero_le _, Nat.zero_le _⟩ (m_cutAll hΩ hof1) rfl rfl ((hΩ.2 _).1) rfl rfl ?_
        refine G_iconst (v := 0) dX4_passOne_53 (by decide) ?_
        refine G_istore_n dX4_passOne_54 rfl (L' := [some (.ref mp), some (.int 0), some (.int (nI (r))), some (.int 0), none]) rfl ?_
        have ed : s_day f = s_carts (D + 1) (s_wth r (s_cuts f1)) := by rw [s_day, if_neg (fun z => c17 (q1.trans z)), ← ef1, hof1.1, nI_clamp (by omega), ← er]
        rw [ed]
        obtain ⟨k1, k2⟩ := cuts_ok (f := f1) 6 0 f1 (by omega) (sA_rf _) hof1 hvf1
        refine ml_plots hΩ (r := r) (F := s_wth r (s_cuts f1)) hr10 (fun y3 y4 => ?_) 20 0 (s_cuts f1) _ (by omega) (wth_itr r _).symm
        refine G_iload_n dX4_passOne_91 rfl ?_
        refine G_if_eqN (a := 0) 101 dX4_passOne_92 (by decide) (by omega) (fun c92 => ?_) (fun c92 => ?_)
        · refine G_iconst (v := 0) dX4_passOne_101 (by decide) ?_
          refine G_istore_n dX4_passOne_102 rfl (L' := [some (.ref mp), some (.int 0), some (.int (nI (r))), some (.int 0), y4]) rfl ?_
          refine G_iconst (v := 0) dX4_passOne_103 (by decide) ?_
          refine G_istore dX4_passOne_104 rfl (L' := [some (.ref mp), some (.int 0), some (.int (nI (r))), some (.int 0), some (.int 0)]) rfl ?_
          exact ml_carts hΩ (by omega) hr10 4 0 _ 0 (oA_same (sA.tr k1 sA_wth) hof1) (vt_wth k2) (by omega) rfl
        · exact (show False by omega).elim
    · exact (show False by omega).elim
  · refine G_iconst (v := 1) dX4_passOne_20 (by decide) ?_
    refine G_goto 25 dX4_passOne_21 (by decide) ?_
    refine G_istore_n dX4_passOne_25 rfl (L' := [some (.ref mp), some (.int 1), none, none, none]) rfl ?_
    refine G_iload_n dX4_passOne_26 rfl ?_
    refine G_if_eqN (a := 1) 34 dX4_passOne_27 (by decide) (by omega) (fun c27 => ?_) (fun c27 => ?_)
    · exact (show False by omega).elim
    · refine G_iconst (v := 0) dX4_passOne_30 (by decide) ?_
      refine G_goto 44 dX4_passOne_31 (by decide) ?_
      refine G_istore_n dX4_passOne_44 rfl (L' := [some (.ref mp), some (.int 1), some (.int 0), none, none]) rfl ?_
      refine G_iload_n dX4_passOne_45 rfl ?_
      refine G_if_neN (a := 1) 53 dX4_passOne_46 (by decide) (by omega) (fun c46 => ?_) (fun c46 => ?_)
      · refine G_iconst (v := 0) dX4_passOne_53 (by decide) ?_
        refine G_istore_n dX4_passOne_54 rfl (L' := [some (.ref mp), some (.int 1), some (.int 0), some (.int 0), none]) rfl ?_
        have ed : s_day f = (s_burn (s_wth 0 f1), 0) := by rw [s_day, if_pos (q1.symm.trans c17), ← ef1]
        rw [ed]
        refine ml_plots hΩ (r := 0) (F := s_wth 0 f1) (by omega) (fun y3 y4 => ?_) 20 0 f1 _ (by omega) (wth_itr 0 f1).symm
        refine G_iload_n dX4_passOne_91 rfl ?_
        refine G_if_eqN (a := 1) 101 dX4_passOne_92 (by decide) (by omega) (fun c92 => ?_) (fun c92 => ?_)
        · exact (show False by omega).elim
        · refine G_aload_n dX4_passOne_95 rfl ?_
          refine G_callVv dX4_passOne_96 kX4_passOne_X4_burnAll ⟨rfl, rfl⟩ ⟨Nat.zero_le _, Nat.zero_le _⟩ (m_burnAll hΩ) rfl rfl ((hΩ.2 _).1) rfl rfl ?_
          refine G_iconst (v := 0) dX4_passOne_99 (by decide) ?_
          exact G_iret dX4_passOne_100 ⟨Nat.zero_le _, Nat.zero_le _⟩ (rfl)
      · exact (show False by omega).elim
theorem ml_passes (hΩ : FV mp p1 fs Ω) {n : Nat} {res : mj_S × Int32} : ∀ (d c D : Nat) (f : mj_S) (x : Int32), oA f D → vt f → D + d < 2147480000 ∧ n < 2147483648 → c + d = n → res = itr s_days1 d c (f, x) → GG l cX4_passes MX4_passes false (.inl (some (.int res.2), Ω res.1)) 4 [some (.ref mp), some (.int (nI n)), some (.int x), some (.int (nI c))] [] (Ω f) 0 0
  | 0, c, D, f, x, ho, hv, hn, hc, hr => by
    refine G_iload_n dX4_passes_4 rfl ?_
    refine G_iload_n dX4_passes_5 rfl ?_
    refine G_icmp_geN (a := c) (c := n) 22 dX4_passes_6 (by decide) (by omega) (fun c6 => ?_) (fun c6 => ?_)
    · refine G_iload_n dX4_passes_22 rfl ?_
      exact G_iret dX4_passes_23 ⟨Nat.zero_le _, Nat.zero_le _⟩ (by rw [hr, itr_0])
    · exact (show False by omega).elim
  | d + 1, c, D, f, x, ho, hv, hn, hc, hr => by
    refine G_iload_n dX4_passes_4 rfl ?_
    refine G_iload_n dX4_passes_5 rfl ?_
    refine G_icmp_geN (a := c) (c := n) 22 dX4_passes_6 (by decide) (by omega) (fun c6 => ?_) (fun c6 => ?_)
    · exact (show False by omega).elim
    · refine G_iload_n dX4_passes_9 rfl ?_
      refine G_aload_n dX4_passes_10 rfl ?_
      refine G_callVi dX4_passes_11 kX4_passes_X4_passOne ⟨rfl, rfl⟩ ⟨Nat.zero_le _, Nat.zero_le _⟩ (m_passOne hΩ ho hv (by omega)) rfl rfl ((hΩ.2 _).1) rfl rfl ?_
      refine G_iadd dX4_passes_14 ?_
      refine G_istore_n dX4_passes_15 rfl (L' := [some (.ref mp), some (.int (nI (n))), some (.int (x + (s_day f).2)), some (.int (nI (c)))]) rfl ?_
      refine G_iincN (a := c) (s := c + 1) dX4_passes_16 rfl (by omega) (L' := [some (.ref mp), some (.int (nI (n))), some (.int (x + (s_day f).2)), some (.int (nI (c + 1)))]) rfl ?_
      refine G_goto 4 dX4_passes_19 (by decide) ?_
      obtain ⟨k1, k2, -⟩ := day_ok ho hv
      exact ml_passes hΩ d (c + 1) (D + 1) _ _ k1 k2 (by omega) (by omega) (by rw [hr, itr_s, s_days1])
theorem m_passes (hΩ : FV mp p1 fs Ω) {f : mj_S} {D n : Nat} (ho : oA f D) (hv : vt f) (hn : D + n < 2147480000) : MC l yX4_passes wsX4_passes rmX4_passes false [.ref mp, .int (nI (n))] (Ω f) (some (.int (s_days n f).2)) (Ω ((s_days n f).1)) := by
  refine mj_MC (cc := cX4_passes) (nl := 4) (ret := (some .int)) (plainFor_of_name (by decide)) rfl (⟨_, rfl, rfl⟩) (Nat.le_of_ble_eq_true rfl) ?_
  show GG l cX4_passes MX4_passes false (.inl ((some (.int (s_days n f).2)), Ω ((s_days n f).1))) 0 [some (.ref mp), some (.int (nI (n))), none, none] [] (Ω f) 0 0
  refine G_iconst (v := 0) dX4_passes_0 (by decide) ?_
  refine G_istore_n dX4_passes_1 rfl (L' := [some (.ref mp), some (.int (nI (n))), some (.int 0), none]) rfl ?_
  refine G_iconst (v := 0) dX4_passes_2 (by decide) ?_
  refine G_istore_n dX4_passes_3 rfl (L' := [some (.ref mp), some (.int (nI (n))), some (.int 0), some (.int 0)]) rfl ?_
  exact ml_passes hΩ n 0 D f 0 ho hv (by omega) (by omega) rfl
theorem ml_s_shs (hΩ : FV mp p1 fs Ω) {f : mj_S} {res : Int32} : ∀ (d c : Nat) (x : Int32) (y4 : Option Value), c + d = 5 → res = itr (fun h a => if 0 < s_sh f h then a + 1 else a) d c x → GG l cX4_shortHearths MX4_shortHearths false (.inl (some (.int res), Ω f)) 4 [some (.ref mp), some (.int 1), some (.int x), some (.int (nI (c))), y4] [] (Ω f) 0 0
  | 0, c, x, y4, hc, hr => by
    refine G_iload_n dX4_shortHearths_4 rfl ?_
    refine G_iconst (v := 5) dX4_shortHearths_5 (by decide) ?_
    refine G_icmp_geN (a := c) (c := 5) 47 dX4_shortHearths_6 (by decide) (by omega) (fun c6 => ?_) (fun c6 => ?_)
    · refine G_iload_n dX4_shortHearths_47 rfl ?_
      exact G_iret dX4_shortHearths_48 ⟨Nat.zero_le _, Nat.zero_le _⟩ (by rw [hr, itr_0])
    · exact (show False by omega).elim
  | d + 1, c, x, y4, hc, hr => by
    refine G_iload_n dX4_shortHearths_4 rfl ?_
    refine G_iconst (v := 5) dX4_shortHearths_5 (by decide) ?_
    refine G_icmp_geN (a := c) (c := 5) 47 dX4_shortHearths_6 (by decide) (by omega) (fun c6 => ?_) (fun c6 => ?_)
    · exact (show False by omega).elim
    · refine G_iload_n dX4_shortHearths_9 rfl ?_
      refine G_if_eqN (a := 1) 21 dX4_shortHearths_10 (by decide) (by omega) (fun c10 => ?_) (fun c10 => ?_)
      · exact (show False by omega).elim
      · refine G_aload_n dX4_shortHearths_13 rfl ?_
        refine G_iload_n dX4_shortHearths_14 rfl ?_
        refine G_callVi dX4_shortHearths_15 kX4_shortHearths_X4_shortNow ⟨rfl, rfl⟩ ⟨Nat.zero_le _, Nat.zero_le _⟩ (m_shortNow hΩ (h := c) (by omega)) rfl rfl ((hΩ.2 _).1) rfl rfl ?_
        refine G_goto 26 dX4_shortHearths_18 (by decide) ?_
        refine G_istore dX4_shortHearths_26 rfl (L' := [some (.ref mp), some (.int 1), some (.int x), some (.int (nI (c))), some (.int (s_sh f (c)))]) rfl ?_
        refine G_iload_n dX4_shortHearths_28 rfl ?_
        refine G_iload dX4_shortHearths_29 rfl ?_
        refine G_if_le 38 dX4_shortHearths_31 (by decide) (fun c31 => ?_) (fun c31 => ?_)
        · refine G_iconst (v := 0) dX4_shortHearths_38 (by decide) ?_
          refine G_iadd dX4_shortHearths_39 ?_
          refine G_istore_n dX4_shortHearths_40 rfl (L' := [some (.ref mp), some (.int 1), some (.int (x + 0)), some (.int (nI (c))), some (.int (s_sh f (c)))]) rfl ?_
          refine G_iincN (a := c) (s := c + 1) dX4_shortHearths_41 rfl (by omega) (L' := [some (.ref mp), some (.int 1), some (.int (x + 0)), some (.int (nI (c + 1))), some (.int (s_sh f (c)))]) rfl ?_
          refine G_goto 4 dX4_shortHearths_44 (by decide) ?_
          exact ml_s_shs hΩ d (c + 1) (x + 0) _ (by omega) (by rw [hr, itr_s]; congr 1; simp [Int32.not_lt.mpr c31])
        · refine G_iconst (v := 1) dX4_shortHearths_34 (by decide) ?_
          refine G_goto 39 dX4_shortHearths_35 (by decide) ?_
          refine G_iadd dX4_shortHearths_39 ?_
          refine G_istore_n dX4_shortHearths_40 rfl (L' := [some (.ref mp), some (.int 1), some (.int (x + 1)), some (.int (nI (c))), some (.int (s_sh f (c)))]) rfl ?_
          refine G_iincN (a := c) (s := c + 1) dX4_shortHearths_41 rfl (by omega) (L' := [some (.ref mp), some (.int 1), some (.int (x + 1)), some (.int (nI (c + 1))), some (.int (s_sh f (c)))]) rfl ?_
          refine G_goto 4 dX4_shortHearths_44 (by decide) ?_
          exact ml_s_shs hΩ d (c + 1) (x + 1) _ (by omega) (by rw [hr, itr_s]; congr 1; simp [Int32.not_le.mp c31])
theorem m_s_shs (hΩ : FV mp p1 fs Ω) {f : mj_S} : MC l yX4_shortHearths wsX4_shortHearths rmX4_shortHearths false [.ref mp, .int 1] (Ω f) (some (.int (s_shs f))) (Ω f) := by
  refine mj_MC (cc := cX4_shortHearths) (nl := 5) (ret := (some .int)) (plainFor_of_name (by decide)) rfl (⟨_, rfl, rfl⟩) (Nat.le_of_ble_eq_true rfl) ?_
  show GG l cX4_shortHearths MX4_shortHearths false (.inl ((some (.int (s_shs f))), Ω f)) 0 [some (.ref mp), some (.int 1), none, none, none] [] (Ω f) 0 0
  refine G_iconst (v := 0) dX4_shortHearths_0 (by decide) ?_
  refine G_istore_n dX4_shortHearths_1 rfl (L' := [some (.ref mp), some (.int 1), some (.int 0), none, none]) rfl ?_
  refine G_iconst (v := 0) dX4_shortHearths_2 (by decide) ?_
  refine G_istore_n dX4_shortHearths_3 rfl (L' := [some (.ref mp), some (.int 1), some (.int 0), some (.int 0), none]) rfl ?_
  exact ml_s_shs hΩ 5 0 0 _ rfl rfl
theorem ml_s_shs2 (hΩ : FV mp p1 fs Ω) {f : mj_S} {res : Int32} : ∀ (d c : Nat) (x : Int32) (y4 : Option Value), c + d = 5 → res = itr (fun h a => if 0 < s_sh2 f h then a + 1 else a) d c x → GG l cX4_shortHearths MX4_shortHearths false (.inl (some (.int res), Ω f)) 4 [some (.ref mp), some (.int 0), some (.int x), some (.int (nI (c))), y4] [] (Ω f) 0 0
  | 0, c, x, y4, hc, hr => by
    refine G_iload_n dX4_shortHearths_4 rfl ?_
    refine G_iconst (v := 5) dX4_shortHearths_5 (by decide) ?_
    refine G_icmp_geN (a := c) (c := 5) 47 dX4_shortHearths_6 (by decide) (by omega) (fun c6 => ?_) (fun c6 => ?_)
    · refine G_iload_n dX4_shortHearths_47 rfl ?_
      exact G_iret dX4_shortHearths_48 ⟨Nat.zero_le _, Nat.zero_le _⟩ (by rw [hr, itr_0])
    · exact (show False by omega).elim
  | d + 1, c, x, y4, hc, hr => by
    refine G_iload_n dX4_shortHearths_4 rfl ?_
    refine G_iconst (v := 5) dX4_shortHearths_5 (by decide) ?_
    refine G_icmp_geN (a := c) (c := 5) 47 dX4_shortHearths_6 (by decide) (by omega) (fun c6 => ?_) (fun c6 => ?_)
    · exact (show False by omega).elim
    · refine G_iload_n dX4_shortHearths_9 rfl ?_
      refine G_if_eqN (a := 0) 21 dX4_shortHearths_10 (by decide) (by omega) (fun c10 => ?_) (fun c10 => ?_)
      · refine G_aload_n dX4_shortHearths_21 rfl ?_
        refine G_iload_n dX4_shortHearths_22 rfl ?_
        refine G_callVi dX4_shortHearths_23 kX4_shortHearths_X4_shortThen ⟨rfl, rfl⟩ ⟨Nat.zero_le _, Nat.zero_le _⟩ (m_shortThen hΩ (h := c) (by omega)) rfl rfl ((hΩ.2 _).1) rfl rfl ?_
        refine G_istore dX4_shortHearths_26 rfl (L' := [some (.ref mp), some (.int 0), some (.int x), some (.int (nI (c))), some (.int (s_sh2 f (c)))]) rfl ?_
        refine G_iload_n dX4_shortHearths_28 rfl ?_
        refine G_iload dX4_shortHearths_29 rfl ?_
        refine G_if_le 38 dX4_shortHearths_31 (by decide) (fun c31 => ?_) (fun c31 => ?_)
        · refine G_iconst (v := 0) dX4_shortHearths_38 (by decide) ?_
          refine G_iadd dX4_shortHearths_39 ?_
          refine G_istore_n dX4_shortHearths_40 rfl (L' := [some (.ref mp), some (.int 0), some (.int (x + 0)), some (.int (nI (c))), some (.int (s_sh2 f (c)))]) rfl ?_
          refine G_iincN (a := c) (s := c + 1) dX4_shortHearths_41 rfl (by omega) (L' := [some (.ref mp), some (.int 0), some (.int (x + 0)), some (.int (nI (c + 1))), some (.int (s_sh2 f (c)))]) rfl ?_
          refine G_goto 4 dX4_shortHearths_44 (by decide) ?_
          exact ml_s_shs2 hΩ d (c + 1) (x + 0) _ (by omega) (by rw [hr, itr_s]; congr 1; simp [Int32.not_lt.mpr c31])
        · refine G_iconst (v := 1) dX4_shortHearths_34 (by decide) ?_
          refine G_goto 39 dX4_shortHearths_35 (by decide) ?_
          refine G_iadd dX4_shortHearths_39 ?_
          refine G_istore_n dX4_shortHearths_40 rfl (L' := [some (.ref mp), some (.int 0), some (.int (x + 1)), some (.int (nI (c))), some (.int (s_sh2 f (c)))]) rfl ?_
          refine G_iincN (a := c) (s := c + 1) dX4_shortHearths_41 rfl (by omega) (L' := [some (.ref mp), some (.int 0), some (.int (x + 1)), some (.int (nI (c + 1))), some (.int (s_sh2 f (c)))]) rfl ?_
          refine G_goto 4 dX4_shortHearths_44 (by decide) ?_
          exact ml_s_shs2 hΩ d (c + 1) (x + 1) _ (by omega) (by rw [hr, itr_s]; congr 1; simp [Int32.not_le.mp c31])
      · exact (show False by omega).elim
theorem m_s_shs2 (hΩ : FV mp p1 fs Ω) {f : mj_S} : MC l yX4_shortHearths wsX4_shortHearths rmX4_shortHearths false [.ref mp, .int 0] (Ω f) (some (.int (s_shs2 f))) (Ω f) := by
  refine mj_MC (cc := cX4_shortHearths) (nl := 5) (ret := (some .int)) (plainFor_of_name (by decide)) rfl (⟨_, rfl, rfl⟩) (Nat.le_of_ble_eq_true rfl) ?_
  show GG l cX4_shortHearths MX4_shortHearths false (.inl ((some (.int (s_shs2 f))), Ω f)) 0 [some (.ref mp), some (.int 0), none, none, none] [] (Ω f) 0 0
  refine G_iconst (v := 0) dX4_shortHearths_0 (by decide) ?_
  refine G_istore_n dX4_shortHearths_1 rfl (L' := [some (.ref mp), some (.int 0), some (.int 0), none, none]) rfl ?_
  refine G_iconst (v := 0) dX4_shortHearths_2 (by decide) ?_
  refine G_istore_n dX4_shortHearths_3 rfl (L' := [some (.ref mp), some (.int 0), some (.int 0), some (.int 0), none]) rfl ?_
  exact ml_s_shs2 hΩ 5 0 0 _ rfl rfl
theorem m_tellsHearth_0 (hΩ : FV mp p1 fs Ω) {f : mj_S} {h : Nat} (hh : h < 5) : MC l yX4_tellsHearth wsX4_tellsHearth rmX4_tellsHearth false [.ref mp, .int (nI (h)), .int 0] (Ω f) (some (.int (s_ofH f h 0))) (Ω f) := by
  refine mj_MC (cc := cX4_tellsHearth) (nl := 3) (ret := (some .int)) (plainFor_of_name (by decide)) rfl (⟨_, rfl, rfl⟩) (Nat.le_of_ble_eq_true rfl) ?_
  show GG l cX4_tellsHearth MX4_tellsHearth false (.inl ((some (.int (s_ofH f h 0))), Ω f)) 0 [some (.ref mp), some (.int (nI (h))), some (.int 0)] [] (Ω f) 0 0
  refine G_iload_n dX4_tellsHearth_0 rfl ?_
  refine G_tabIn (off := 59) 60 dX4_tellsHearth_1 (by decide) (by decide) (by decide) (by decide) ?_
  refine G_aload_n dX4_tellsHearth_60 rfl ?_
  refine G_getf dX4_tellsHearth_61 fX4_tellsHearth_7 ((hΩ.2 _).1) (hΩ.1) ?_
  refine G_iconst (v := 5) dX4_tellsHearth_64 (by decide) ?_
  refine G_iload_n dX4_tellsHearth_65 rfl ?_
  refine G_iaddN (a := 5) (c := h) (s := 5 + h) dX4_tellsHearth_66 (by omega) ?_
  refine G_ialdN (j := 5 + h) dX4_tellsHearth_67 ((hΩ.2 _).2.1) (by omega) ?_
  exact G_iret dX4_tellsHearth_68 ⟨Nat.zero_le _, Nat.zero_le _⟩ (rfl)
theorem m_tellsHearth_1 (hΩ : FV mp p1 fs Ω) {f : mj_S} {h : Nat} (hh : h < 5) : MC l yX4_tellsHearth wsX4_tellsHearth rmX4_tellsHearth false [.ref mp, .int (nI (h)), .int 1] (Ω f) (some (.int (s_ofH f h 1))) (Ω f) := by
  refine mj_MC (cc := cX4_tellsHearth) (nl := 3) (ret := (some .int)) (plainFor_of_name (by decide)) rfl (⟨_, rfl, rfl⟩) (Nat.le_of_ble_eq_true rfl) ?_
  show GG l cX4_tellsHearth MX4_tellsHearth false (.inl ((some (.int (s_ofH f h 1))), Ω f)) 0 [some (.ref mp), some (.int (nI (h))), some (.int 1)] [] (Ω f) 0 0
  refine G_iload_n dX4_tellsHearth_0 rfl ?_
  refine G_tabIn (off := 68) 69 dX4_tellsHearth_1 (by decide) (by decide) (by decide) (by decide) ?_
  refine G_aload_n dX4_tellsHearth_69 rfl ?_
  refine G_getf dX4_tellsHearth_70 fX4_tellsHearth_7 ((hΩ.2 _).1) (hΩ.1) ?_
  refine G_bipush (v := 10) dX4_tellsHearth_73 (by decide) ?_
  refine G_iload_n dX4_tellsHearth_75 rfl ?_
  refine G_iaddN (a := 10) (c := h) (s := 10 + h) dX4_tellsHearth_76 (by omega) ?_
  refine G_ialdN (j := 10 + h) dX4_tellsHearth_77 ((hΩ.2 _).2.1) (by omega) ?_
  exact G_iret dX4_tellsHearth_78 ⟨Nat.zero_le _, Nat.zero_le _⟩ (rfl)
theorem m_tellsHearth_2 (hΩ : FV mp p1 fs Ω) {f : mj_S} {h : Nat} (hh : h < 5) : MC l yX4_tellsHearth wsX4_tellsHearth rmX4_tellsHearth false [.ref mp, .int (nI (h)), .int 2] (Ω f) (some (.int (s_ofH f h 2))) (Ω f) := by
  refine mj_MC (cc := cX4_tellsHearth) (nl := 3) (ret := (some .int)) (plainFor_of_name (by decide)) rfl (⟨_, rfl, rfl⟩) (Nat.le_of_ble_eq_true rfl) ?_
  show GG l cX4_tellsHearth MX4_tellsHearth false (.inl ((some (.int (s_ofH f h 2))), Ω f)) 0 [some (.ref mp), some (.int (nI (h))), some (.int 2)] [] (Ω f) 0 0
  refine G_iload_n dX4_tellsHearth_0 rfl ?_
  refine G_tabIn (off := 78) 79 dX4_tellsHearth_1 (by decide) (by decide) (by decide) (by decide) ?_
  refine G_aload_n dX4_tellsHearth_79 rfl ?_
  refine G_getf dX4_tellsHearth_80 fX4_tellsHearth_7 ((hΩ.2 _).1) (hΩ.1) ?_
  refine G_bipush (v := 15) dX4_tellsHearth_83 (by decide) ?_
  refine G_iload_n dX4_tellsHearth_85 rfl ?_
  refine G_iaddN (a := 15) (c := h) (s := 15 + h) dX4_tellsHearth_86 (by omega) ?_
  refine G_ialdN (j := 15 + h) dX4_tellsHearth_87 ((hΩ.2 _).2.1) (by omega) ?_
  exact G_iret dX4_tellsHearth_88 ⟨Nat.zero_le _, Nat.zero_le _⟩ (rfl)
theorem m_tellsHearth_3 (hΩ : FV mp p1 fs Ω) {f : mj_S} {h : Nat} (hh : h < 5) : MC l yX4_tellsHearth wsX4_tellsHearth rmX4_tellsHearth false [.ref mp, .int (nI (h)), .int 3] (Ω f) (some (.int (s_ofH f h 3))) (Ω f) := by
  refine mj_MC (cc := cX4_tellsHearth) (nl := 3) (ret := (some .int)) (plainFor_of_name (by decide)) rfl (⟨_, rfl, rfl⟩) (Nat.le_of_ble_eq_true rfl) ?_
  show GG l cX4_tellsHearth MX4_tellsHearth false (.inl ((some (.int (s_ofH f h 3))), Ω f)) 0 [some (.ref mp), some (.int (nI (h))), some (.int 3)] [] (Ω f) 0 0
  refine G_iload_n dX4_tellsHearth_0 rfl ?_
  refine G_tabIn (off := 88) 89 dX4_tellsHearth_1 (by decide) (by decide) (by decide) (by decide) ?_
  refine G_aload_n dX4_tellsHearth_89 rfl ?_
  refine G_iload_n dX4_tellsHearth_90 rfl ?_
  refine G_callVi dX4_tellsHearth_91 kX4_tellsHearth_X4_ofHearth ⟨rfl, rfl⟩ ⟨Nat.zero_le _, Nat.zero_le _⟩ (m_ofHearth hΩ (h := h) (by omega)) rfl rfl ((hΩ.2 _).1) rfl rfl ?_
  exact G_iret dX4_tellsHearth_94 ⟨Nat.zero_le _, Nat.zero_le _⟩ (rfl)
theorem m_tellsHearth_4 (hΩ : FV mp p1 fs Ω) {f : mj_S} {h : Nat} (hh : h < 5) : MC l yX4_tellsHearth wsX4_tellsHearth rmX4_tellsHearth false [.ref mp, .int (nI (h)), .int 4] (Ω f) (some (.int (s_ofH f h 4))) (Ω f) := by
  refine mj_MC (cc := cX4_tellsHearth) (nl := 3) (ret := (some .int)) (plainFor_of_name (by decide)) rfl (⟨_, rfl, rfl⟩) (Nat.le_of_ble_eq_true rfl) ?_
  show GG l cX4_tellsHearth MX4_tellsHearth false (.inl ((some (.int (s_ofH f h 4))), Ω f)) 0 [some (.ref mp), some (.int (nI (h))), some (.int 4)] [] (Ω f) 0 0
  refine G_iload_n dX4_tellsHearth_0 rfl ?_
  refine G_tabIn (off := 94) 95 dX4_tellsHearth_1 (by decide) (by decide) (by decide) (by decide) ?_
  refine G_aload_n dX4_tellsHearth_95 rfl ?_
  refine G_iload_n dX4_tellsHearth_96 rfl ?_
  refine G_callVi dX4_tellsHearth_97 kX4_tellsHearth_X4_shortNow ⟨rfl, rfl⟩ ⟨Nat.zero_le _, Nat.zero_le _⟩ (m_shortNow hΩ (h := h) (by omega)) rfl rfl ((hΩ.2 _).1) rfl rfl ?_
  exact G_iret dX4_tellsHearth_100 ⟨Nat.zero_le _, Nat.zero_le _⟩ (rfl)
theorem m_tellsHearth_5 (hΩ : FV mp p1 fs Ω) {f : mj_S} {h : Nat} (hh : h < 5) : MC l yX4_tellsHearth wsX4_tellsHearth rmX4_tellsHearth false [.ref mp, .int (nI (h)), .int 5] (Ω f) (some (.int (s_ofH f h 5))) (Ω f) := by
  refine mj_MC (cc := cX4_tellsHearth) (nl := 3) (ret := (some .int)) (plainFor_of_name (by decide)) rfl (⟨_, rfl, rfl⟩) (Nat.le_of_ble_eq_true rfl) ?_
  show GG l cX4_tellsHearth MX4_tellsHearth false (.inl ((some (.int (s_ofH f h 5))), Ω f)) 0 [some (.ref mp), some (.int (nI (h))), some (.int 5)] [] (Ω f) 0 0
  refine G_iload_n dX4_tellsHearth_0 rfl ?_
  refine G_tabIn (off := 100) 101 dX4_tellsHearth_1 (by decide) (by decide) (by decide) (by decide) ?_
  refine G_aload_n dX4_tellsHearth_101 rfl ?_
  refine G_iload_n dX4_tellsHearth_102 rfl ?_
  refine G_callVi dX4_tellsHearth_103 kX4_tellsHearth_X4_shortThen ⟨rfl, rfl⟩ ⟨Nat.zero_le _, Nat.zero_le _⟩ (m_shortThen hΩ (h := h) (by omega)) rfl rfl ((hΩ.2 _).1) rfl rfl ?_
  exact G_iret dX4_tellsHearth_106 ⟨Nat.zero_le _, Nat.zero_le _⟩ (rfl)
theorem m_tellsHearth_6 (hΩ : FV mp p1 fs Ω) {f : mj_S} {h : Nat} (hh : h < 5) : MC l yX4_tellsHearth wsX4_tellsHearth rmX4_tellsHearth false [.ref mp, .int (nI (h)), .int 6] (Ω f) (some (.int (s_ofH f h 6))) (Ω f) := by
  refine mj_MC (cc := cX4_tellsHearth) (nl := 3) (ret := (some .int)) (plainFor_of_name (by decide)) rfl (⟨_, rfl, rfl⟩) (Nat.le_of_ble_eq_true rfl) ?_
  show GG l cX4_tellsHearth MX4_tellsHearth false (.inl ((some (.int (s_ofH f h 6))), Ω f)) 0 [some (.ref mp), some (.int (nI (h))), some (.int 6)] [] (Ω f) 0 0
  refine G_iload_n dX4_tellsHearth_0 rfl ?_
  refine G_tabIn (off := 106) 107 dX4_tellsHearth_1 (by decide) (by decide) (by decide) (by decide) ?_
  refine G_aload_n dX4_tellsHearth_107 rfl ?_
  refine G_iload_n dX4_tellsHearth_108 rfl ?_
  refine G_callVi dX4_tellsHearth_109 kX4_tellsHearth_X4_shortByBook ⟨rfl, rfl⟩ ⟨Nat.zero_le _, Nat.zero_le _⟩ (m_shortByBook hΩ (h := h) (by omega)) rfl rfl ((hΩ.2 _).1) rfl rfl ?_
  exact G_iret dX4_tellsHearth_112 ⟨Nat.zero_le _, Nat.zero_le _⟩ (rfl)
theorem m_tellsHearth_7 (hΩ : FV mp p1 fs Ω) {f : mj_S} {h : Nat} (hh : h < 5) : MC l yX4_tellsHearth wsX4_tellsHearth rmX4_tellsHearth false [.ref mp, .int (nI (h)), .int 7] (Ω f) (some (.int (s_ofH f h 7))) (Ω f) := by
  refine mj_MC (cc := cX4_tellsHearth) (nl := 3) (ret := (some .int)) (plainFor_of_name (by decide)) rfl (⟨_, rfl, rfl⟩) (Nat.le_of_ble_eq_true rfl) ?_
  show GG l cX4_tellsHearth MX4_tellsHearth false (.inl ((some (.int (s_ofH f h 7))), Ω f)) 0 [some (.ref mp), some (.int (nI (h))), some (.int 7)] [] (Ω f) 0 0
  refine G_iload_n dX4_tellsHearth_0 rfl ?_
  refine G_tabIn (off := 112) 113 dX4_tellsHearth_1 (by decide) (by decide) (by decide) (by decide) ?_
  refine G_aload_n dX4_tellsHearth_113 rfl ?_
  refine G_getf dX4_tellsHearth_114 fX4_tellsHearth_7 ((hΩ.2 _).1) (hΩ.1) ?_
  refine G_bipush (v := 20) dX4_tellsHearth_117 (by decide) ?_
  refine G_iload_n dX4_tellsHearth_119 rfl ?_
  refine G_iaddN (a := 20) (c := h) (s := 20 + h) dX4_tellsHearth_120 (by omega) ?_
  refine G_ialdN (j := 20 + h) dX4_tellsHearth_121 ((hΩ.2 _).2.1) (by omega) ?_
  exact G_iret dX4_tellsHearth_122 ⟨Nat.zero_le _, Nat.zero_le _⟩ (rfl)
theorem m_tellsHearth_8 (hΩ : FV mp p1 fs Ω) {f : mj_S} {h : Nat} (hh : h < 5) : MC l yX4_tellsHearth wsX4_tellsHearth rmX4_tellsHearth false [.ref mp, .int (nI (h)), .int 8] (Ω f) (some (.int (s_ofH f h 8))) (Ω f) := by
  refine mj_MC (cc := cX4_tellsHearth) (nl := 3) (ret := (some .int)) (plainFor_of_name (by decide)) rfl (⟨_, rfl, rfl⟩) (Nat.le_of_ble_eq_true rfl) ?_
  show GG l cX4_tellsHearth MX4_tellsHearth false (.inl ((some (.int (s_ofH f h 8))), Ω f)) 0 [some (.ref mp), some (.int (nI (h))), some (.int 8)] [] (Ω f) 0 0
  refine G_iload_n dX4_tellsHearth_0 rfl ?_
  refine G_tabIn (off := 122) 123 dX4_tellsHearth_1 (by decide) (by decide) (by decide) (by decide) ?_
  refine G_aload_n dX4_tellsHearth_123 rfl ?_
  refine G_getf dX4_tellsHearth_124 fX4_tellsHearth_7 ((hΩ.2 _).1) (hΩ.1) ?_
  refine G_bipush (v := 25) dX4_tellsHearth_127 (by decide) ?_
  refine G_iload_n dX4_tellsHearth_129 rfl ?_
  refine G_iaddN (a := 25) (c := h) (s := 25 + h) dX4_tellsHearth_130 (by omega) ?_
  refine G_ialdN (j := 25 + h) dX4_tellsHearth_131 ((hΩ.2 _).2.1) (by omega) ?_
  exact G_iret dX4_tellsHearth_132 ⟨Nat.zero_le _, Nat.zero_le _⟩ (rfl)
theorem m_tellsHearth_9 (hΩ : FV mp p1 fs Ω) {f : mj_S} {h : Nat} (hh : h < 5) : MC l yX4_tellsHearth wsX4_tellsHearth rmX4_tellsHearth false [.ref mp, .int (nI (h)), .int 9] (Ω f) (some (.int (s_ofH f h 9))) (Ω f) := by
  refine mj_MC (cc := cX4_tellsHearth) (nl := 3) (ret := (some .int)) (plainFor_of_name (by decide)) rfl (⟨_, rfl, rfl⟩) (Nat.le_of_ble_eq_true rfl) ?_
  show GG l cX4_tellsHearth MX4_tellsHearth false (.inl ((some (.int (s_ofH f h 9))), Ω f)) 0 [some (.ref mp), some (.int (nI (h))), some (.int 9)] [] (Ω f) 0 0
  refine G_iload_n dX4_tellsHearth_0 rfl ?_
  refine G_tabIn (off := 132) 133 dX4_tellsHearth_1 (by decide) (by decide) (by decide) (by decide) ?_
  refine G_aload_n dX4_tellsHearth_133 rfl ?_
  refine G_getf dX4_tellsHearth_134 fX4_tellsHearth_7 ((hΩ.2 _).1) (hΩ.1) ?_
  refine G_bipush (v := 30) dX4_tellsHearth_137 (by decide) ?_
  refine G_iload_n dX4_tellsHearth_139 rfl ?_
  refine G_iaddN (a := 30) (c := h) (s := 30 + h) dX4_tellsHearth_140 (by omega) ?_
  refine G_ialdN (j := 30 + h) dX4_tellsHearth_141 ((hΩ.2 _).2.1) (by omega) ?_
  exact G_iret dX4_tellsHearth_142 ⟨Nat.zero_le _, Nat.zero_le _⟩ (rfl)
theorem m_tellsHearth_10 (hΩ : FV mp p1 fs Ω) {f : mj_S} {h : Nat} (hh : h < 5) : MC l yX4_tellsHearth wsX4_tellsHearth rmX4_tellsHearth false [.ref mp, .int (nI (h)), .int 10] (Ω f) (some (.int (s_ofH f h 10))) (Ω f) := by
  refine mj_MC (cc := cX4_tellsHearth) (nl := 3) (ret := (some .int)) (plainFor_of_name (by decide)) rfl (⟨_, rfl, rfl⟩) (Nat.le_of_ble_eq_true rfl) ?_
  show GG l cX4_tellsHearth MX4_tellsHearth false (.inl ((some (.int (s_ofH f h 10))), Ω f)) 0 [some (.ref mp), some (.int (nI (h))), some (.int 10)] [] (Ω f) 0 0
  refine G_iload_n dX4_tellsHearth_0 rfl ?_
  refine G_tabIn (off := 142) 143 dX4_tellsHearth_1 (by decide) (by decide) (by decide) (by decide) ?_
  refine G_aload_n dX4_tellsHearth_143 rfl ?_
  refine G_getf dX4_tellsHearth_144 fX4_tellsHearth_7 ((hΩ.2 _).1) (hΩ.1) ?_
  refine G_bipush (v := 35) dX4_tellsHearth_147 (by decide) ?_
  refine G_iload_n dX4_tellsHearth_149 rfl ?_
  refine G_iaddN (a := 35) (c := h) (s := 35 + h) dX4_tellsHearth_150 (by omega) ?_
  refine G_ialdN (j := 35 + h) dX4_tellsHearth_151 ((hΩ.2 _).2.1) (by omega) ?_
  exact G_iret dX4_tellsHearth_152 ⟨Nat.zero_le _, Nat.zero_le _⟩ (rfl)
theorem m_tellsHearth_11 (hΩ : FV mp p1 fs Ω) {f : mj_S} {h : Nat} (hh : h < 5) : MC l yX4_tellsHearth wsX4_tellsHearth rmX4_tellsHearth false [.ref mp, .int (nI (h)), .int 11] (Ω f) (some (.int (s_ofH f h 11))) (Ω f) := by
  refine mj_MC (cc := cX4_tellsHearth) (nl := 3) (ret := (some .int)) (plainFor_of_name (by decide)) rfl (⟨_, rfl, rfl⟩) (Nat.le_of_ble_eq_true rfl) ?_
  show GG l cX4_tellsHearth MX4_tellsHearth false (.inl ((some (.int (s_ofH f h 11))), Ω f)) 0 [some (.ref mp), some (.int (nI (h))), some (.int 11)] [] (Ω f) 0 0
  refine G_iload_n dX4_tellsHearth_0 rfl ?_
  refine G_tabOut 153 dX4_tellsHearth_1 (by decide) (by decide) ?_
  refine G_aload_n dX4_tellsHearth_153 rfl ?_
  refine G_getf dX4_tellsHearth_154 fX4_tellsHearth_7 ((hΩ.2 _).1) (hΩ.1) ?_
  refine G_bipush (v := 40) dX4_tellsHearth_157 (by decide) ?_
  refine G_iload_n dX4_tellsHearth_159 rfl ?_
  refine G_iaddN (a := 40) (c := h) (s := 40 + h) dX4_tellsHearth_160 (by omega) ?_
  refine G_ialdN (j := 40 + h) dX4_tellsHearth_161 ((hΩ.2 _).2.1) (by omega) ?_
  exact G_iret dX4_tellsHearth_162 ⟨Nat.zero_le _, Nat.zero_le _⟩ (rfl)
theorem m_tellsHearth (hΩ : FV mp p1 fs Ω) {f : mj_S} {h : Nat} (hh : h < 5) {w : Nat} (hw : w < 12) : MC l yX4_tellsHearth wsX4_tellsHearth rmX4_tellsHearth false [.ref mp, .int (nI (h)), .int (nI (w))] (Ω f) (some (.int (s_ofH f h w))) (Ω f) := by
  rcases (show w = 0 ∨ w = 1 ∨ w = 2 ∨ w = 3 ∨ w = 4 ∨ w = 5 ∨ w = 6 ∨ w = 7 ∨ w = 8 ∨ w = 9 ∨ w = 10 ∨ w = 11 by omega) with rfl | rfl | rfl | rfl | rfl | rfl | rfl | rfl | rfl | rfl | rfl | rfl
  · exact m_tellsHearth_0 hΩ hh
  · exact m_tellsHearth_1 hΩ hh
  · exact m_tellsHearth_2 hΩ hh
  · exact m_tellsHearth_3 hΩ hh
  · exact m_tellsHearth_4 hΩ hh
  · exact m_tellsHearth_5 hΩ hh
  · exact m_tellsHearth_6 hΩ hh
  · exact m_tellsHearth_7 hΩ hh
  · exact m_tellsHearth_8 hΩ hh
  · exact m_tellsHearth_9 hΩ hh
  · exact m_tellsHearth_10 hΩ hh
  · exact m_tellsHearth_11 hΩ hh
theorem m_tellsBank_0 (hΩ : FV mp p1 fs Ω) {f : mj_S} {b : Nat} (hb : b < 4) : MC l yX4_tellsBank wsX4_tellsBank rmX4_tellsBank false [.ref mp, .int (nI (b)), .int 0] (Ω f) (some (.int (s_ofB (s_com f) f b 0))) (Ω f) := by
  refine mj_MC (cc := cX4_tellsBank) (nl := 3) (ret := (some .int)) (plainFor_of_name (by decide)) rfl (⟨_, rfl, rfl⟩) (Nat.le_of_ble_eq_true rfl) ?_
  show GG l cX4_tellsBank MX4_tellsBank false (.inl ((some (.int (s_ofB (s_com f) f b 0))), Ω f)) 0 [some (.ref mp), some (.int (nI (b))), some (.int 0)] [] (Ω f) 0 0
  refine G_iload_n dX4_tellsBank_0 rfl ?_
  refine G_tabIn (off := 31) 32 dX4_tellsBank_1 (by decide) (by decide) (by decide) (by decide) ?_
  refine G_aload_n dX4_tellsBank_32 rfl ?_
  refine G_getf dX4_tellsBank_33 fX4_tellsBank_7 ((hΩ.2 _).1) (hΩ.1) ?_
  refine G_bipush (v := 45) dX4_tellsBank_36 (by decide) ?_
  refine G_iload_n dX4_tellsBank_38 rfl ?_
  refine G_iaddN (a := 45) (c := b) (s := 45 + b) dX4_tellsBank_39 (by omega) ?_
  refine G_ialdN (j := 45 + b) dX4_tellsBank_40 ((hΩ.2 _).2.1) (by omega) ?_
  exact G_iret dX4_tellsBank_41 ⟨Nat.zero_le _, Nat.zero_le _⟩ (rfl)
theorem m_tellsBank_1 (hΩ : FV mp p1 fs Ω) {f : mj_S} {b : Nat} (hb : b < 4) : MC l yX4_tellsBank wsX4_tellsBank rmX4_tellsBank false [.ref mp, .int (nI (b)), .int 1] (Ω f) (some (.int (s_ofB (s_com f) f b 1))) (Ω f) := by
  refine mj_MC (cc := cX4_tellsBank) (nl := 3) (ret := (some .int)) (plainFor_of_name (by decide)) rfl (⟨_, rfl, rfl⟩) (Nat.le_of_ble_eq_true rfl) ?_
  show GG l cX4_tellsBank MX4_tellsBank false (.inl ((some (.int (s_ofB (s_com f) f b 1))), Ω f)) 0 [some (.ref mp), some (.int (nI (b))), some (.int 1)] [] (Ω f) 0 0
  refine G_iload_n dX4_tellsBank_0 rfl ?_
  refine G_tabIn (off := 41) 42 dX4_tellsBank_1 (by decide) (by decide) (by decide) (by decide) ?_
  refine G_aload_n dX4_tellsBank_42 rfl ?_
  refine G_getf dX4_tellsBank_43 fX4_tellsBank_7 ((hΩ.2 _).1) (hΩ.1) ?_
  refine G_bipush (v := 49) dX4_tellsBank_46 (by decide) ?_
  refine G_iload_n dX4_tellsBank_48 rfl ?_
  refine G_iaddN (a := 49) (c := b) (s := 49 + b) dX4_tellsBank_49 (by omega) ?_
  refine G_ialdN (j := 49 + b) dX4_tellsBank_50 ((hΩ.2 _).2.1) (by omega) ?_
  exact G_iret dX4_tellsBank_51 ⟨Nat.zero_le _, Nat.zero_le _⟩ (rfl)
theorem m_tellsBank_2 (hΩ : FV mp p1 fs Ω) {f : mj_S} {b : Nat} (hb : b < 4) : MC l yX4_tellsBank wsX4_tellsBank rmX4_tellsBank false [.ref mp, .int (nI (b)), .int 2] (Ω f) (some (.int (s_ofB (s_com f) f b 2))) (Ω f) := by
  refine mj_MC (cc := cX4_tellsBank) (nl := 3) (ret := (some .int)) (plainFor_of_name (by decide)) rfl (⟨_, rfl, rfl⟩) (Nat.le_of_ble_eq_true rfl) ?_
  show GG l cX4_tellsBank MX4_tellsBank false (.inl ((some (.int (s_ofB (s_com f) f b 2))), Ω f)) 0 [some (.ref mp), some (.int (nI (b))), some (.int 2)] [] (Ω f) 0 0
  refine G_iload_n dX4_tellsBank_0 rfl ?_
  refine G_tabIn (off := 51) 52 dX4_tellsBank_1 (by decide) (by decide) (by decide) (by decide) ?_
  refine G_aload_n dX4_tellsBank_52 rfl ?_
  refine G_iload_n dX4_tellsBank_53 rfl ?_
  refine G_callVi dX4_tellsBank_54 kX4_tellsBank_X4_commons ⟨rfl, rfl⟩ ⟨Nat.zero_le _, Nat.zero_le _⟩ (m_commons hΩ (b := b) (by omega)) rfl rfl ((hΩ.2 _).1) rfl rfl ?_
  exact G_iret dX4_tellsBank_57 ⟨Nat.zero_le _, Nat.zero_le _⟩ (rfl)
theorem m_tellsBank_3 (hΩ : FV mp p1 fs Ω) {f : mj_S} {b : Nat} (hb : b < 4) : MC l yX4_tellsBank wsX4_tellsBank rmX4_tellsBank false [.ref mp, .int (nI (b)), .int 3] (Ω f) (some (.int (s_ofB (s_com f) f b 3))) (Ω f) := by
  refine mj_MC (cc := cX4_tellsBank) (nl := 3) (ret := (some .int)) (plainFor_of_name (by decide)) rfl (⟨_, rfl, rfl⟩) (Nat.le_of_ble_eq_true rfl) ?_
  show GG l cX4_tellsBank MX4_tellsBank false (.inl ((some (.int (s_ofB (s_com f) f b 3))), Ω f)) 0 [some (.ref mp), some (.int (nI (b))), some (.int 3)] [] (Ω f) 0 0
  refine G_iload_n dX4_tellsBank_0 rfl ?_
  refine G_tabIn (off := 57) 58 dX4_tellsBank_1 (by decide) (by decide) (by decide) (by decide) ?_
  refine G_aload_n dX4_tellsBank_58 rfl ?_
  refine G_iload_n dX4_tellsBank_59 rfl ?_
  refine G_callVi dX4_tellsBank_60 kX4_tellsBank_X4_workersOn ⟨rfl, rfl⟩ ⟨Nat.zero_le _, Nat.zero_le _⟩ (m_workersOn hΩ) rfl rfl ((hΩ.2 _).1) rfl rfl ?_
  exact G_iret dX4_tellsBank_63 ⟨Nat.zero_le _, Nat.zero_le _⟩ (rfl)
theorem m_tellsBank_4 (hΩ : FV mp p1 fs Ω) {f : mj_S} {b : Nat} (hb : b < 4) : MC l yX4_tellsBank wsX4_tellsBank rmX4_tellsBank false [.ref mp, .int (nI (b)), .int 4] (Ω f) (some (.int (s_ofB (s_com f) f b 4))) (Ω f) := by
  refine mj_MC (cc := cX4_tellsBank) (nl := 3) (ret := (some .int)) (plainFor_of_name (by decide)) rfl (⟨_, rfl, rfl⟩) (Nat.le_of_ble_eq_true rfl) ?_
  show GG l cX4_tellsBank MX4_tellsBank false (.inl ((some (.int (s_ofB (s_com f) f b 4))), Ω f)) 0 [some (.ref mp), some (.int (nI (b))), some (.int 4)] [] (Ω f) 0 0
  refine G_iload_n dX4_tellsBank_0 rfl ?_
  refine G_tabOut 64 dX4_tellsBank_1 (by decide) (by decide) ?_
  refine G_aload_n dX4_tellsBank_64 rfl ?_
  refine G_iload_n dX4_tellsBank_65 rfl ?_
  refine G_callVi dX4_tellsBank_66 kX4_tellsBank_X4_lieOn ⟨rfl, rfl⟩ ⟨Nat.zero_le _, Nat.zero_le _⟩ (m_lieOn hΩ (b := b) (by omega)) rfl rfl ((hΩ.2 _).1) rfl rfl ?_
  exact G_iret dX4_tellsBank_69 ⟨Nat.zero_le _, Nat.zero_le _⟩ (rfl)
theorem m_tellsBank (hΩ : FV mp p1 fs Ω) {f : mj_S} {b : Nat} (hb : b < 4) {w : Nat} (hw : w < 5) : MC l yX4_tellsBank wsX4_tellsBank rmX4_tellsBank false [.ref mp, .int (nI (b)), .int (nI (w))] (Ω f) (some (.int (s_ofB (s_com f) f b w))) (Ω f) := by
  rcases (show w = 0 ∨ w = 1 ∨ w = 2 ∨ w = 3 ∨ w = 4 by omega) with rfl | rfl | rfl | rfl | rfl
  · exact m_tellsBank_0 hΩ hb
  · exact m_tellsBank_1 hΩ hb
  · exact m_tellsBank_2 hΩ hb
  · exact m_tellsBank_3 hΩ hb
  · exact m_tellsBank_4 hΩ hb
theorem m_tellsPlot_0 (hΩ : FV mp p1 fs Ω) {f : mj_S} {h b : Nat} (hh : h < 5) (hb : b < 4) : MC l yX4_tellsPlot wsX4_tellsPlot rmX4_tellsPlot false [.ref mp, .int (nI (h)), .int (nI (b)), .int 0] (Ω f) (some (.int (s_ofP f h b 0))) (Ω f) := by
  refine mj_MC (cc := cX4_tellsPlot) (nl := 5) (ret := (some .int)) (plainFor_of_name (by decide)) rfl (⟨_, rfl, rfl⟩) (Nat.le_of_ble_eq_true rfl) ?_
  show GG l cX4_tellsPlot MX4_tellsPlot false (.inl ((some (.int (s_ofP f h b 0))), Ω f)) 0 [some (.ref mp), some (.int (nI (h))), some (.int (nI (b))), some (.int 0), none] [] (Ω f) 0 0
  refine G_iconst (v := 4) dX4_tellsPlot_0 (by decide) ?_
  refine G_iload_n dX4_tellsPlot_1 rfl ?_
  refine G_imulN (a := 4) (c := h) (s := 4 * h) dX4_tellsPlot_2 (by omega) ?_
  refine G_iload_n dX4_tellsPlot_3 rfl ?_
  refine G_iaddN (a := 4 * h) (c := b) (s := b + 4 * h) dX4_tellsPlot_4 (by omega) ?_
  refine G_istore dX4_tellsPlot_5 rfl (L' := [some (.ref mp), some (.int (nI (h))), some (.int (nI (b))), some (.int 0), some (.int (nI (b + 4 * h)))]) rfl ?_
  refine G_iload_n dX4_tellsPlot_7 rfl ?_
  refine G_tabIn (off := 32) 40 dX4_tellsPlot_8 (by decide) (by decide) (by decide) (by decide) ?_
  refine G_aload_n dX4_tellsPlot_40 rfl ?_
  refine G_getf dX4_tellsPlot_41 fX4_tellsPlot_7 ((hΩ.2 _).1) (hΩ.1) ?_
  refine G_bipush (v := 53) dX4_tellsPlot_44 (by decide) ?_
  refine G_iload dX4_tellsPlot_46 rfl ?_
  refine G_iaddN (a := 53) (c := b + 4 * h) (s := 53 + b + 4 * h) dX4_tellsPlot_48 (by omega) ?_
  refine G_ialdN (j := 53 + b + 4 * h) dX4_tellsPlot_49 ((hΩ.2 _).2.1) (by omega) ?_
  exact G_iret dX4_tellsPlot_50 ⟨Nat.zero_le _, Nat.zero_le _⟩ (rfl)
theorem m_tellsPlot_1 (hΩ : FV mp p1 fs Ω) {f : mj_S} {h b : Nat} (hh : h < 5) (hb : b < 4) : MC l yX4_tellsPlot wsX4_tellsPlot rmX4_tellsPlot false [.ref mp, .int (nI (h)), .int (nI (b)), .int 1] (Ω f) (some (.int (s_ofP f h b 1))) (Ω f) := by
  refine mj_MC (cc := cX4_tellsPlot) (nl := 5) (ret := (some .int)) (plainFor_of_name (by decide)) rfl (⟨_, rfl, rfl⟩) (Nat.le_of_ble_eq_true rfl) ?_
  show GG l cX4_tellsPlot MX4_tellsPlot false (.inl ((some (.int (s_ofP f h b 1))), Ω f)) 0 [some (.ref mp), some (.int (nI (h))), some (.int (nI (b))), some (.int 1), none] [] (Ω f) 0 0
  refine G_iconst (v := 4) dX4_tellsPlot_0 (by decide) ?_
  refine G_iload_n dX4_tellsPlot_1 rfl ?_
  refine G_imulN (a := 4) (c := h) (s := 4 * h) dX4_tellsPlot_2 (by omega) ?_
  refine G_iload_n dX4_tellsPlot_3 rfl ?_
  refine G_iaddN (a := 4 * h) (c := b) (s := b + 4 * h) dX4_tellsPlot_4 (by omega) ?_
  refine G_istore dX4_tellsPlot_5 rfl (L' := [some (.ref mp), some (.int (nI (h))), some (.int (nI (b))), some (.int 1), some (.int (nI (b + 4 * h)))]) rfl ?_
  refine G_iload_n dX4_tellsPlot_7 rfl ?_
  refine G_tabIn (off := 43) 51 dX4_tellsPlot_8 (by decide) (by decide) (by decide) (by decide) ?_
  refine G_aload_n dX4_tellsPlot_51 rfl ?_
  refine G_getf dX4_tellsPlot_52 fX4_tellsPlot_7 ((hΩ.2 _).1) (hΩ.1) ?_
  refine G_bipush (v := 73) dX4_tellsPlot_55 (by decide) ?_
  refine G_iload dX4_tellsPlot_57 rfl ?_
  refine G_iaddN (a := 73) (c := b + 4 * h) (s := 73 + b + 4 * h) dX4_tellsPlot_59 (by omega) ?_
  refine G_ialdN (j := 73 + b + 4 * h) dX4_tellsPlot_60 ((hΩ.2 _).2.1) (by omega) ?_
  exact G_iret dX4_tellsPlot_61 ⟨Nat.zero_le _, Nat.zero_le _⟩ (rfl)
theorem m_tellsPlot_2 (hΩ : FV mp p1 fs Ω) {f : mj_S} {h b : Nat} (hh : h < 5) (hb : b < 4) : MC l yX4_tellsPlot wsX4_tellsPlot rmX4_tellsPlot false [.ref mp, .int (nI (h)), .int (nI (b)), .int 2] (Ω f) (some (.int (s_ofP f h b 2))) (Ω f) := by
  refine mj_MC (cc := cX4_tellsPlot) (nl := 5) (ret := (some .int)) (plainFor_of_name (by decide)) rfl (⟨_, rfl, rfl⟩) (Nat.le_of_ble_eq_true rfl) ?_
  show GG l cX4_tellsPlot MX4_tellsPlot false (.inl ((some (.int (s_ofP f h b 2))), Ω f)) 0 [some (.ref mp), some (.int (nI (h))), some (.int (nI (b))), some (.int 2), none] [] (Ω f) 0 0
  refine G_iconst (v := 4) dX4_tellsPlot_0 (by decide) ?_
  refine G_iload_n dX4_tellsPlot_1 rfl ?_
  refine G_imulN (a := 4) (c := h) (s := 4 * h) dX4_tellsPlot_2 (by omega) ?_
  refine G_iload_n dX4_tellsPlot_3 rfl ?_
  refine G_iaddN (a := 4 * h) (c := b) (s := b + 4 * h) dX4_tellsPlot_4 (by omega) ?_
  refine G_istore dX4_tellsPlot_5 rfl (L' := [some (.ref mp), some (.int (nI (h))), some (.int (nI (b))), some (.int 2), some (.int (nI (b + 4 * h)))]) rfl ?_
  refine G_iload_n dX4_tellsPlot_7 rfl ?_
  refine G_tabIn (off := 54) 62 dX4_tellsPlot_8 (by decide) (by decide) (by decide) (by decide) ?_
  refine G_aload_n dX4_tellsPlot_62 rfl ?_
  refine G_getf dX4_tellsPlot_63 fX4_tellsPlot_7 ((hΩ.2 _).1) (hΩ.1) ?_
  refine G_bipush (v := 93) dX4_tellsPlot_66 (by decide) ?_
  refine G_iload dX4_tellsPlot_68 rfl ?_
  refine G_iaddN (a := 93) (c := b + 4 * h) (s := 93 + b + 4 * h) dX4_tellsPlot_70 (by omega) ?_
  refine G_ialdN (j := 93 + b + 4 * h) dX4_tellsPlot_71 ((hΩ.2 _).2.1) (by omega) ?_
  exact G_iret dX4_tellsPlot_72 ⟨Nat.zero_le _, Nat.zero_le _⟩ (rfl)
theorem m_tellsPlot_3 (hΩ : FV mp p1 fs Ω) {f : mj_S} {h b : Nat} (hh : h < 5) (hb : b < 4) : MC l yX4_tellsPlot wsX4_tellsPlot rmX4_tellsPlot false [.ref mp, .int (nI (h)), .int (nI (b)), .int 3] (Ω f) (some (.int (s_ofP f h b 3))) (Ω f) := by
  refine mj_MC (cc := cX4_tellsPlot) (nl := 5) (ret := (some .int)) (plainFor_of_name (by decide)) rfl (⟨_, rfl, rfl⟩) (Nat.le_of_ble_eq_true rfl) ?_
  show GG l cX4_tellsPlot MX4_tellsPlot false (.inl ((some (.int (s_ofP f h b 3))), Ω f)) 0 [some (.ref mp), some (.int (nI (h))), some (.int (nI (b))), some (.int 3), none] [] (Ω f) 0 0
  refine G_iconst (v := 4) dX4_tellsPlot_0 (by decide) ?_
  refine G_iload_n dX4_tellsPlot_1 rfl ?_
  refine G_imulN (a := 4) (c := h) (s := 4 * h) dX4_tellsPlot_2 (by omega) ?_
  refine G_iload_n dX4_tellsPlot_3 rfl ?_
  refine G_iaddN (a := 4 * h) (c := b) (s := b + 4 * h) dX4_tellsPlot_4 (by omega) ?_
  refine G_istore dX4_tellsPlot_5 rfl (L' := [some (.ref mp), some (.int (nI (h))), some (.int (nI (b))), some (.int 3), some (.int (nI (b + 4 * h)))]) rfl ?_
  refine G_iload_n dX4_tellsPlot_7 rfl ?_
  refine G_tabIn (off := 65) 73 dX4_tellsPlot_8 (by decide) (by decide) (by decide) (by decide) ?_
  refine G_aload_n dX4_tellsPlot_73 rfl ?_
  refine G_getf dX4_tellsPlot_74 fX4_tellsPlot_7 ((hΩ.2 _).1) (hΩ.1) ?_
  refine G_bipush (v := 113) dX4_tellsPlot_77 (by decide) ?_
  refine G_iload dX4_tellsPlot_79 rfl ?_
  refine G_iaddN (a := 113) (c := b + 4 * h) (s := 113 + b + 4 * h) dX4_tellsPlot_81 (by omega) ?_
  refine G_ialdN (j := 113 + b + 4 * h) dX4_tellsPlot_82 ((hΩ.2 _).2.1) (by omega) ?_
  exact G_iret dX4_tellsPlot_83 ⟨Nat.zero_le _, Nat.zero_le _⟩ (rfl)
theorem m_tellsPlot_4 (hΩ : FV mp p1 fs Ω) {f : mj_S} {h b : Nat} (hh : h < 5) (hb : b < 4) : MC l yX4_tellsPlot wsX4_tellsPlot rmX4_tellsPlot false [.ref mp, .int (nI (h)), .int (nI (b)), .int 4] (Ω f) (some (.int (s_ofP f h b 4))) (Ω f) := by
  refine mj_MC (cc := cX4_tellsPlot) (nl := 5) (ret := (some .int)) (plainFor_of_name (by decide)) rfl (⟨_, rfl, rfl⟩) (Nat.le_of_ble_eq_true rfl) ?_
  show GG l cX4_tellsPlot MX4_tellsPlot false (.inl ((some (.int (s_ofP f h b 4))), Ω f)) 0 [some (.ref mp), some (.int (nI (h))), some (.int (nI (b))), some (.int 4), none] [] (Ω f) 0 0
  refine G_iconst (v := 4) dX4_tellsPlot_0 (by decide) ?_
  refine G_iload_n dX4_tellsPlot_1 rfl ?_
  refine G_imulN (a := 4) (c := h) (s := 4 * h) dX4_tellsPlot_2 (by omega) ?_
  refine G_iload_n dX4_tellsPlot_3 rfl ?_
  refine G_iaddN (a := 4 * h) (c := b) (s := b + 4 * h) dX4_tellsPlot_4 (by omega) ?_
  refine G_istore dX4_tellsPlot_5 rfl (L' := [some (.ref mp), some (.int (nI (h))), some (.int (nI (b))), some (.int 4), some (.int (nI (b + 4 * h)))]) rfl ?_
  refine G_iload_n dX4_tellsPlot_7 rfl ?_
  refine G_tabOut 84 dX4_tellsPlot_8 (by decide) (by decide) ?_
  refine G_aload_n dX4_tellsPlot_84 rfl ?_
  refine G_iload_n dX4_tellsPlot_85 rfl ?_
  refine G_iload_n dX4_tellsPlot_86 rfl ?_
  refine G_callVi dX4_tellsPlot_87 kX4_tellsPlot_X4_workers ⟨rfl, rfl⟩ ⟨Nat.zero_le _, Nat.zero_le _⟩ (m_workers hΩ) rfl rfl ((hΩ.2 _).1) rfl rfl ?_
  exact G_iret dX4_tellsPlot_90 ⟨Nat.zero_le _, Nat.zero_le _⟩ (rfl)
theorem m_tellsPlot (hΩ : FV mp p1 fs Ω) {f : mj_S} {h b : Nat} (hh : h < 5) (hb : b < 4) {w : Nat} (hw : w < 5) : MC l yX4_tellsPlot wsX4_tellsPlot rmX4_tellsPlot false [.ref mp, .int (nI (h)), .int (nI (b)), .int (nI (w))] (Ω f) (some (.int (s_ofP f h b w))) (Ω f) := by
  rcases (show w = 0 ∨ w = 1 ∨ w = 2 ∨ w = 3 ∨ w = 4 by omega) with rfl | rfl | rfl | rfl | rfl
  · exact m_tellsPlot_0 hΩ hh hb
  · exact m_tellsPlot_1 hΩ hh hb
  · exact m_tellsPlot_2 hΩ hh hb
  · exact m_tellsPlot_3 hΩ hh hb
  · exact m_tellsPlot_4 hΩ hh hb
theorem m_tellsCutter (hΩ : FV mp p1 fs Ω) {f : mj_S} {c w : Nat} (hc : c < 6) (hw : w < 4) : MC l yX4_tellsCutter wsX4_tellsCutter rmX4_tellsCutter false [.ref mp, .int (nI (c)), .int (nI (w))] (Ω f) (some (.int (f (133 + 6 * w + c)))) (Ω f) := by
  refine mj_MC (cc := cX4_tellsCutter) (nl := 3) (ret := (some .int)) (plainFor_of_name (by decide)) rfl (⟨_, rfl, rfl⟩) (Nat.le_of_ble_eq_true rfl) ?_
  show GG l cX4_tellsCutter MX4_tellsCutter false (.inl ((some (.int (f (133 + 6 * w + c)))), Ω f)) 0 [some (.ref mp), some (.int (nI (c))), some (.int (nI (w)))] [] (Ω f) 0 0
  refine G_aload_n dX4_tellsCutter_0 rfl ?_
  refine G_getf dX4_tellsCutter_1 fX4_tellsCutter_7 ((hΩ.2 _).1) (hΩ.1) ?_
  refine G_sipush (v := 133) dX4_tellsCutter_4 (by decide) ?_
  refine G_bipush (v := 6) dX4_tellsCutter_7 (by decide) ?_
  refine G_iload_n dX4_tellsCutter_9 rfl ?_
  refine G_imulN (a := 6) (c := w) (s := 6 * w) dX4_tellsCutter_10 (by omega) ?_
  refine G_iaddN (a := 133) (c := 6 * w) (s := 133 + 6 * w) dX4_tellsCutter_11 (by omega) ?_
  refine G_iload_n dX4_tellsCutter_12 rfl ?_
  refine G_iaddN (a := 133 + 6 * w) (c := c) (s := 133 + c + 6 * w) dX4_tellsCutter_13 (by omega) ?_
  refine G_ialdN (j := 133 + c + 6 * w) dX4_tellsCutter_14 ((hΩ.2 _).2.1) (by omega) ?_
  exact G_iret dX4_tellsCutter_15 ⟨Nat.zero_le _, Nat.zero_le _⟩ (X_i (by congr 1; omega))
end RB

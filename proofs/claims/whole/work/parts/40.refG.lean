/-! REFERENCE: what a caller may call -/
theorem rng {a v b : Nat} (h1 : a ≤ v) (h2 : v ≤ b) (hb : b < 2147483648) : nI a ≤ nI v ∧ nI v ≤ nI b := ⟨(nI_leI (by omega) (by omega)).mpr h1, (nI_leI (by omega) (by omega)).mpr h2⟩
theorem rngm : ∀ v, v < 5 → (-1 : Int32) ≤ nI v ∧ nI v ≤ nI 4 := by decide +kernel
section RG
variable {l : Launch} {mp p1 p2 p3 p5 p7 : Nat} {Ω : MT}
theorem m_hearth_10 (hΩ : MV mp p1 p2 p3 p5 p7 Ω) {th hs sg fi se t3 : Int32} {f sp sv sn bf : mj_S} {m ln i : Nat} {hh : Int64} {x : Int32} (h1 : ¬ (0 ≤ x ∧ x ≤ 4)) {y : Int32} : MC l yX4_hearth wsX4_hearth rmX4_hearth false [.ref mp, .int x, .int 0, .int y] (Ω th f sp sv m sn hs bf ln i sg fi se t3 hh) (some (.int 0)) (Ω 1 f sp sv m sn hs bf ln i sg fi se t3 hh) := by
  refine mj_MC (cc := cX4_hearth) (nl := 5) (ret := (some .int)) (plainFor_of_name (by decide)) rfl (⟨_, rfl, rfl⟩) (Nat.le_of_ble_eq_true rfl) ?_
  show GG l cX4_hearth MX4_hearth false (.inl ((some (.int 0)), Ω 1 f sp sv m sn hs bf ln i sg fi se t3 hh)) 0 [some (.ref mp), some (.int x), some (.int 0), some (.int y), none] [] (Ω th f sp sv m sn hs bf ln i sg fi se t3 hh) 0 0
  refine G_aload_n dX4_hearth_0 rfl ?_
  refine G_iconst (v := 0) dX4_hearth_1 (by decide) ?_
  refine G_putf dX4_hearth_2 pX4_hearth_25 ((hΩ _ _ _ _ _ _ _ _ _ _ _ _ _ _ _).1) (fun _ => ⟨rfl, rfl⟩) (by simp [mfs]) ((hΩ _ _ _ _ _ _ _ _ _ _ _ _ _ _ _).2.2.2.2.2.2.1 _ _ _ _ _ _ _ _ _ _) ?_
  refine G_iload_n dX4_hearth_5 rfl ?_
  refine G_callSi dX4_hearth_6 kX4_hearth_X4_isHearth ⟨rfl, rfl⟩ ⟨Nat.zero_le _, Nat.zero_le _⟩ (c_isHearth0 h1) rfl rfl rfl ?_
  refine G_if_neN (a := 0) 18 dX4_hearth_9 (by decide) (by omega) (fun c9 => ?_) (fun c9 => ?_)
  · exact (show False by omega).elim
  · refine G_aload_n dX4_hearth_12 rfl ?_
    refine G_iconst (v := 1) dX4_hearth_13 (by decide) ?_
    refine G_callVi dX4_hearth_14 kX4_hearth_X4_fails ⟨rfl, rfl⟩ ⟨Nat.zero_le _, Nat.zero_le _⟩ (m_fails hΩ) rfl rfl ((hΩ _ _ _ _ _ _ _ _ _ _ _ _ _ _ _).1) rfl rfl ?_
    exact G_iret dX4_hearth_17 ⟨Nat.zero_le _, Nat.zero_le _⟩ (rfl)
theorem m_hearth_20 (hΩ : MV mp p1 p2 p3 p5 p7 Ω) {th hs sg fi se t3 : Int32} {f sp sv sn bf : mj_S} {m ln i : Nat} {hh : Int64} {h : Nat} (hh5 : h < 5) {y : Int32} (h2 : ¬ (50 ≤ y ∧ y ≤ 900)) : MC l yX4_hearth wsX4_hearth rmX4_hearth false [.ref mp, .int (nI (h)), .int 0, .int y] (Ω th f sp sv m sn hs bf ln i sg fi se t3 hh) (some (.int 0)) (Ω 2 f sp sv m sn hs bf ln i sg fi se t3 hh) := by
  refine mj_MC (cc := cX4_hearth) (nl := 5) (ret := (some .int)) (plainFor_of_name (by decide)) rfl (⟨_, rfl, rfl⟩) (Nat.le_of_ble_eq_true rfl) ?_
  show GG l cX4_hearth MX4_hearth false (.inl ((some (.int 0)), Ω 2 f sp sv m sn hs bf ln i sg fi se t3 hh)) 0 [some (.ref mp), some (.int (nI (h))), some (.int 0), some (.int y), none] [] (Ω th f sp sv m sn hs bf ln i sg fi se t3 hh) 0 0
  refine G_aload_n dX4_hearth_0 rfl ?_
  refine G_iconst (v := 0) dX4_hearth_1 (by decide) ?_
  refine G_putf dX4_hearth_2 pX4_hearth_25 ((hΩ _ _ _ _ _ _ _ _ _ _ _ _ _ _ _).1) (fun _ => ⟨rfl, rfl⟩) (by simp [mfs]) ((hΩ _ _ _ _ _ _ _ _ _ _ _ _ _ _ _).2.2.2.2.2.2.1 _ _ _ _ _ _ _ _ _ _) ?_
  refine G_iload_n dX4_hearth_5 rfl ?_
  refine G_callSi dX4_hearth_6 kX4_hearth_X4_isHearth ⟨rfl, rfl⟩ ⟨Nat.zero_le _, Nat.zero_le _⟩ (c_isHearth1 (rng (a := 0) (b := 4) (by omega) (by omega) (by omega))) rfl rfl rfl ?_
  refine G_if_neN (a := 1) 18 dX4_hearth_9 (by decide) (by omega) (fun c9 => ?_) (fun c9 => ?_)
  · refine G_iload_n dX4_hearth_18 rfl ?_
    refine G_bipush (v := 50) dX4_hearth_19 (by decide) ?_
    refine G_sipush (v := 900) dX4_hearth_21 (by decide) ?_
    refine G_callSi dX4_hearth_24 kX4_hearth_X4_within ⟨rfl, rfl⟩ ⟨Nat.zero_le _, Nat.zero_le _⟩ (c_within0 h2) rfl rfl rfl ?_
    refine G_if_neN (a := 0) 36 dX4_hearth_27 (by decide) (by omega) (fun c27 => ?_) (fun c27 => ?_)
    · exact (show False by omega).elim
    · refine G_aload_n dX4_hearth_30 rfl ?_
      refine G_iconst (v := 2) dX4_hearth_31 (by decide) ?_
      refine G_callVi dX4_hearth_32 kX4_hearth_X4_fails ⟨rfl, rfl⟩ ⟨Nat.zero_le _, Nat.zero_le _⟩ (m_fails hΩ) rfl rfl ((hΩ _ _ _ _ _ _ _ _ _ _ _ _ _ _ _).1) rfl rfl ?_
      exact G_iret dX4_hearth_35 ⟨Nat.zero_le _, Nat.zero_le _⟩ (rfl)
  · exact (show False by omega).elim
theorem m_hearth0 (hΩ : MV mp p1 p2 p3 p5 p7 Ω) {th hs sg fi se t3 : Int32} {f sp sv sn bf : mj_S} {m ln i : Nat} {hh : Int64} (hm : m ≤ 6) {h : Nat} (hh5 : h < 5) {v : Nat} (hv : 50 ≤ v ∧ v ≤ 900) : MC l yX4_hearth wsX4_hearth rmX4_hearth false [.ref mp, .int (nI (h)), .int 0, .int (nI (v))] (Ω th f sp sv m sn hs bf ln i sg fi se t3 hh) (some (.int (f (10 + h)))) (Ω 0 (upd (upd f (10 + h) (nI v)) (5 + h) 0) sp (s_save f sv m) (s_svm m) sn hs bf ln i sg fi se t3 hh) := by
  refine mj_MC (cc := cX4_hearth) (nl := 5) (ret := (some .int)) (plainFor_of_name (by decide)) rfl (⟨_, rfl, rfl⟩) (Nat.le_of_ble_eq_true rfl) ?_
  show GG l cX4_hearth MX4_hearth false (.inl ((some (.int (f (10 + h)))), Ω 0 (upd (upd f (10 + h) (nI v)) (5 + h) 0) sp (s_save f sv m) (s_svm m) sn hs bf ln i sg fi se t3 hh)) 0 [some (.ref mp), some (.int (nI (h))), some (.int 0), some (.int (nI (v))), none] [] (Ω th f sp sv m sn hs bf ln i sg fi se t3 hh) 0 0
  refine G_aload_n dX4_hearth_0 rfl ?_
  refine G_iconst (v := 0) dX4_hearth_1 (by decide) ?_
  refine G_putf dX4_hearth_2 pX4_hearth_25 ((hΩ _ _ _ _ _ _ _ _ _ _ _ _ _ _ _).1) (fun _ => ⟨rfl, rfl⟩) (by simp [mfs]) ((hΩ _ _ _ _ _ _ _ _ _ _ _ _ _ _ _).2.2.2.2.2.2.1 _ _ _ _ _ _ _ _ _ _) ?_
  refine G_iload_n dX4_hearth_5 rfl ?_
  refine G_callSi dX4_hearth_6 kX4_hearth_X4_isHearth ⟨rfl, rfl⟩ ⟨Nat.zero_le _, Nat.zero_le _⟩ (c_isHearth1 (rng (a := 0) (b := 4) (by omega) (by omega) (by omega))) rfl rfl rfl ?_
  refine G_if_neN (a := 1) 18 dX4_hearth_9 (by decide) (by omega) (fun c9 => ?_) (fun c9 => ?_)
  · refine G_iload_n dX4_hearth_18 rfl ?_
    refine G_bipush (v := 50) dX4_hearth_19 (by decide) ?_
    refine G_sipush (v := 900) dX4_hearth_21 (by decide) ?_
    refine G_callSi dX4_hearth_24 kX4_hearth_X4_within ⟨rfl, rfl⟩ ⟨Nat.zero_le _, Nat.zero_le _⟩ (c_within1 (rng (a := 50) (b := 900) (by omega) (by omega) (by omega))) rfl rfl rfl ?_
    refine G_if_neN (a := 1) 36 dX4_hearth_27 (by decide) (by omega) (fun c27 => ?_) (fun c27 => ?_)
    · refine G_aload_n dX4_hearth_36 rfl ?_
      refine G_callVv dX4_hearth_37 kX4_hearth_X4_save ⟨rfl, rfl⟩ ⟨Nat.zero_le _, Nat.zero_le _⟩ (m_save hΩ (by omega)) rfl rfl ((hΩ _ _ _ _ _ _ _ _ _ _ _ _ _ _ _).1) rfl rfl ?_
      refine G_aload_n dX4_hearth_40 rfl ?_
      refine G_getf dX4_hearth_41 fX4_hearth_7 ((hΩ _ _ _ _ _ _ _ _ _ _ _ _ _ _ _).1) (rfl) ?_
      refine G_bipush (v := 10) dX4_hearth_44 (by decide) ?_
      refine G_iload_n dX4_hearth_46 rfl ?_
      refine G_iaddN (a := 10) (c := h) (s := 10 + h) dX4_hearth_47 (by omega) ?_
      refine G_ialdN (j := 10 + h) dX4_hearth_48 ((hΩ _ _ _ _ _ _ _ _ _ _ _ _ _ _ _).2.1) (by omega) ?_
      refine G_istore dX4_hearth_49 rfl (L' := [some (.ref mp), some (.int (nI (h))), some (.int 0), some (.int (nI (v))), some (.int (f (10 + h)))]) rfl ?_
      refine G_aload_n dX4_hearth_51 rfl ?_
      refine G_getf dX4_hearth_52 fX4_hearth_7 ((hΩ _ _ _ _ _ _ _ _ _ _ _ _ _ _ _).1) (rfl) ?_
      refine G_bipush (v := 10) dX4_hearth_55 (by decide) ?_
      refine G_iload_n dX4_hearth_57 rfl ?_
      refine G_iaddN (a := 10) (c := h) (s := 10 + h) dX4_hearth_58 (by omega) ?_
      refine G_iload_n dX4_hearth_59 rfl ?_
      obtain ⟨f1, ef1⟩ : ∃ z : mj_S, z = upd f (10 + h) (nI (v)) := ⟨_, rfl⟩
      refine G_iastN (j := 10 + h) dX4_hearth_60 ((hΩ _ _ _ _ _ _ _ _ _ _ _ _ _ _ _).2.1) (by omega) (((hΩ _ _ _ _ _ _ _ _ _ _ _ _ _ _ _).2.2.2.2.2.2.2.1 _).trans (congrArg (fun z => Ω 0 z sp (s_save f sv m) (s_svm m) sn hs bf ln i sg fi se t3 hh) ef1.symm)) ?_
      refine G_aload_n dX4_hearth_61 rfl ?_
      refine G_getf dX4_hearth_62 fX4_hearth_7 ((hΩ _ _ _ _ _ _ _ _ _ _ _ _ _ _ _).1) (rfl) ?_
      refine G_iconst (v := 5) dX4_hearth_65 (by decide) ?_
      refine G_iload_n dX4_hearth_66 rfl ?_
      refine G_iaddN (a := 5) (c := h) (s := 5 + h) dX4_hearth_67 (by omega) ?_
      refine G_iload_n dX4_hearth_68 rfl ?_
      refine G_if_eqN (a := 0) 76 dX4_hearth_69 (by decide) (by omega) (fun c69 => ?_) (fun c69 => ?_)
      · refine G_iconst (v := 0) dX4_hearth_76 (by decide) ?_
        obtain ⟨f2, ef2⟩ : ∃ z : mj_S, z = upd f1 (5 + h) 0 := ⟨_, rfl⟩
        refine G_iastN (j := 5 + h) dX4_hearth_77 ((hΩ _ _ _ _ _ _ _ _ _ _ _ _ _ _ _).2.1) (by omega) (((hΩ _ _ _ _ _ _ _ _ _ _ _ _ _ _ _).2.2.2.2.2.2.2.1 _).trans (congrArg (fun z => Ω 0 z sp (s_save f sv m) (s_svm m) sn hs bf ln i sg fi se t3 hh) ef2.symm)) ?_
        refine G_iload dX4_hearth_78 rfl ?_
        exact G_iret dX4_hearth_80 ⟨Nat.zero_le _, Nat.zero_le _⟩ (by subst ef2; subst ef1; rfl)
      · exact (show False by omega).elim
    · exact (show False by omega).elim
  · exact (show False by omega).elim
theorem m_hearth_11 (hΩ : MV mp p1 p2 p3 p5 p7 Ω) {th hs sg fi se t3 : Int32} {f sp sv sn bf : mj_S} {m ln i : Nat} {hh : Int64} {x : Int32} (h1 : ¬ (0 ≤ x ∧ x ≤ 4)) {y : Int32} : MC l yX4_hearth wsX4_hearth rmX4_hearth false [.ref mp, .int x, .int 1, .int y] (Ω th f sp sv m sn hs bf ln i sg fi se t3 hh) (some (.int 0)) (Ω 1 f sp sv m sn hs bf ln i sg fi se t3 hh) := by
  refine mj_MC (cc := cX4_hearth) (nl := 5) (ret := (some .int)) (plainFor_of_name (by decide)) rfl (⟨_, rfl, rfl⟩) (Nat.le_of_ble_eq_true rfl) ?_
  show GG l cX4_hearth MX4_hearth false (.inl ((some (.int 0)), Ω 1 f sp sv m sn hs bf ln i sg fi se t3 hh)) 0 [some (.ref mp), some (.int x), some (.int 1), some (.int y), none] [] (Ω th f sp sv m sn hs bf ln i sg fi se t3 hh) 0 0
  refine G_aload_n dX4_hearth_0 rfl ?_
  refine G_iconst (v := 0) dX4_hearth_1 (by decide) ?_
  refine G_putf dX4_hearth_2 pX4_hearth_25 ((hΩ _ _ _ _ _ _ _ _ _ _ _ _ _ _ _).1) (fun _ => ⟨rfl, rfl⟩) (by simp [mfs]) ((hΩ _ _ _ _ _ _ _ _ _ _ _ _ _ _ _).2.2.2.2.2.2.1 _ _ _ _ _ _ _ _ _ _) ?_
  refine G_iload_n dX4_hearth_5 rfl ?_
  refine G_callSi dX4_hearth_6 kX4_hearth_X4_isHearth ⟨rfl, rfl⟩ ⟨Nat.zero_le _, Nat.zero_le _⟩ (c_isHearth0 h1) rfl rfl rfl ?_
  refine G_if_neN (a := 0) 18 dX4_hearth_9 (by decide) (by omega) (fun c9 => ?_) (fun c9 => ?_)
  · exact (show False by omega).elim
  · refine G_aload_n dX4_hearth_12 rfl ?_
    refine G_iconst (v := 1) dX4_hearth_13 (by decide) ?_
    refine G_callVi dX4_hearth_14 kX4_hearth_X4_fails ⟨rfl, rfl⟩ ⟨Nat.zero_le _, Nat.zero_le _⟩ (m_fails hΩ) rfl rfl ((hΩ _ _ _ _ _ _ _ _ _ _ _ _ _ _ _).1) rfl rfl ?_
    exact G_iret dX4_hearth_17 ⟨Nat.zero_le _, Nat.zero_le _⟩ (rfl)
theorem m_hearth_21 (hΩ : MV mp p1 p2 p3 p5 p7 Ω) {th hs sg fi se t3 : Int32} {f sp sv sn bf : mj_S} {m ln i : Nat} {hh : Int64} {h : Nat} (hh5 : h < 5) {y : Int32} (h2 : ¬ (50 ≤ y ∧ y ≤ 900)) : MC l yX4_hearth wsX4_hearth rmX4_hearth false [.ref mp, .int (nI (h)), .int 1, .int y] (Ω th f sp sv m sn hs bf ln i sg fi se t3 hh) (some (.int 0)) (Ω 2 f sp sv m sn hs bf ln i sg fi se t3 hh) := by
  refine mj_MC (cc := cX4_hearth) (nl := 5) (ret := (some .int)) (plainFor_of_name (by decide)) rfl (⟨_, rfl, rfl⟩) (Nat.le_of_ble_eq_true rfl) ?_
  show GG l cX4_hearth MX4_hearth false (.inl ((some (.int 0)), Ω 2 f sp sv m sn hs bf ln i sg fi se t3 hh)) 0 [some (.ref mp), some (.int (nI (h))), some (.int 1), some (.int y), none] [] (Ω th f sp sv m sn hs bf ln i sg fi se t3 hh) 0 0
  refine G_aload_n dX4_hearth_0 rfl ?_
  refine G_iconst (v := 0) dX4_hearth_1 (by decide) ?_
  refine G_putf dX4_hearth_2 pX4_hearth_25 ((hΩ _ _ _ _ _ _ _ _ _ _ _ _ _ _ _).1) (fun _ => ⟨rfl, rfl⟩) (by simp [mfs]) ((hΩ _ _ _ _ _ _ _ _ _ _ _ _ _ _ _).2.2.2.2.2.2.1 _ _ _ _ _ _ _ _ _ _) ?_
  refine G_iload_n dX4_hearth_5 rfl ?_
  refine G_callSi dX4_hearth_6 kX4_hearth_X4_isHearth ⟨rfl, rfl⟩ ⟨Nat.zero_le _, Nat.zero_le _⟩ (c_isHearth1 (rng (a := 0) (b := 4) (by omega) (by omega) (by omega))) rfl rfl rfl ?_
  refine G_if_neN (a := 1) 18 dX4_hearth_9 (by decide) (by omega) (fun c9 => ?_) (fun c9 => ?_)
  · refine G_iload_n dX4_hearth_18 rfl ?_
    refine G_bipush (v := 50) dX4_hearth_19 (by decide) ?_
    refine G_sipush (v := 900) dX4_hearth_21 (by decide) ?_
    refine G_callSi dX4_hearth_24 kX4_hearth_X4_within ⟨rfl, rfl⟩ ⟨Nat.zero_le _, Nat.zero_le _⟩ (c_within0 h2) rfl rfl rfl ?_
    refine G_if_neN (a := 0) 36 dX4_hearth_27 (by decide) (by omega) (fun c27 => ?_) (fun c27 => ?_)
    · exact (show False by omega).elim
    · refine G_aload_n dX4_hearth_30 rfl ?_
      refine G_iconst (v := 2) dX4_hearth_31 (by decide) ?_
      refine G_callVi dX4_hearth_32 kX4_hearth_X4_fails ⟨rfl, rfl⟩ ⟨Nat.zero_le _, Nat.zero_le _⟩ (m_fails hΩ) rfl rfl ((hΩ _ _ _ _ _ _ _ _ _ _ _ _ _ _ _).1) rfl rfl ?_
      exact G_iret dX4_hearth_35 ⟨Nat.zero_le _, Nat.zero_le _⟩ (rfl)
  · exact (show False by omega).elim
theorem m_hearth1 (hΩ : MV mp p1 p2 p3 p5 p7 Ω) {th hs sg fi se t3 : Int32} {f sp sv sn bf : mj_S} {m ln i : Nat} {hh : Int64} (hm : m ≤ 6) {h : Nat} (hh5 : h < 5) {v : Nat} (hv : 50 ≤ v ∧ v ≤ 900) : MC l yX4_hearth wsX4_hearth rmX4_hearth false [.ref mp, .int (nI (h)), .int 1, .int (nI (v))] (Ω th f sp sv m sn hs bf ln i sg fi se t3 hh) (some (.int (f (10 + h)))) (Ω 0 (upd (upd f (10 + h) (nI v)) (5 + h) 1) sp (s_save f sv m) (s_svm m) sn hs bf ln i sg fi se t3 hh) := by
  refine mj_MC (cc := cX4_hearth) (nl := 5) (ret := (some .int)) (plainFor_of_name (by decide)) rfl (⟨_, rfl, rfl⟩) (Nat.le_of_ble_eq_true rfl) ?_
  show GG l cX4_hearth MX4_hearth false (.inl ((some (.int (f (10 + h)))), Ω 0 (upd (upd f (10 + h) (nI v)) (5 + h) 1) sp (s_save f sv m) (s_svm m) sn hs bf ln i sg fi se t3 hh)) 0 [some (.ref mp), some (.int (nI (h))), some (.int 1), some (.int (nI (v))), none] [] (Ω th f sp sv m sn hs bf ln i sg fi se t3 hh) 0 0
  refine G_aload_n dX4_hearth_0 rfl ?_
  refine G_iconst (v := 0) dX4_hearth_1 (by decide) ?_
  refine G_putf dX4_hearth_2 pX4_hearth_25 ((hΩ _ _ _ _ _ _ _ _ _ _ _ _ _ _ _).1) (fun _ => ⟨rfl, rfl⟩) (by simp [mfs]) ((hΩ _ _ _ _ _ _ _ _ _ _ _ _ _ _ _).2.2.2.2.2.2.1 _ _ _ _ _ _ _ _ _ _) ?_
  refine G_iload_n dX4_hearth_5 rfl ?_
  refine G_callSi dX4_hearth_6 kX4_hearth_X4_isHearth ⟨rfl, rfl⟩ ⟨Nat.zero_le _, Nat.zero_le _⟩ (c_isHearth1 (rng (a := 0) (b := 4) (by omega) (by omega) (by omega))) rfl rfl rfl ?_
  refine G_if_neN (a := 1) 18 dX4_hearth_9 (by decide) (by omega) (fun c9 => ?_) (fun c9 => ?_)
  · refine G_iload_n dX4_hearth_18 rfl ?_
    refine G_bipush (v := 50) dX4_hearth_19 (by decide) ?_
    refine G_sipush (v := 900) dX4_hearth_21 (by decide) ?_
    refine G_callSi dX4_hearth_24 kX4_hearth_X4_within ⟨rfl, rfl⟩ ⟨Nat.zero_le _, Nat.zero_le _⟩ (c_within1 (rng (a := 50) (b := 900) (by omega) (by omega) (by omega))) rfl rfl rfl ?_
    refine G_if_neN (a := 1) 36 dX4_hearth_27 (by decide) (by omega) (fun c27 => ?_) (fun c27 => ?_)
    · refine G_aload_n dX4_hearth_36 rfl ?_
      refine G_callVv dX4_hearth_37 kX4_hearth_X4_save ⟨rfl, rfl⟩ ⟨Nat.zero_le _, Nat.zero_le _⟩ (m_save hΩ (by omega)) rfl rfl ((hΩ _ _ _ _ _ _ _ _ _ _ _ _ _ _ _).1) rfl rfl ?_
      refine G_aload_n dX4_hearth_40 rfl ?_
      refine G_getf dX4_hearth_41 fX4_hearth_7 ((hΩ _ _ _ _ _ _ _ _ _ _ _ _ _ _ _).1) (rfl) ?_
      refine G_bipush (v := 10) dX4_hearth_44 (by decide) ?_
      refine G_iload_n dX4_hearth_46 rfl ?_
      refine G_iaddN (a := 10) (c := h) (s := 10 + h) dX4_hearth_47 (by omega) ?_
      refine G_ialdN (j := 10 + h) dX4_hearth_48 ((hΩ _ _ _ _ _ _ _ _ _ _ _ _ _ _ _).2.1) (by omega) ?_
      refine G_istore dX4_hearth_49 rfl (L' := [some (.ref mp), some (.int (nI (h))), some (.int 1), some (.int (nI (v))), some (.int (f (10 + h)))]) rfl ?_
      refine G_aload_n dX4_hearth_51 rfl ?_
      refine G_getf dX4_hearth_52 fX4_hearth_7 ((hΩ _ _ _ _ _ _ _ _ _ _ _ _ _ _ _).1) (rfl) ?_
      refine G_bipush (v := 10) dX4_hearth_55 (by decide) ?_
      refine G_iload_n dX4_hearth_57 rfl ?_
      refine G_iaddN (a := 10) (c := h) (s := 10 + h) dX4_hearth_58 (by omega) ?_
      refine G_iload_n dX4_hearth_59 rfl ?_
      obtain ⟨f1, ef1⟩ : ∃ z : mj_S, z = upd f (10 + h) (nI (v)) := ⟨_, rfl⟩
      refine G_iastN (j := 10 + h) dX4_hearth_60 ((hΩ _ _ _ _ _ _ _ _ _ _ _ _ _ _ _).2.1) (by omega) (((hΩ _ _ _ _ _ _ _ _ _ _ _ _ _ _ _).2.2.2.2.2.2.2.1 _).trans (congrArg (fun z => Ω 0 z sp (s_save f sv m) (s_svm m) sn hs bf ln i sg fi se t3 hh) ef1.symm)) ?_
      refine G_aload_n dX4_hearth_61 rfl ?_
      refine G_getf dX4_hearth_62 fX4_hearth_7 ((hΩ _ _ _ _ _ _ _ _ _ _ _ _ _ _ _).1) (rfl) ?_
      refine G_iconst (v := 5) dX4_hearth_65 (by decide) ?_
      refine G_iload_n dX4_hearth_66 rfl ?_
      refine G_iaddN (a := 5) (c := h) (s := 5 + h) dX4_hearth_67 (by omega) ?_
      refine G_iload_n dX4_hearth_68 rfl ?_
      refine G_if_eqN (a := 1) 76 dX4_hearth_69 (by decide) (by omega) (fun c69 => ?_) (fun c69 => ?_)
      · exact (show False by omega).elim
      · refine G_iconst (v := 1) dX4_hearth_72 (by decide) ?_
        refine G_goto 77 dX4_hearth_73 (by decide) ?_
        obtain ⟨f2, ef2⟩ : ∃ z : mj_S, z = upd f1 (5 + h) 1 := ⟨_, rfl⟩
        refine G_iastN (j := 5 + h) dX4_hearth_77 ((hΩ _ _ _ _ _ _ _ _ _ _ _ _ _ _ _).2.1) (by omega) (((hΩ _ _ _ _ _ _ _ _ _ _ _ _ _ _ _).2.2.2.2.2.2.2.1 _).trans (congrArg (fun z => Ω 0 z sp (s_save f sv m) (s_svm m) sn hs bf ln i sg fi se t3 hh) ef2.symm)) ?_
        refine G_iload dX4_hearth_78 rfl ?_
        exact G_iret dX4_hearth_80 ⟨Nat.zero_le _, Nat.zero_le _⟩ (by subst ef2; subst ef1; rfl)
    · exact (show False by omega).elim
  · exact (show False by omega).elim
theorem m_track_1 (hΩ : MV mp p1 p2 p3 p5 p7 Ω) {th hs sg fi se t3 : Int32} {f sp sv sn bf : mj_S} {m ln i : Nat} {hh : Int64} {x : Int32} (h1 : ¬ (0 ≤ x ∧ x ≤ 3)) {y : Int32} : MC l yX4_track wsX4_track rmX4_track false [.ref mp, .int x, .int y] (Ω th f sp sv m sn hs bf ln i sg fi se t3 hh) (some (.int 0)) (Ω 1 f sp sv m sn hs bf ln i sg fi se t3 hh) := by
  refine mj_MC (cc := cX4_track) (nl := 4) (ret := (some .int)) (plainFor_of_name (by decide)) rfl (⟨_, rfl, rfl⟩) (Nat.le_of_ble_eq_true rfl) ?_
  show GG l cX4_track MX4_track false (.inl ((some (.int 0)), Ω 1 f sp sv m sn hs bf ln i sg fi se t3 hh)) 0 [some (.ref mp), some (.int x), some (.int y), none] [] (Ω th f sp sv m sn hs bf ln i sg fi se t3 hh) 0 0
  refine G_aload_n dX4_track_0 rfl ?_
  refine G_iconst (v := 0) dX4_track_1 (by decide) ?_
  refine G_putf dX4_track_2 pX4_track_25 ((hΩ _ _ _ _ _ _ _ _ _ _ _ _ _ _ _).1) (fun _ => ⟨rfl, rfl⟩) (by simp [mfs]) ((hΩ _ _ _ _ _ _ _ _ _ _ _ _ _ _ _).2.2.2.2.2.2.1 _ _ _ _ _ _ _ _ _ _) ?_
  refine G_iload_n dX4_track_5 rfl ?_
  refine G_callSi dX4_track_6 kX4_track_X4_isBank ⟨rfl, rfl⟩ ⟨Nat.zero_le _, Nat.zero_le _⟩ (c_isBank0 h1) rfl rfl rfl ?_
  refine G_if_neN (a := 0) 18 dX4_track_9 (by decide) (by omega) (fun c9 => ?_) (fun c9 => ?_)
  · exact (show False by omega).elim
  · refine G_aload_n dX4_track_12 rfl ?_
    refine G_iconst (v := 1) dX4_track_13 (by decide) ?_
    refine G_callVi dX4_track_14 kX4_track_X4_fails ⟨rfl, rfl⟩ ⟨Nat.zero_le _, Nat.zero_le _⟩ (m_fails hΩ) rfl rfl ((hΩ _ _ _ _ _ _ _ _ _ _ _ _ _ _ _).1) rfl rfl ?_
    exact G_iret dX4_track_17 ⟨Nat.zero_le _, Nat.zero_le _⟩ (rfl)
theorem m_track_2 (hΩ : MV mp p1 p2 p3 p5 p7 Ω) {th hs sg fi se t3 : Int32} {f sp sv sn bf : mj_S} {m ln i : Nat} {hh : Int64} {b : Nat} (hb : b < 4) {y : Int32} (h2 : ¬ (10 ≤ y ∧ y ≤ 90)) : MC l yX4_track wsX4_track rmX4_track false [.ref mp, .int (nI (b)), .int y] (Ω th f sp sv m sn hs bf ln i sg fi se t3 hh) (some (.int 0)) (Ω 2 f sp sv m sn hs bf ln i sg fi se t3 hh) := by
  refine mj_MC (cc := cX4_track) (nl := 4) (ret := (some .int)) (plainFor_of_name (by decide)) rfl (⟨_, rfl, rfl⟩) (Nat.le_of_ble_eq_true rfl) ?_
  show GG l cX4_track MX4_track false (.inl ((some (.int 0)), Ω 2 f sp sv m sn hs bf ln i sg fi se t3 hh)) 0 [some (.ref mp), some (.int (nI (b))), some (.int y), none] [] (Ω th f sp sv m sn hs bf ln i sg fi se t3 hh) 0 0
  refine G_aload_n dX4_track_0 rfl ?_
  refine G_iconst (v := 0) dX4_track_1 (by decide) ?_
  refine G_putf dX4_track_2 pX4_track_25 ((hΩ _ _ _ _ _ _ _ _ _ _ _ _ _ _ _).1) (fun _ => ⟨rfl, rfl⟩) (by simp [mfs]) ((hΩ _ _ _ _ _ _ _ _ _ _ _ _ _ _ _).2.2.2.2.2.2.1 _ _ _ _ _ _ _ _ _ _) ?_
  refine G_iload_n dX4_track_5 rfl ?_
  refine G_callSi dX4_track_6 kX4_track_X4_isBank ⟨rfl, rfl⟩ ⟨Nat.zero_le _, Nat.zero_le _⟩ (c_isBank1 (rng (a := 0) (b := 3) (by omega) (by omega) (by omega))) rfl rfl rfl ?_
  refine G_if_neN (a := 1) 18 dX4_track_9 (by decide) (by omega) (fun c9 => ?_) (fun c9 => ?_)
  · refine G_iload_n dX4_track_18 rfl ?_
    refine G_bipush (v := 10) dX4_track_19 (by decide) ?_
    refine G_bipush (v := 90) dX4_track_21 (by decide) ?_
    refine G_callSi dX4_track_23 kX4_track_X4_within ⟨rfl, rfl⟩ ⟨Nat.zero_le _, Nat.zero_le _⟩ (c_within0 h2) rfl rfl rfl ?_
    refine G_if_neN (a := 0) 35 dX4_track_26 (by decide) (by omega) (fun c26 => ?_) (fun c26 => ?_)
    · exact (show False by omega).elim
    · refine G_aload_n dX4_track_29 rfl ?_
      refine G_iconst (v := 2) dX4_track_30 (by decide) ?_
      refine G_callVi dX4_track_31 kX4_track_X4_fails ⟨rfl, rfl⟩ ⟨Nat.zero_le _, Nat.zero_le _⟩ (m_fails hΩ) rfl rfl ((hΩ _ _ _ _ _ _ _ _ _ _ _ _ _ _ _).1) rfl rfl ?_
      exact G_iret dX4_track_34 ⟨Nat.zero_le _, Nat.zero_le _⟩ (rfl)
  · exact (show False by omega).elim
theorem m_track (hΩ : MV mp p1 p2 p3 p5 p7 Ω) {th hs sg fi se t3 : Int32} {f sp sv sn bf : mj_S} {m ln i : Nat} {hh : Int64} (hm : m ≤ 6) {b : Nat} (hb : b < 4) {v : Nat} (hv : 10 ≤ v ∧ v ≤ 90) : MC l yX4_track wsX4_track rmX4_track false [.ref mp, .int (nI (b)), .int (nI (v))] (Ω th f sp sv m sn hs bf ln i sg fi se t3 hh) (some (.int (f (49 + b)))) (Ω 0 (upd f (49 + b) (nI v)) sp (s_save f sv m) (s_svm m) sn hs bf ln i sg fi se t3 hh) := by
  refine mj_MC (cc := cX4_track) (nl := 4) (ret := (some .int)) (plainFor_of_name (by decide)) rfl (⟨_, rfl, rfl⟩) (Nat.le_of_ble_eq_true rfl) ?_
  show GG l cX4_track MX4_track false (.inl ((some (.int (f (49 + b)))), Ω 0 (upd f (49 + b) (nI v)) sp (s_save f sv m) (s_svm m) sn hs bf ln i sg fi se t3 hh)) 0 [some (.ref mp), some (.int (nI (b))), some (.int (nI (v))), none] [] (Ω th f sp sv m sn hs bf ln i sg fi se t3 hh) 0 0
  refine G_aload_n dX4_track_0 rfl ?_
  refine G_iconst (v := 0) dX4_track_1 (by decide) ?_
  refine G_putf dX4_track_2 pX4_track_25 ((hΩ _ _ _ _ _ _ _ _ _ _ _ _ _ _ _).1) (fun _ => ⟨rfl, rfl⟩) (by simp [mfs]) ((hΩ _ _ _ _ _ _ _ _ _ _ _ _ _ _ _).2.2.2.2.2.2.1 _ _ _ _ _ _ _ _ _ _) ?_
  refine G_iload_n dX4_track_5 rfl ?_
  refine G_callSi dX4_track_6 kX4_track_X4_isBank ⟨rfl, rfl⟩ ⟨Nat.zero_le _, Nat.zero_le _⟩ (c_isBank1 (rng (a := 0) (b := 3) (by omega) (by omega) (by omega))) rfl rfl rfl ?_
  refine G_if_neN (a := 1) 18 dX4_track_9 (by decide) (by omega) (fun c9 => ?_) (fun c9 => ?_)
  · refine G_iload_n dX4_track_18 rfl ?_
    refine G_bipush (v := 10) dX4_track_19 (by decide) ?_
    refine G_bipush (v := 90) dX4_track_21 (by decide) ?_
    refine G_callSi dX4_track_23 kX4_track_X4_within ⟨rfl, rfl⟩ ⟨Nat.zero_le _, Nat.zero_le _⟩ (c_within1 (rng (a := 10) (b := 90) (by omega) (by omega) (by omega))) rfl rfl rfl ?_
    refine G_if_neN (a := 1) 35 dX4_track_26 (by decide) (by omega) (fun c26 => ?_) (fun c26 => ?_)
    · refine G_aload_n dX4_track_35 rfl ?_
      refine G_callVv dX4_track_36 kX4_track_X4_save ⟨rfl, rfl⟩ ⟨Nat.zero_le _, Nat.zero_le _⟩ (m_save hΩ (by omega)) rfl rfl ((hΩ _ _ _ _ _ _ _ _ _ _ _ _ _ _ _).1) rfl rfl ?_
      refine G_aload_n dX4_track_39 rfl ?_
      refine G_getf dX4_track_40 fX4_track_7 ((hΩ _ _ _ _ _ _ _ _ _ _ _ _ _ _ _).1) (rfl) ?_
      refine G_bipush (v := 49) dX4_track_43 (by decide) ?_
      refine G_iload_n dX4_track_45 rfl ?_
      refine G_iaddN (a := 49) (c := b) (s := 49 + b) dX4_track_46 (by omega) ?_
      refine G_ialdN (j := 49 + b) dX4_track_47 ((hΩ _ _ _ _ _ _ _ _ _ _ _ _ _ _ _).2.1) (by omega) ?_
      refine G_istore_n dX4_track_48 rfl (L' := [some (.ref mp), some (.int (nI (b))), some (.int (nI (v))), some (.int (f (49 + b)))]) rfl ?_
      refine G_aload_n dX4_track_49 rfl ?_
      refine G_getf dX4_track_50 fX4_track_7 ((hΩ _ _ _ _ _ _ _ _ _ _ _ _ _ _ _).1) (rfl) ?_
      refine G_bipush (v := 49) dX4_track_53 (by decide) ?_
      refine G_iload_n dX4_track_55 rfl ?_
      refine G_iaddN (a := 49) (c := b) (s := 49 + b) dX4_track_56 (by omega) ?_
      refine G_iload_n dX4_track_57 rfl ?_
      obtain ⟨f1, ef1⟩ : ∃ z : mj_S, z = upd f (49 + b) (nI (v)) := ⟨_, rfl⟩
      refine G_iastN (j := 49 + b) dX4_track_58 ((hΩ _ _ _ _ _ _ _ _ _ _ _ _ _ _ _).2.1) (by omega) (((hΩ _ _ _ _ _ _ _ _ _ _ _ _ _ _ _).2.2.2.2.2.2.2.1 _).trans (congrArg (fun z => Ω 0 z sp (s_save f sv m) (s_svm m) sn hs bf ln i sg fi se t3 hh) ef1.symm)) ?_
      refine G_iload_n dX4_track_59 rfl ?_
      exact G_iret dX4_track_60 ⟨Nat.zero_le _, Nat.zero_le _⟩ (by subst ef1; rfl)
    · exact (show False by omega).elim
  · exact (show False by omega).elim
theorem m_strength_1 (hΩ : MV mp p1 p2 p3 p5 p7 Ω) {th hs sg fi se t3 : Int32} {f sp sv sn bf : mj_S} {m ln i : Nat} {hh : Int64} {x : Int32} (h1 : ¬ (0 ≤ x ∧ x ≤ 5)) {y : Int32} : MC l yX4_strength wsX4_strength rmX4_strength false [.ref mp, .int x, .int y] (Ω th f sp sv m sn hs bf ln i sg fi se t3 hh) (some (.int 0)) (Ω 1 f sp sv m sn hs bf ln i sg fi se t3 hh) := by
  refine mj_MC (cc := cX4_strength) (nl := 4) (ret := (some .int)) (plainFor_of_name (by decide)) rfl (⟨_, rfl, rfl⟩) (Nat.le_of_ble_eq_true rfl) ?_
  show GG l cX4_strength MX4_strength false (.inl ((some (.int 0)), Ω 1 f sp sv m sn hs bf ln i sg fi se t3 hh)) 0 [some (.ref mp), some (.int x), some (.int y), none] [] (Ω th f sp sv m sn hs bf ln i sg fi se t3 hh) 0 0
  refine G_aload_n dX4_strength_0 rfl ?_
  refine G_iconst (v := 0) dX4_strength_1 (by decide) ?_
  refine G_putf dX4_strength_2 pX4_strength_25 ((hΩ _ _ _ _ _ _ _ _ _ _ _ _ _ _ _).1) (fun _ => ⟨rfl, rfl⟩) (by simp [mfs]) ((hΩ _ _ _ _ _ _ _ _ _ _ _ _ _ _ _).2.2.2.2.2.2.1 _ _ _ _ _ _ _ _ _ _) ?_
  refine G_iload_n dX4_strength_5 rfl ?_
  refine G_callSi dX4_strength_6 kX4_strength_X4_isCutter ⟨rfl, rfl⟩ ⟨Nat.zero_le _, Nat.zero_le _⟩ (c_isCutter0 h1) rfl rfl rfl ?_
  refine G_if_neN (a := 0) 18 dX4_strength_9 (by decide) (by omega) (fun c9 => ?_) (fun c9 => ?_)
  · exact (show False by omega).elim
  · refine G_aload_n dX4_strength_12 rfl ?_
    refine G_iconst (v := 1) dX4_strength_13 (by decide) ?_
    refine G_callVi dX4_strength_14 kX4_strength_X4_fails ⟨rfl, rfl⟩ ⟨Nat.zero_le _, Nat.zero_le _⟩ (m_fails hΩ) rfl rfl ((hΩ _ _ _ _ _ _ _ _ _ _ _ _ _ _ _).1) rfl rfl ?_
    exact G_iret dX4_strength_17 ⟨Nat.zero_le _, Nat.zero_le _⟩ (rfl)
theorem m_strength_2 (hΩ : MV mp p1 p2 p3 p5 p7 Ω) {th hs sg fi se t3 : Int32} {f sp sv sn bf : mj_S} {m ln i : Nat} {hh : Int64} {c : Nat} (hc : c < 6) {y : Int32} (h2 : ¬ (5 ≤ y ∧ y ≤ 40)) : MC l yX4_strength wsX4_strength rmX4_strength false [.ref mp, .int (nI (c)), .int y] (Ω th f sp sv m sn hs bf ln i sg fi se t3 hh) (some (.int 0)) (Ω 2 f sp sv m sn hs bf ln i sg fi se t3 hh) := by
  refine mj_MC (cc := cX4_strength) (nl := 4) (ret := (some .int)) (plainFor_of_name (by decide)) rfl (⟨_, rfl, rfl⟩) (Nat.le_of_ble_eq_true rfl) ?_
  show GG l cX4_strength MX4_strength false (.inl ((some (.int 0)), Ω 2 f sp sv m sn hs bf ln i sg fi se t3 hh)) 0 [some (.ref mp), some (.int (nI (c))), some (.int y), none] [] (Ω th f sp sv m sn hs bf ln i sg fi se t3 hh) 0 0
  refine G_aload_n dX4_strength_0 rfl ?_
  refine G_iconst (v := 0) dX4_strength_1 (by decide) ?_
  refine G_putf dX4_strength_2 pX4_strength_25 ((hΩ _ _ _ _ _ _ _ _ _ _ _ _ _ _ _).1) (fun _ => ⟨rfl, rfl⟩) (by simp [mfs]) ((hΩ _ _ _ _ _ _ _ _ _ _ _ _ _ _ _).2.2.2.2.2.2.1 _ _ _ _ _ _ _ _ _ _) ?_
  refine G_iload_n dX4_strength_5 rfl ?_
  refine G_callSi dX4_strength_6 kX4_strength_X4_isCutter ⟨rfl, rfl⟩ ⟨Nat.zero_le _, Nat.zero_le _⟩ (c_isCutter1 (rng (a := 0) (b := 5) (by omega) (by omega) (by omega))) rfl rfl rfl ?_
  refine G_if_neN (a := 1) 18 dX4_strength_9 (by decide) (by omega) (fun c9 => ?_) (fun c9 => ?_)
  · refine G_iload_n dX4_strength_18 rfl ?_
    refine G_iconst (v := 5) dX4_strength_19 (by decide) ?_
    refine G_bipush (v := 40) dX4_strength_20 (by decide) ?_
    refine G_callSi dX4_strength_22 kX4_strength_X4_within ⟨rfl, rfl⟩ ⟨Nat.zero_le _, Nat.zero_le _⟩ (c_within0 h2) rfl rfl rfl ?_
    refine G_if_neN (a := 0) 34 dX4_strength_25 (by decide) (by omega) (fun c25 => ?_) (fun c25 => ?_)
    · exact (show False by omega).elim
    · refine G_aload_n dX4_strength_28 rfl ?_
      refine G_iconst (v := 2) dX4_strength_29 (by decide) ?_
      refine G_callVi dX4_strength_30 kX4_strength_X4_fails ⟨rfl, rfl⟩ ⟨Nat.zero_le _, Nat.zero_le _⟩ (m_fails hΩ) rfl rfl ((hΩ _ _ _ _ _ _ _ _ _ _ _ _ _ _ _).1) rfl rfl ?_
      exact G_iret dX4_strength_33 ⟨Nat.zero_le _, Nat.zero_le _⟩ (rfl)
  · exact (show False by omega).elim
theorem m_strength (hΩ : MV mp p1 p2 p3 p5 p7 Ω) {th hs sg fi se t3 : Int32} {f sp sv sn bf : mj_S} {m ln i : Nat} {hh : Int64} (hm : m ≤ 6) {c : Nat} (hc : c < 6) {v : Nat} (hv : 5 ≤ v ∧ v ≤ 40) : MC l yX4_strength wsX4_strength rmX4_strength false [.ref mp, .int (nI (c)), .int (nI (v))] (Ω th f sp sv m sn hs bf ln i sg fi se t3 hh) (some (.int (f (133 + c)))) (Ω 0 (upd f (133 + c) (nI v)) sp (s_save f sv m) (s_svm m) sn hs bf ln i sg fi se t3 hh) := by
  refine mj_MC (cc := cX4_strength) (nl := 4) (ret := (some .int)) (plainFor_of_name (by decide)) rfl (⟨_, rfl, rfl⟩) (Nat.le_of_ble_eq_true rfl) ?_
  show GG l cX4_strength MX4_strength false (.inl ((some (.int (f (133 + c)))), Ω 0 (upd f (133 + c) (nI v)) sp (s_save f sv m) (s_svm m) sn hs bf ln i sg fi se t3 hh)) 0 [some (.ref mp), some (.int (nI (c))), some (.int (nI (v))), none] [] (Ω th f sp sv m sn hs bf ln i sg fi se t3 hh) 0 0
  refine G_aload_n dX4_strength_0 rfl ?_
  refine G_iconst (v := 0) dX4_strength_1 (by decide) ?_
  refine G_putf dX4_strength_2 pX4_strength_25 ((hΩ _ _ _ _ _ _ _ _ _ _ _ _ _ _ _).1) (fun _ => ⟨rfl, rfl⟩) (by simp [mfs]) ((hΩ _ _ _ _ _ _ _ _ _ _ _ _ _ _ _).2.2.2.2.2.2.1 _ _ _ _ _ _ _ _ _ _) ?_
  refine G_iload_n dX4_strength_5 rfl ?_
  refine G_callSi dX4_strength_6 kX4_strength_X4_isCutter ⟨rfl, rfl⟩ ⟨Nat.zero_le _, Nat.zero_le _⟩ (c_isCutter1 (rng (a := 0) (b := 5) (by omega) (by omega) (by omega))) rfl rfl rfl ?_
  refine G_if_neN (a := 1) 18 dX4_strength_9 (by decide) (by omega) (fun c9 => ?_) (fun c9 => ?_)
  · refine G_iload_n dX4_strength_18 rfl ?_
    refine G_iconst (v := 5) dX4_strength_19 (by decide) ?_
    refine G_bipush (v := 40) dX4_strength_20 (by decide) ?_
    refine G_callSi dX4_strength_22 kX4_strength_X4_within ⟨rfl, rfl⟩ ⟨Nat.zero_le _, Nat.zero_le _⟩ (c_within1 (rng (a := 5) (b := 40) (by omega) (by omega) (by omega))) rfl rfl rfl ?_
    refine G_if_neN (a := 1) 34 dX4_strength_25 (by decide) (by omega) (fun c25 => ?_) (fun c25 => ?_)
    · refine G_aload_n dX4_strength_34 rfl ?_
      refine G_callVv dX4_strength_35 kX4_strength_X4_save ⟨rfl, rfl⟩ ⟨Nat.zero_le _, Nat.zero_le _⟩ (m_save hΩ (by omega)) rfl rfl ((hΩ _ _ _ _ _ _ _ _ _ _ _ _ _ _ _).1) rfl rfl ?_
      refine G_aload_n dX4_strength_38 rfl ?_
      refine G_getf dX4_strength_39 fX4_strength_7 ((hΩ _ _ _ _ _ _ _ _ _ _ _ _ _ _ _).1) (rfl) ?_
      refine G_sipush (v := 133) dX4_strength_42 (by decide) ?_
      refine G_iload_n dX4_strength_45 rfl ?_
      refine G_iaddN (a := 133) (c := c) (s := 133 + c) dX4_strength_46 (by omega) ?_
      refine G_ialdN (j := 133 + c) dX4_strength_47 ((hΩ _ _ _ _ _ _ _ _ _ _ _ _ _ _ _).2.1) (by omega) ?_
      refine G_istore_n dX4_strength_48 rfl (L' := [some (.ref mp), some (.int (nI (c))), some (.int (nI (v))), some (.int (f (133 + c)))]) rfl ?_
      refine G_aload_n dX4_strength_49 rfl ?_
      refine G_getf dX4_strength_50 fX4_strength_7 ((hΩ _ _ _ _ _ _ _ _ _ _ _ _ _ _ _).1) (rfl) ?_
      refine G_sipush (v := 133) dX4_strength_53 (by decide) ?_
      refine G_iload_n dX4_strength_56 rfl ?_
      refine G_iaddN (a := 133) (c := c) (s := 133 + c) dX4_strength_57 (by omega) ?_
      refine G_iload_n dX4_strength_58 rfl ?_
      obtain ⟨f1, ef1⟩ : ∃ z : mj_S, z = upd f (133 + c) (nI (v)) := ⟨_, rfl⟩
      refine G_iastN (j := 133 + c) dX4_strength_59 ((hΩ _ _ _ _ _ _ _ _ _ _ _ _ _ _ _).2.1) (by omega) (((hΩ _ _ _ _ _ _ _ _ _ _ _ _ _ _ _).2.2.2.2.2.2.2.1 _).trans (congrArg (fun z => Ω 0 z sp (s_save f sv m) (s_svm m) sn hs bf ln i sg fi se t3 hh) ef1.symm)) ?_
      refine G_iload_n dX4_strength_60 rfl ?_
      exact G_iret dX4_strength_61 ⟨Nat.zero_le _, Nat.zero_le _⟩ (by subst ef1; rfl)
    · exact (show False by omega).elim
  · exact (show False by omega).elim
theorem m_work_1c (hΩ : MV mp p1 p2 p3 p5 p7 Ω) {th hs sg fi se t3 : Int32} {f sp sv sn bf : mj_S} {m ln i : Nat} {hh : Int64} {x : Int32} (h1 : ¬ (0 ≤ x ∧ x ≤ 5)) {y z : Int32} : MC l yX4_work wsX4_work rmX4_work false [.ref mp, .int x, .int y, .int z] (Ω th f sp sv m sn hs bf ln i sg fi se t3 hh) (some (.int 0)) (Ω 1 f sp sv m sn hs bf ln i sg fi se t3 hh) := by
  refine mj_MC (cc := cX4_work) (nl := 4) (ret := (some .int)) (plainFor_of_name (by decide)) rfl (⟨_, rfl, rfl⟩) (Nat.le_of_ble_eq_true rfl) ?_
  show GG l cX4_work MX4_work false (.inl ((some (.int 0)), Ω 1 f sp sv m sn hs bf ln i sg fi se t3 hh)) 0 [some (.ref mp), some (.int x), some (.int y), some (.int z)] [] (Ω th f sp sv m sn hs bf ln i sg fi se t3 hh) 0 0
  refine G_aload_n dX4_work_0 rfl ?_
  refine G_iconst (v := 0) dX4_work_1 (by decide) ?_
  refine G_putf dX4_work_2 pX4_work_25 ((hΩ _ _ _ _ _ _ _ _ _ _ _ _ _ _ _).1) (fun _ => ⟨rfl, rfl⟩) (by simp [mfs]) ((hΩ _ _ _ _ _ _ _ _ _ _ _ _ _ _ _).2.2.2.2.2.2.1 _ _ _ _ _ _ _ _ _ _) ?_
  refine G_iload_n dX4_work_5 rfl ?_
  refine G_callSi dX4_work_6 kX4_work_X4_isCutter ⟨rfl, rfl⟩ ⟨Nat.zero_le _, Nat.zero_le _⟩ (c_isCutter0 h1) rfl rfl rfl ?_
  refine G_if_eqN (a := 0) 26 dX4_work_9 (by decide) (by omega) (fun c9 => ?_) (fun c9 => ?_)
  · refine G_aload_n dX4_work_26 rfl ?_
    refine G_iconst (v := 1) dX4_work_27 (by decide) ?_
    refine G_callVi dX4_work_28 kX4_work_X4_fails ⟨rfl, rfl⟩ ⟨Nat.zero_le _, Nat.zero_le _⟩ (m_fails hΩ) rfl rfl ((hΩ _ _ _ _ _ _ _ _ _ _ _ _ _ _ _).1) rfl rfl ?_
    exact G_iret dX4_work_31 ⟨Nat.zero_le _, Nat.zero_le _⟩ (rfl)
  · exact (show False by omega).elim
theorem m_work_1h (hΩ : MV mp p1 p2 p3 p5 p7 Ω) {th hs sg fi se t3 : Int32} {f sp sv sn bf : mj_S} {m ln i : Nat} {hh : Int64} {c : Nat} (hc : c < 6) {y : Int32} (h2 : ¬ (0 ≤ y ∧ y ≤ 4)) {z : Int32} : MC l yX4_work wsX4_work rmX4_work false [.ref mp, .int (nI (c)), .int y, .int z] (Ω th f sp sv m sn hs bf ln i sg fi se t3 hh) (some (.int 0)) (Ω 1 f sp sv m sn hs bf ln i sg fi se t3 hh) := by
  refine mj_MC (cc := cX4_work) (nl := 4) (ret := (some .int)) (plainFor_of_name (by decide)) rfl (⟨_, rfl, rfl⟩) (Nat.le_of_ble_eq_true rfl) ?_
  show GG l cX4_work MX4_work false (.inl ((some (.int 0)), Ω 1 f sp sv m sn hs bf ln i sg fi se t3 hh)) 0 [some (.ref mp), some (.int (nI (c))), some (.int y), some (.int z)] [] (Ω th f sp sv m sn hs bf ln i sg fi se t3 hh) 0 0
  refine G_aload_n dX4_work_0 rfl ?_
  refine G_iconst (v := 0) dX4_work_1 (by decide) ?_
  refine G_putf dX4_work_2 pX4_work_25 ((hΩ _ _ _ _ _ _ _ _ _ _ _ _ _ _ _).1) (fun _ => ⟨rfl, rfl⟩) (by simp [mfs]) ((hΩ _ _ _ _ _ _ _ _ _ _ _ _ _ _ _).2.2.2.2.2.2.1 _ _ _ _ _ _ _ _ _ _) ?_
  refine G_iload_n dX4_work_5 rfl ?_
  refine G_callSi dX4_work_6 kX4_work_X4_isCutter ⟨rfl, rfl⟩ ⟨Nat.zero_le _, Nat.zero_le _⟩ (c_isCutter1 (rng (a := 0) (b := 5) (by omega) (by omega) (by omega))) rfl rfl rfl ?_
  refine G_if_eqN (a := 1) 26 dX4_work_9 (by decide) (by omega) (fun c9 => ?_) (fun c9 => ?_)
  · exact (show False by omega).elim
  · refine G_iload_n dX4_work_12 rfl ?_
    refine G_callSi dX4_work_13 kX4_work_X4_isHearth ⟨rfl, rfl⟩ ⟨Nat.zero_le _, Nat.zero_le _⟩ (c_isHearth0 h2) rfl rfl rfl ?_
    refine G_if_eqN (a := 0) 26 dX4_work_16 (by decide) (by omega) (fun c16 => ?_) (fun c16 => ?_)
    · refine G_aload_n dX4_work_26 rfl ?_
      refine G_iconst (v := 1) dX4_work_27 (by decide) ?_
      refine G_callVi dX4_work_28 kX4_work_X4_fails ⟨rfl, rfl⟩ ⟨Nat.zero_le _, Nat.zero_le _⟩ (m_fails hΩ) rfl rfl ((hΩ _ _ _ _ _ _ _ _ _ _ _ _ _ _ _).1) rfl rfl ?_
      exact G_iret dX4_work_31 ⟨Nat.zero_le _, Nat.zero_le _⟩ (rfl)
    · exact (show False by omega).elim
theorem m_work_1b (hΩ : MV mp p1 p2 p3 p5 p7 Ω) {th hs sg fi se t3 : Int32} {f sp sv sn bf : mj_S} {m ln i : Nat} {hh : Int64} {c : Nat} (hc : c < 6) {h : Nat} (hh5 : h < 5) {z : Int32} (h3 : ¬ (0 ≤ z ∧ z ≤ 3)) : MC l yX4_work wsX4_work rmX4_work false [.ref mp, .int (nI (c)), .int (nI (h)), .int z] (Ω th f sp sv m sn hs bf ln i sg fi se t3 hh) (some (.int 0)) (Ω 1 f sp sv m sn hs bf ln i sg fi se t3 hh) := by
  refine mj_MC (cc := cX4_work) (nl := 4) (ret := (some .int)) (plainFor_of_name (by decide)) rfl (⟨_, rfl, rfl⟩) (Nat.le_of_ble_eq_true rfl) ?_
  show GG l cX4_work MX4_work false (.inl ((some (.int 0)), Ω 1 f sp sv m sn hs bf ln i sg fi se t3 hh)) 0 [some (.ref mp), some (.int (nI (c))), some (.int (nI (h))), some (.int z)] [] (Ω th f sp sv m sn hs bf ln i sg fi se t3 hh) 0 0
  refine G_aload_n dX4_work_0 rfl ?_
  refine G_iconst (v := 0) dX4_work_1 (by decide) ?_
  refine G_putf dX4_work_2 pX4_work_25 ((hΩ _ _ _ _ _ _ _ _ _ _ _ _ _ _ _).1) (fun _ => ⟨rfl, rfl⟩) (by simp [mfs]) ((hΩ _ _ _ _ _ _ _ _ _ _ _ _ _ _ _).2.2.2.2.2.2.1 _ _ _ _ _ _ _ _ _ _) ?_
  refine G_iload_n dX4_work_5 rfl ?_
  refine G_callSi dX4_work_6 kX4_work_X4_isCutter ⟨rfl, rfl⟩ ⟨Nat.zero_le _, Nat.zero_le _⟩ (c_isCutter1 (rng (a := 0) (b := 5) (by omega) (by omega) (by omega))) rfl rfl rfl ?_
  refine G_if_eqN (a := 1) 26 dX4_work_9 (by decide) (by omega) (fun c9 => ?_) (fun c9 => ?_)
  · exact (show False by omega).elim
  · refine G_iload_n dX4_work_12 rfl ?_
    refine G_callSi dX4_work_13 kX4_work_X4_isHearth ⟨rfl, rfl⟩ ⟨Nat.zero_le _, Nat.zero_le _⟩ (c_isHearth1 (rng (a := 0) (b := 4) (by omega) (by omega) (by omega))) rfl rfl rfl ?_
    refine G_if_eqN (a := 1) 26 dX4_work_16 (by decide) (by omega) (fun c16 => ?_) (fun c16 => ?_)
    · exact (show False by omega).elim
    · refine G_iload_n dX4_work_19 rfl ?_
      refine G_callSi dX4_work_20 kX4_work_X4_isBank ⟨rfl, rfl⟩ ⟨Nat.zero_le _, Nat.zero_le _⟩ (c_isBank0 h3) rfl rfl rfl ?_
      refine G_if_neN (a := 0) 32 dX4_work_23 (by decide) (by omega) (fun c23 => ?_) (fun c23 => ?_)
      · exact (show False by omega).elim
      · refine G_aload_n dX4_work_26 rfl ?_
        refine G_iconst (v := 1) dX4_work_27 (by decide) ?_
        refine G_callVi dX4_work_28 kX4_work_X4_fails ⟨rfl, rfl⟩ ⟨Nat.zero_le _, Nat.zero_le _⟩ (m_fails hΩ) rfl rfl ((hΩ _ _ _ _ _ _ _ _ _ _ _ _ _ _ _).1) rfl rfl ?_
        exact G_iret dX4_work_31 ⟨Nat.zero_le _, Nat.zero_le _⟩ (rfl)
theorem m_whyNot_1c (hΩ : MV mp p1 p2 p3 p5 p7 Ω) {th hs sg fi se t3 : Int32} {f sp sv sn bf : mj_S} {m ln i : Nat} {hh : Int64} {x : Int32} (h1 : ¬ (0 ≤ x ∧ x ≤ 5)) {y z : Int32} : MC l yX4_whyNot wsX4_whyNot rmX4_whyNot false [.ref mp, .int x, .int y, .int z] (Ω th f sp sv m sn hs bf ln i sg fi se t3 hh) (some (.int 0)) (Ω 1 f sp sv m sn hs bf ln i sg fi se t3 hh) := by
  refine mj_MC (cc := cX4_whyNot) (nl := 4) (ret := (some .int)) (plainFor_of_name (by decide)) rfl (⟨_, rfl, rfl⟩) (Nat.le_of_ble_eq_true rfl) ?_
  show GG l cX4_whyNot MX4_whyNot false (.inl ((some (.int 0)), Ω 1 f sp sv m sn hs bf ln i sg fi se t3 hh)) 0 [some (.ref mp), some (.int x), some (.int y), some (.int z)] [] (Ω th f sp sv m sn hs bf ln i sg fi se t3 hh) 0 0
  refine G_aload_n dX4_whyNot_0 rfl ?_
  refine G_iconst (v := 0) dX4_whyNot_1 (by decide) ?_
  refine G_putf dX4_whyNot_2 pX4_whyNot_25 ((hΩ _ _ _ _ _ _ _ _ _ _ _ _ _ _ _).1) (fun _ => ⟨rfl, rfl⟩) (by simp [mfs]) ((hΩ _ _ _ _ _ _ _ _ _ _ _ _ _ _ _).2.2.2.2.2.2.1 _ _ _ _ _ _ _ _ _ _) ?_
  refine G_iload_n dX4_whyNot_5 rfl ?_
  refine G_callSi dX4_whyNot_6 kX4_whyNot_X4_isCutter ⟨rfl, rfl⟩ ⟨Nat.zero_le _, Nat.zero_le _⟩ (c_isCutter0 h1) rfl rfl rfl ?_
  refine G_if_eqN (a := 0) 35 dX4_whyNot_9 (by decide) (by omega) (fun c9 => ?_) (fun c9 => ?_)
  · refine G_aload_n dX4_whyNot_35 rfl ?_
    refine G_iconst (v := 1) dX4_whyNot_36 (by decide) ?_
    refine G_callVi dX4_whyNot_37 kX4_whyNot_X4_fails ⟨rfl, rfl⟩ ⟨Nat.zero_le _, Nat.zero_le _⟩ (m_fails hΩ) rfl rfl ((hΩ _ _ _ _ _ _ _ _ _ _ _ _ _ _ _).1) rfl rfl ?_
    exact G_iret dX4_whyNot_40 ⟨Nat.zero_le _, Nat.zero_le _⟩ (rfl)
  · exact (show False by omega).elim
theorem m_whyNot_1h (hΩ : MV mp p1 p2 p3 p5 p7 Ω) {th hs sg fi se t3 : Int32} {f sp sv sn bf : mj_S} {m ln i : Nat} {hh : Int64} {c : Nat} (hc : c < 6) {y : Int32} (h2 : ¬ (0 ≤ y ∧ y ≤ 4)) {z : Int32} : MC l yX4_whyNot wsX4_whyNot rmX4_whyNot false [.ref mp, .int (nI (c)), .int y, .int z] (Ω th f sp sv m sn hs bf ln i sg fi se t3 hh) (some (.int 0)) (Ω 1 f sp sv m sn hs bf ln i sg fi se t3 hh) := by
  refine mj_MC (cc := cX4_whyNot) (nl := 4) (ret := (some .int)) (plainFor_of_name (by decide)) rfl (⟨_, rfl, rfl⟩) (Nat.le_of_ble_eq_true rfl) ?_
  show GG l cX4_whyNot MX4_whyNot false (.inl ((some (.int 0)), Ω 1 f sp sv m sn hs bf ln i sg fi se t3 hh)) 0 [some (.ref mp), some (.int (nI (c))), some (.int y), some (.int z)] [] (Ω th f sp sv m sn hs bf ln i sg fi se t3 hh) 0 0
  refine G_aload_n dX4_whyNot_0 rfl ?_
  refine G_iconst (v := 0) dX4_whyNot_1 (by decide) ?_
  refine G_putf dX4_whyNot_2 pX4_whyNot_25 ((hΩ _ _ _ _ _ _ _ _ _ _ _ _ _ _ _).1) (fun _ => ⟨rfl, rfl⟩) (by simp [mfs]) ((hΩ _ _ _ _ _ _ _ _ _ _ _ _ _ _ _).2.2.2.2.2.2.1 _ _ _ _ _ _ _ _ _ _) ?_
  refine G_iload_n dX4_whyNot_5 rfl ?_
  refine G_callSi dX4_whyNot_6 kX4_whyNot_X4_isCutter ⟨rfl, rfl⟩ ⟨Nat.zero_le _, Nat.zero_le _⟩ (c_isCutter1 (rng (a := 0) (b := 5) (by omega) (by omega) (by omega))) rfl rfl rfl ?_
  refine G_if_eqN (a := 1) 35 dX4_whyNot_9 (by decide) (by omega) (fun c9 => ?_) (fun c9 => ?_)
  · exact (show False by omega).elim
  · refine G_iload_n dX4_whyNot_12 rfl ?_
    refine G_callSi dX4_whyNot_13 kX4_whyNot_X4_isHearth ⟨rfl, rfl⟩ ⟨Nat.zero_le _, Nat.zero_le _⟩ (c_isHearth0 h2) rfl rfl rfl ?_
    refine G_if_eqN (a := 0) 35 dX4_whyNot_16 (by decide) (by omega) (fun c16 => ?_) (fun c16 => ?_)
    · refine G_aload_n dX4_whyNot_35 rfl ?_
      refine G_iconst (v := 1) dX4_whyNot_36 (by decide) ?_
      refine G_callVi dX4_whyNot_37 kX4_whyNot_X4_fails ⟨rfl, rfl⟩ ⟨Nat.zero_le _, Nat.zero_le _⟩ (m_fails hΩ) rfl rfl ((hΩ _ _ _ _ _ _ _ _ _ _ _ _ _ _ _).1) rfl rfl ?_
      exact G_iret dX4_whyNot_40 ⟨Nat.zero_le _, Nat.zero_le _⟩ (rfl)
    · exact (show False by omega).elim
theorem m_whyNot_1b (hΩ : MV mp p1 p2 p3 p5 p7 Ω) {th hs sg fi se t3 : Int32} {f sp sv sn bf : mj_S} {m ln i : Nat} {hh : Int64} {c : Nat} (hc : c < 6) {h : Nat} (hh5 : h < 5) {z : Int32} (h3 : ¬ (0 ≤ z ∧ z ≤ 3)) : MC l yX4_whyNot wsX4_whyNot rmX4_whyNot false [.ref mp, .int (nI (c)), .int (nI (h)), .int z] (Ω th f sp sv m sn hs bf ln i sg fi se t3 hh) (some (.int 0)) (Ω 1 f sp sv m sn hs bf ln i sg fi se t3 hh) := by
  refine mj_MC (cc := cX4_whyNot) (nl := 4) (ret := (some .int)) (plainFor_of_name (by decide)) rfl (⟨_, rfl, rfl⟩) (Nat.le_of_ble_eq_true rfl) ?_
  show GG l cX4_whyNot MX4_whyNot false (.inl ((some (.int 0)), Ω 1 f sp sv m sn hs bf ln i sg fi se t3 hh)) 0 [some (.ref mp), some (.int (nI (c))), some (.int (nI (h))), some (.int z)] [] (Ω th f sp sv m sn hs bf ln i sg fi se t3 hh) 0 0
  refine G_aload_n dX4_whyNot_0 rfl ?_
  refine G_iconst (v := 0) dX4_whyNot_1 (by decide) ?_
  refine G_putf dX4_whyNot_2 pX4_whyNot_25 ((hΩ _ _ _ _ _ _ _ _ _ _ _ _ _ _ _).1) (fun _ => ⟨rfl, rfl⟩) (by simp [mfs]) ((hΩ _ _ _ _ _ _ _ _ _ _ _ _ _ _ _).2.2.2.2.2.2.1 _ _ _ _ _ _ _ _ _ _) ?_
  refine G_iload_n dX4_whyNot_5 rfl ?_
  refine G_callSi dX4_whyNot_6 kX4_whyNot_X4_isCutter ⟨rfl, rfl⟩ ⟨Nat.zero_le _, Nat.zero_le _⟩ (c_isCutter1 (rng (a := 0) (b := 5) (by omega) (by omega) (by omega))) rfl rfl rfl ?_
  refine G_if_eqN (a := 1) 35 dX4_whyNot_9 (by decide) (by omega) (fun c9 => ?_) (fun c9 => ?_)
  · exact (show False by omega).elim
  · refine G_iload_n dX4_whyNot_12 rfl ?_
    refine G_callSi dX4_whyNot_13 kX4_whyNot_X4_isHearth ⟨rfl, rfl⟩ ⟨Nat.zero_le _, Nat.zero_le _⟩ (c_isHearth1 (rng (a := 0) (b := 4) (by omega) (by omega) (by omega))) rfl rfl rfl ?_
    refine G_if_eqN (a := 1) 35 dX4_whyNot_16 (by decide) (by omega) (fun c16 => ?_) (fun c16 => ?_)
    · exact (show False by omega).elim
    · refine G_iload_n dX4_whyNot_19 rfl ?_
      refine G_callSi dX4_whyNot_20 kX4_whyNot_X4_isBank ⟨rfl, rfl⟩ ⟨Nat.zero_le _, Nat.zero_le _⟩ (c_isBank0 h3) rfl rfl rfl ?_
      refine G_if_eqN (a := 0) 35 dX4_whyNot_23 (by decide) (by omega) (fun c23 => ?_) (fun c23 => ?_)
      · refine G_aload_n dX4_whyNot_35 rfl ?_
        refine G_iconst (v := 1) dX4_whyNot_36 (by decide) ?_
        refine G_callVi dX4_whyNot_37 kX4_whyNot_X4_fails ⟨rfl, rfl⟩ ⟨Nat.zero_le _, Nat.zero_le _⟩ (m_fails hΩ) rfl rfl ((hΩ _ _ _ _ _ _ _ _ _ _ _ _ _ _ _).1) rfl rfl ?_
        exact G_iret dX4_whyNot_40 ⟨Nat.zero_le _, Nat.zero_le _⟩ (rfl)
      · exact (show False by omega).elim
theorem m_work_2 (hΩ : MV mp p1 p2 p3 p5 p7 Ω) {th hs sg fi se t3 : Int32} {f sp sv sn bf : mj_S} {m ln i : Nat} {hh : Int64} {c : Nat} (hc : c < 6) {h : Nat} (hh5 : h < 5) {b : Nat} (hb : b < 4) (hr : ¬ s_why f h b = 0) : MC l yX4_work wsX4_work rmX4_work false [.ref mp, .int (nI (c)), .int (nI (h)), .int (nI (b))] (Ω th f sp sv m sn hs bf ln i sg fi se t3 hh) (some (.int 0)) (Ω 2 f sp sv m sn hs bf ln i sg fi se t3 hh) := by
  refine mj_MC (cc := cX4_work) (nl := 4) (ret := (some .int)) (plainFor_of_name (by decide)) rfl (⟨_, rfl, rfl⟩) (Nat.le_of_ble_eq_true rfl) ?_
  show GG l cX4_work MX4_work false (.inl ((some (.int 0)), Ω 2 f sp sv m sn hs bf ln i sg fi se t3 hh)) 0 [some (.ref mp), some (.int (nI (c))), some (.int (nI (h))), some (.int (nI (b)))] [] (Ω th f sp sv m sn hs bf ln i sg fi se t3 hh) 0 0
  refine G_aload_n dX4_work_0 rfl ?_
  refine G_iconst (v := 0) dX4_work_1 (by decide) ?_
  refine G_putf dX4_work_2 pX4_work_25 ((hΩ _ _ _ _ _ _ _ _ _ _ _ _ _ _ _).1) (fun _ => ⟨rfl, rfl⟩) (by simp [mfs]) ((hΩ _ _ _ _ _ _ _ _ _ _ _ _ _ _ _).2.2.2.2.2.2.1 _ _ _ _ _ _ _ _ _ _) ?_
  refine G_iload_n dX4_work_5 rfl ?_
  refine G_callSi dX4_work_6 kX4_work_X4_isCutter ⟨rfl, rfl⟩ ⟨Nat.zero_le _, Nat.zero_le _⟩ (c_isCutter1 (rng (a := 0) (b := 5) (by omega) (by omega) (by omega))) rfl rfl rfl ?_
  refine G_if_eqN (a := 1) 26 dX4_work_9 (by decide) (by omega) (fun c9 => ?_) (fun c9 => ?_)
  · exact (show False by omega).elim
  · refine G_iload_n dX4_work_12 rfl ?_
    refine G_callSi dX4_work_13 kX4_work_X4_isHearth ⟨rfl, rfl⟩ ⟨Nat.zero_le _, Nat.zero_le _⟩ (c_isHearth1 (rng (a := 0) (b := 4) (by omega) (by omega) (by omega))) rfl rfl rfl ?_
    refine G_if_eqN (a := 1) 26 dX4_work_16 (by decide) (by omega) (fun c16 => ?_) (fun c16 => ?_)
    · exact (show False by omega).elim
    · refine G_iload_n dX4_work_19 rfl ?_
      refine G_callSi dX4_work_20 kX4_work_X4_isBank ⟨rfl, rfl⟩ ⟨Nat.zero_le _, Nat.zero_le _⟩ (c_isBank1 (rng (a := 0) (b := 3) (by omega) (by omega) (by omega))) rfl rfl rfl ?_
      refine G_if_neN (a := 1) 32 dX4_work_23 (by decide) (by omega) (fun c23 => ?_) (fun c23 => ?_)
      · refine G_aload_n dX4_work_32 rfl ?_
        refine G_iload_n dX4_work_33 rfl ?_
        refine G_iload_n dX4_work_34 rfl ?_
        refine G_callVi dX4_work_35 kX4_work_X4_reason ⟨rfl, rfl⟩ ⟨Nat.zero_le _, Nat.zero_le _⟩ (m_reason (hΩ.fv 0 sp sv m sn hs bf ln i sg fi se t3 hh) (h := h) (b := b) (by omega) (by omega)) rfl rfl ((hΩ _ _ _ _ _ _ _ _ _ _ _ _ _ _ _).1) rfl rfl ?_
        refine G_if_eq 47 dX4_work_38 (by decide) (fun c38 => ?_) (fun c38 => ?_)
        · exact absurd c38 hr
        · refine G_aload_n dX4_work_41 rfl ?_
          refine G_iconst (v := 2) dX4_work_42 (by decide) ?_
          refine G_callVi dX4_work_43 kX4_work_X4_fails ⟨rfl, rfl⟩ ⟨Nat.zero_le _, Nat.zero_le _⟩ (m_fails hΩ) rfl rfl ((hΩ _ _ _ _ _ _ _ _ _ _ _ _ _ _ _).1) rfl rfl ?_
          exact G_iret dX4_work_46 ⟨Nat.zero_le _, Nat.zero_le _⟩ (rfl)
      · exact (show False by omega).elim
theorem m_work (hΩ : MV mp p1 p2 p3 p5 p7 Ω) {th hs sg fi se t3 : Int32} {f sp sv sn bf : mj_S} {m ln i : Nat} {hh : Int64} (hm : m ≤ 6) {c : Nat} (hc : c < 6) {h : Nat} (hh5 : h < 5) {b : Nat} (hb : b < 4) (hr : s_why f h b = 0) : MC l yX4_work wsX4_work rmX4_work false [.ref mp, .int (nI (c)), .int (nI (h)), .int (nI (b))] (Ω th f sp sv m sn hs bf ln i sg fi se t3 hh) (some (.int (s_cnt (s_setw f c (nI h) (nI b)) (nI h) (nI b)))) (Ω 0 (s_setw f c (nI h) (nI b)) sp (s_save f sv m) (s_svm m) sn hs bf ln i sg fi se t3 hh) := by
  refine mj_MC (cc := cX4_work) (nl := 4) (ret := (some .int)) (plainFor_of_name (by decide)) rfl (⟨_, rfl, rfl⟩) (Nat.le_of_ble_eq_true rfl) ?_
  show GG l cX4_work MX4_work false (.inl ((some (.int (s_cnt (s_setw f c (nI h) (nI b)) (nI h) (nI b)))), Ω 0 (s_setw f c (nI h) (nI b)) sp (s_save f sv m) (s_svm m) sn hs bf ln i sg fi se t3 hh)) 0 [some (.ref mp), some (.int (nI (c))), some (.int (nI (h))), some (.int (nI (b)))] [] (Ω th f sp sv m sn hs bf ln i sg fi se t3 hh) 0 0
  refine G_aload_n dX4_work_0 rfl ?_
  refine G_iconst (v := 0) dX4_work_1 (by decide) ?_
  refine G_putf dX4_work_2 pX4_work_25 ((hΩ _ _ _ _ _ _ _ _ _ _ _ _ _ _ _).1) (fun _ => ⟨rfl, rfl⟩) (by simp [mfs]) ((hΩ _ _ _ _ _ _ _ _ _ _ _ _ _ _ _).2.2.2.2.2.2.1 _ _ _ _ _ _ _ _ _ _) ?_
  refine G_iload_n dX4_work_5 rfl ?_
  refine G_callSi dX4_work_6 kX4_work_X4_isCutter ⟨rfl, rfl⟩ ⟨Nat.zero_le _, Nat.zero_le _⟩ (c_isCutter1 (rng (a := 0) (b := 5) (by omega) (by omega) (by omega))) rfl rfl rfl ?_
  refine G_if_eqN (a := 1) 26 dX4_work_9 (by decide) (by omega) (fun c9 => ?_) (fun c9 => ?_)
  · exact (show False by omega).elim
  · refine G_iload_n dX4_work_12 rfl ?_
    refine G_callSi dX4_work_13 kX4_work_X4_isHearth ⟨rfl, rfl⟩ ⟨Nat.zero_le _, Nat.zero_le _⟩ (c_isHearth1 (rng (a := 0) (b := 4) (by omega) (by omega) (by omega))) rfl rfl rfl ?_
    refine G_if_eqN (a := 1) 26 dX4_work_16 (by decide) (by omega) (fun c16 => ?_) (fun c16 => ?_)
    · exact (show False by omega).elim
    · refine G_iload_n dX4_work_19 rfl ?_
      refine G_callSi dX4_work_20 kX4_work_X4_isBank ⟨rfl, rfl⟩ ⟨Nat.zero_le _, Nat.zero_le _⟩ (c_isBank1 (rng (a := 0) (b := 3) (by omega) (by omega) (by omega))) rfl rfl rfl ?_
      refine G_if_neN (a := 1) 32 dX4_work_23 (by decide) (by omega) (fun c23 => ?_) (fun c23 => ?_)
      · refine G_aload_n dX4_work_32 rfl ?_
        refine G_iload_n dX4_work_33 rfl ?_
        refine G_iload_n dX4_work_34 rfl ?_
        refine G_callVi dX4_work_35 kX4_work_X4_reason ⟨rfl, rfl⟩ ⟨Nat.zero_le _, Nat.zero_le _⟩ (m_reason (hΩ.fv 0 sp sv m sn hs bf ln i sg fi se t3 hh) (h := h) (b := b) (by omega) (by omega)) rfl rfl ((hΩ _ _ _ _ _ _ _ _ _ _ _ _ _ _ _).1) rfl rfl ?_
        refine G_if_eq 47 dX4_work_38 (by decide) (fun c38 => ?_) (fun c38 => ?_)
        · refine G_aload_n dX4_work_47 rfl ?_
          refine G_callVv dX4_work_48 kX4_work_X4_save ⟨rfl, rfl⟩ ⟨Nat.zero_le _, Nat.zero_le _⟩ (m_save hΩ (by omega)) rfl rfl ((hΩ _ _ _ _ _ _ _ _ _ _ _ _ _ _ _).1) rfl rfl ?_
          refine G_aload_n dX4_work_51 rfl ?_
          refine G_iload_n dX4_work_52 rfl ?_
          refine G_iload_n dX4_work_53 rfl ?_
          refine G_iload_n dX4_work_54 rfl ?_
          refine G_callVv dX4_work_55 kX4_work_X4_setToWork ⟨rfl, rfl⟩ ⟨Nat.zero_le _, Nat.zero_le _⟩ (m_setToWork (hΩ.fv 0 sp (s_save f sv m) (s_svm m) sn hs bf ln i sg fi se t3 hh) (c := c) (by omega)) rfl rfl ((hΩ _ _ _ _ _ _ _ _ _ _ _ _ _ _ _).1) rfl rfl ?_
          refine G_aload_n dX4_work_58 rfl ?_
          refine G_iload_n dX4_work_59 rfl ?_
          refine G_iload_n dX4_work_60 rfl ?_
          refine G_callVi dX4_work_61 kX4_work_X4_workers ⟨rfl, rfl⟩ ⟨Nat.zero_le _, Nat.zero_le _⟩ (m_workers (hΩ.fv 0 sp (s_save f sv m) (s_svm m) sn hs bf ln i sg fi se t3 hh)) rfl rfl ((hΩ _ _ _ _ _ _ _ _ _ _ _ _ _ _ _).1) rfl rfl ?_
          exact G_iret dX4_work_64 ⟨Nat.zero_le _, Nat.zero_le _⟩ (rfl)
        · exact absurd hr c38
      · exact (show False by omega).elim
theorem m_whyNot (hΩ : MV mp p1 p2 p3 p5 p7 Ω) {th hs sg fi se t3 : Int32} {f sp sv sn bf : mj_S} {m ln i : Nat} {hh : Int64} {c : Nat} (hc : c < 6) {h : Nat} (hh5 : h < 5) {b : Nat} (hb : b < 4) : MC l yX4_whyNot wsX4_whyNot rmX4_whyNot false [.ref mp, .int (nI (c)), .int (nI (h)), .int (nI (b))] (Ω th f sp sv m sn hs bf ln i sg fi se t3 hh) (some (.int (s_why f h b))) (Ω 0 f sp sv m sn hs bf ln i sg fi se t3 hh) := by
  refine mj_MC (cc := cX4_whyNot) (nl := 4) (ret := (some .int)) (plainFor_of_name (by decide)) rfl (⟨_, rfl, rfl⟩) (Nat.le_of_ble_eq_true rfl) ?_
  show GG l cX4_whyNot MX4_whyNot false (.inl ((some (.int (s_why f h b))), Ω 0 f sp sv m sn hs bf ln i sg fi se t3 hh)) 0 [some (.ref mp), some (.int (nI (c))), some (.int (nI (h))), some (.int (nI (b)))] [] (Ω th f sp sv m sn hs bf ln i sg fi se t3 hh) 0 0
  refine G_aload_n dX4_whyNot_0 rfl ?_
  refine G_iconst (v := 0) dX4_whyNot_1 (by decide) ?_
  refine G_putf dX4_whyNot_2 pX4_whyNot_25 ((hΩ _ _ _ _ _ _ _ _ _ _ _ _ _ _ _).1) (fun _ => ⟨rfl, rfl⟩) (by simp [mfs]) ((hΩ _ _ _ _ _ _ _ _ _ _ _ _ _ _ _).2.2.2.2.2.2.1 _ _ _ _ _ _ _ _ _ _) ?_
  refine G_iload_n dX4_whyNot_5 rfl ?_
  refine G_callSi dX4_whyNot_6 kX4_whyNot_X4_isCutter ⟨rfl, rfl⟩ ⟨Nat.zero_le _, Nat.zero_le _⟩ (c_isCutter1 (rng (a := 0) (b := 5) (by omega) (by omega) (by omega))) rfl rfl rfl ?_
  refine G_if_eqN (a := 1) 35 dX4_whyNot_9 (by decide) (by omega) (fun c9 => ?_) (fun c9 => ?_)
  · exact (show False by omega).elim
  · refine G_iload_n dX4_whyNot_12 rfl ?_
    refine G_callSi dX4_whyNot_13 kX4_whyNot_X4_isHearth ⟨rfl, rfl⟩ ⟨Nat.zero_le _, Nat.zero_le _⟩ (c_isHearth1 (rng (a := 0) (b := 4) (by omega) (by omega) (by omega))) rfl rfl rfl ?_
    refine G_if_eqN (a := 1) 35 dX4_whyNot_16 (by decide) (by omega) (fun c16 => ?_) (fun c16 => ?_)
    · exact (show False by omega).elim
    · refine G_iload_n dX4_whyNot_19 rfl ?_
      refine G_callSi dX4_whyNot_20 kX4_whyNot_X4_isBank ⟨rfl, rfl⟩ ⟨Nat.zero_le _, Nat.zero_le _⟩ (c_isBank1 (rng (a := 0) (b := 3) (by omega) (by omega) (by omega))) rfl rfl rfl ?_
      refine G_if_eqN (a := 1) 35 dX4_whyNot_23 (by decide) (by omega) (fun c23 => ?_) (fun c23 => ?_)
      · exact (show False by omega).elim
      · refine G_aload_n dX4_whyNot_26 rfl ?_
        refine G_iload_n dX4_whyNot_27 rfl ?_
        refine G_iload_n dX4_whyNot_28 rfl ?_
        refine G_callVi dX4_whyNot_29 kX4_whyNot_X4_reason ⟨rfl, rfl⟩ ⟨Nat.zero_le _, Nat.zero_le _⟩ (m_reason (hΩ.fv 0 sp sv m sn hs bf ln i sg fi se t3 hh) (h := h) (b := b) (by omega) (by omega)) rfl rfl ((hΩ _ _ _ _ _ _ _ _ _ _ _ _ _ _ _).1) rfl rfl ?_
        refine G_goto 40 dX4_whyNot_32 (by decide) ?_
        exact G_iret dX4_whyNot_40 ⟨Nat.zero_le _, Nat.zero_le _⟩ (rfl)
theorem m_rest_1 (hΩ : MV mp p1 p2 p3 p5 p7 Ω) {th hs sg fi se t3 : Int32} {f sp sv sn bf : mj_S} {m ln i : Nat} {hh : Int64} {x : Int32} (h1 : ¬ (0 ≤ x ∧ x ≤ 5)) : MC l yX4_rest wsX4_rest rmX4_rest false [.ref mp, .int x] (Ω th f sp sv m sn hs bf ln i sg fi se t3 hh) (some (.int 0)) (Ω 1 f sp sv m sn hs bf ln i sg fi se t3 hh) := by
  refine mj_MC (cc := cX4_rest) (nl := 2) (ret := (some .int)) (plainFor_of_name (by decide)) rfl (⟨_, rfl, rfl⟩) (Nat.le_of_ble_eq_true rfl) ?_
  show GG l cX4_rest MX4_rest false (.inl ((some (.int 0)), Ω 1 f sp sv m sn hs bf ln i sg fi se t3 hh)) 0 [some (.ref mp), some (.int x)] [] (Ω th f sp sv m sn hs bf ln i sg fi se t3 hh) 0 0
  refine G_aload_n dX4_rest_0 rfl ?_
  refine G_iconst (v := 0) dX4_rest_1 (by decide) ?_
  refine G_putf dX4_rest_2 pX4_rest_25 ((hΩ _ _ _ _ _ _ _ _ _ _ _ _ _ _ _).1) (fun _ => ⟨rfl, rfl⟩) (by simp [mfs]) ((hΩ _ _ _ _ _ _ _ _ _ _ _ _ _ _ _).2.2.2.2.2.2.1 _ _ _ _ _ _ _ _ _ _) ?_
  refine G_iload_n dX4_rest_5 rfl ?_
  refine G_callSi dX4_rest_6 kX4_rest_X4_isCutter ⟨rfl, rfl⟩ ⟨Nat.zero_le _, Nat.zero_le _⟩ (c_isCutter0 h1) rfl rfl rfl ?_
  refine G_if_neN (a := 0) 18 dX4_rest_9 (by decide) (by omega) (fun c9 => ?_) (fun c9 => ?_)
  · exact (show False by omega).elim
  · refine G_aload_n dX4_rest_12 rfl ?_
    refine G_iconst (v := 1) dX4_rest_13 (by decide) ?_
    refine G_callVi dX4_rest_14 kX4_rest_X4_fails ⟨rfl, rfl⟩ ⟨Nat.zero_le _, Nat.zero_le _⟩ (m_fails hΩ) rfl rfl ((hΩ _ _ _ _ _ _ _ _ _ _ _ _ _ _ _).1) rfl rfl ?_
    exact G_iret dX4_rest_17 ⟨Nat.zero_le _, Nat.zero_le _⟩ (rfl)
theorem m_rest (hΩ : MV mp p1 p2 p3 p5 p7 Ω) {th hs sg fi se t3 : Int32} {f sp sv sn bf : mj_S} {m ln i : Nat} {hh : Int64} (hm : m ≤ 6) {c : Nat} (hc : c < 6) : MC l yX4_rest wsX4_rest rmX4_rest false [.ref mp, .int (nI (c))] (Ω th f sp sv m sn hs bf ln i sg fi se t3 hh) (some (.int (s_cntA (s_setw f c (-1) (-1))))) (Ω 0 (s_setw f c (-1) (-1)) sp (s_save f sv m) (s_svm m) sn hs bf ln i sg fi se t3 hh) := by
  refine mj_MC (cc := cX4_rest) (nl := 2) (ret := (some .int)) (plainFor_of_name (by decide)) rfl (⟨_, rfl, rfl⟩) (Nat.le_of_ble_eq_true rfl) ?_
  show GG l cX4_rest MX4_rest false (.inl ((some (.int (s_cntA (s_setw f c (-1) (-1))))), Ω 0 (s_setw f c (-1) (-1)) sp (s_save f sv m) (s_svm m) sn hs bf ln i sg fi se t3 hh)) 0 [some (.ref mp), some (.int (nI (c)))] [] (Ω th f sp sv m sn hs bf ln i sg fi se t3 hh) 0 0
  refine G_aload_n dX4_rest_0 rfl ?_
  refine G_iconst (v := 0) dX4_rest_1 (by decide) ?_
  refine G_putf dX4_rest_2 pX4_rest_25 ((hΩ _ _ _ _ _ _ _ _ _ _ _ _ _ _ _).1) (fun _ => ⟨rfl, rfl⟩) (by simp [mfs]) ((hΩ _ _ _ _ _ _ _ _ _ _ _ _ _ _ _).2.2.2.2.2.2.1 _ _ _ _ _ _ _ _ _ _) ?_
  refine G_iload_n dX4_rest_5 rfl ?_
  refine G_callSi dX4_rest_6 kX4_rest_X4_isCutter ⟨rfl, rfl⟩ ⟨Nat.zero_le _, Nat.zero_le _⟩ (c_isCutter1 (rng (a := 0) (b := 5) (by omega) (by omega) (by omega))) rfl rfl rfl ?_
  refine G_if_neN (a := 1) 18 dX4_rest_9 (by decide) (by omega) (fun c9 => ?_) (fun c9 => ?_)
  · refine G_aload_n dX4_rest_18 rfl ?_
    refine G_callVv dX4_rest_19 kX4_rest_X4_save ⟨rfl, rfl⟩ ⟨Nat.zero_le _, Nat.zero_le _⟩ (m_save hΩ (by omega)) rfl rfl ((hΩ _ _ _ _ _ _ _ _ _ _ _ _ _ _ _).1) rfl rfl ?_
    refine G_aload_n dX4_rest_22 rfl ?_
    refine G_iload_n dX4_rest_23 rfl ?_
    refine G_iconst (v := (-1)) dX4_rest_24 (by decide) ?_
    refine G_iconst (v := (-1)) dX4_rest_25 (by decide) ?_
    refine G_callVv dX4_rest_26 kX4_rest_X4_setToWork ⟨rfl, rfl⟩ ⟨Nat.zero_le _, Nat.zero_le _⟩ (m_setToWork (hΩ.fv 0 sp (s_save f sv m) (s_svm m) sn hs bf ln i sg fi se t3 hh) (c := c) (by omega)) rfl rfl ((hΩ _ _ _ _ _ _ _ _ _ _ _ _ _ _ _).1) rfl rfl ?_
    refine G_aload_n dX4_rest_29 rfl ?_
    refine G_callVi dX4_rest_30 kX4_rest_X4_allWorkers ⟨rfl, rfl⟩ ⟨Nat.zero_le _, Nat.zero_le _⟩ (m_allWorkers (hΩ.fv 0 sp (s_save f sv m) (s_svm m) sn hs bf ln i sg fi se t3 hh)) rfl rfl ((hΩ _ _ _ _ _ _ _ _ _ _ _ _ _ _ _).1) rfl rfl ?_
    exact G_iret dX4_rest_33 ⟨Nat.zero_le _, Nat.zero_le _⟩ (rfl)
  · exact (show False by omega).elim
theorem m_snow (hΩ : MV mp p1 p2 p3 p5 p7 Ω) {th hs sg fi se t3 : Int32} {f sp sv sn bf : mj_S} {m ln i : Nat} {hh : Int64} (hm : m ≤ 6) : MC l yX4_snow wsX4_snow rmX4_snow false [.ref mp] (Ω th f sp sv m sn hs bf ln i sg fi se t3 hh) (some (.int (1 - f 1))) (Ω 0 (s_turn f) sp (s_save f sv m) (s_svm m) sn hs bf ln i sg fi se t3 hh) := by
  refine mj_MC (cc := cX4_snow) (nl := 1) (ret := (some .int)) (plainFor_of_name (by decide)) rfl (⟨_, rfl, rfl⟩) (Nat.le_of_ble_eq_true rfl) ?_
  show GG l cX4_snow MX4_snow false (.inl ((some (.int (1 - f 1))), Ω 0 (s_turn f) sp (s_save f sv m) (s_svm m) sn hs bf ln i sg fi se t3 hh)) 0 [some (.ref mp)] [] (Ω th f sp sv m sn hs bf ln i sg fi se t3 hh) 0 0
  refine G_aload_n dX4_snow_0 rfl ?_
  refine G_iconst (v := 0) dX4_snow_1 (by decide) ?_
  refine G_putf dX4_snow_2 pX4_snow_25 ((hΩ _ _ _ _ _ _ _ _ _ _ _ _ _ _ _).1) (fun _ => ⟨rfl, rfl⟩) (by simp [mfs]) ((hΩ _ _ _ _ _ _ _ _ _ _ _ _ _ _ _).2.2.2.2.2.2.1 _ _ _ _ _ _ _ _ _ _) ?_
  refine G_aload_n dX4_snow_5 rfl ?_
  refine G_callVv dX4_snow_6 kX4_snow_X4_save ⟨rfl, rfl⟩ ⟨Nat.zero_le _, Nat.zero_le _⟩ (m_save hΩ (by omega)) rfl rfl ((hΩ _ _ _ _ _ _ _ _ _ _ _ _ _ _ _).1) rfl rfl ?_
  refine G_aload_n dX4_snow_9 rfl ?_
  refine G_callVi dX4_snow_10 kX4_snow_X4_turnSnow ⟨rfl, rfl⟩ ⟨Nat.zero_le _, Nat.zero_le _⟩ (m_turnSnow (hΩ.fv 0 sp (s_save f sv m) (s_svm m) sn hs bf ln i sg fi se t3 hh)) rfl rfl ((hΩ _ _ _ _ _ _ _ _ _ _ _ _ _ _ _).1) rfl rfl ?_
  exact G_iret dX4_snow_13 ⟨Nat.zero_le _, Nat.zero_le _⟩ (rfl)
theorem m_pass_1 (hΩ : MV mp p1 p2 p3 p5 p7 Ω) {th hs sg fi se t3 : Int32} {f sp sv sn bf : mj_S} {m ln i : Nat} {hh : Int64} {y : Int32} (h2 : ¬ (1 ≤ y ∧ y ≤ 60)) : MC l yX4_pass wsX4_pass rmX4_pass false [.ref mp, .int y] (Ω th f sp sv m sn hs bf ln i sg fi se t3 hh) (some (.int 0)) (Ω 1 f sp sv m sn hs bf ln i sg fi se t3 hh) := by
  refine mj_MC (cc := cX4_pass) (nl := 2) (ret := (some .int)) (plainFor_of_name (by decide)) rfl (⟨_, rfl, rfl⟩) (Nat.le_of_ble_eq_true rfl) ?_
  show GG l cX4_pass MX4_pass false (.inl ((some (.int 0)), Ω 1 f sp sv m sn hs bf ln i sg fi se t3 hh)) 0 [some (.ref mp), some (.int y)] [] (Ω th f sp sv m sn hs bf ln i sg fi se t3 hh) 0 0
  refine G_aload_n dX4_pass_0 rfl ?_
  refine G_iconst (v := 0) dX4_pass_1 (by decide) ?_
  refine G_putf dX4_pass_2 pX4_pass_25 ((hΩ _ _ _ _ _ _ _ _ _ _ _ _ _ _ _).1) (fun _ => ⟨rfl, rfl⟩) (by simp [mfs]) ((hΩ _ _ _ _ _ _ _ _ _ _ _ _ _ _ _).2.2.2.2.2.2.1 _ _ _ _ _ _ _ _ _ _) ?_
  refine G_iload_n dX4_pass_5 rfl ?_
  refine G_iconst (v := 1) dX4_pass_6 (by decide) ?_
  refine G_bipush (v := 60) dX4_pass_7 (by decide) ?_
  refine G_callSi dX4_pass_9 kX4_pass_X4_within ⟨rfl, rfl⟩ ⟨Nat.zero_le _, Nat.zero_le _⟩ (c_within0 h2) rfl rfl rfl ?_
  refine G_if_neN (a := 0) 21 dX4_pass_12 (by decide) (by omega) (fun c12 => ?_) (fun c12 => ?_)
  · exact (show False by omega).elim
  · refine G_aload_n dX4_pass_15 rfl ?_
    refine G_iconst (v := 1) dX4_pass_16 (by decide) ?_
    refine G_callVi dX4_pass_17 kX4_pass_X4_fails ⟨rfl, rfl⟩ ⟨Nat.zero_le _, Nat.zero_le _⟩ (m_fails hΩ) rfl rfl ((hΩ _ _ _ _ _ _ _ _ _ _ _ _ _ _ _).1) rfl rfl ?_
    exact G_iret dX4_pass_20 ⟨Nat.zero_le _, Nat.zero_le _⟩ (rfl)
theorem m_pass (hΩ : MV mp p1 p2 p3 p5 p7 Ω) {th hs sg fi se t3 : Int32} {f sp sv sn bf : mj_S} {m ln i : Nat} {hh : Int64} (hm : m ≤ 6) {D : Nat} (ho : oA f D) (hv : vt f) (hD : D < 2147479000) {n : Nat} (hn : 1 ≤ n ∧ n ≤ 60) : MC l yX4_pass wsX4_pass rmX4_pass false [.ref mp, .int (nI (n))] (Ω th f sp sv m sn hs bf ln i sg fi se t3 hh) (some (.int (s_days n f).2)) (Ω 0 ((s_days n f).1) sp (s_save f sv m) (s_svm m) sn hs bf ln i sg fi se t3 hh) := by
  refine mj_MC (cc := cX4_pass) (nl := 2) (ret := (some .int)) (plainFor_of_name (by decide)) rfl (⟨_, rfl, rfl⟩) (Nat.le_of_ble_eq_true rfl) ?_
  show GG l cX4_pass MX4_pass false (.inl ((some (.int (s_days n f).2)), Ω 0 ((s_days n f).1) sp (s_save f sv m) (s_svm m) sn hs bf ln i sg fi se t3 hh)) 0 [some (.ref mp), some (.int (nI (n)))] [] (Ω th f sp sv m sn hs bf ln i sg fi se t3 hh) 0 0
  refine G_aload_n dX4_pass_0 rfl ?_
  refine G_iconst (v := 0) dX4_pass_1 (by decide) ?_
  refine G_putf dX4_pass_2 pX4_pass_25 ((hΩ _ _ _ _ _ _ _ _ _ _ _ _ _ _ _).1) (fun _ => ⟨rfl, rfl⟩) (by simp [mfs]) ((hΩ _ _ _ _ _ _ _ _ _ _ _ _ _ _ _).2.2.2.2.2.2.1 _ _ _ _ _ _ _ _ _ _) ?_
  refine G_iload_n dX4_pass_5 rfl ?_
  refine G_iconst (v := 1) dX4_pass_6 (by decide) ?_
  refine G_bipush (v := 60) dX4_pass_7 (by decide) ?_
  refine G_callSi dX4_pass_9 kX4_pass_X4_within ⟨rfl, rfl⟩ ⟨Nat.zero_le _, Nat.zero_le _⟩ (c_within1 (rng (a := 1) (b := 60) (by omega) (by omega) (by omega))) rfl rfl rfl ?_
  refine G_if_neN (a := 1) 21 dX4_pass_12 (by decide) (by omega) (fun c12 => ?_) (fun c12 => ?_)
  · refine G_aload_n dX4_pass_21 rfl ?_
    refine G_callVv dX4_pass_22 kX4_pass_X4_save ⟨rfl, rfl⟩ ⟨Nat.zero_le _, Nat.zero_le _⟩ (m_save hΩ (by omega)) rfl rfl ((hΩ _ _ _ _ _ _ _ _ _ _ _ _ _ _ _).1) rfl rfl ?_
    refine G_aload_n dX4_pass_25 rfl ?_
    refine G_iload_n dX4_pass_26 rfl ?_
    refine G_callVi dX4_pass_27 kX4_pass_X4_passes ⟨rfl, rfl⟩ ⟨Nat.zero_le _, Nat.zero_le _⟩ (m_passes (hΩ.fv 0 sp (s_save f sv m) (s_svm m) sn hs bf ln i sg fi se t3 hh) (n := n) ho hv (by omega)) rfl rfl ((hΩ _ _ _ _ _ _ _ _ _ _ _ _ _ _ _).1) rfl rfl ?_
    exact G_iret dX4_pass_30 ⟨Nat.zero_le _, Nat.zero_le _⟩ (rfl)
  · exact (show False by omega).elim
theorem m_set_1 (hΩ : MV mp p1 p2 p3 p5 p7 Ω) {th hs sg fi se t3 : Int32} {f sp sv sn bf : mj_S} {m ln i : Nat} {hh : Int64} {x : Int32} (h1 : ¬ (0 ≤ x ∧ x ≤ 2)) {y : Int32} : MC l yX4_set wsX4_set rmX4_set false [.ref mp, .int x, .int y] (Ω th f sp sv m sn hs bf ln i sg fi se t3 hh) (some (.int 0)) (Ω 1 f sp sv m sn hs bf ln i sg fi se t3 hh) := by
  refine mj_MC (cc := cX4_set) (nl := 4) (ret := (some .int)) (plainFor_of_name (by decide)) rfl (⟨_, rfl, rfl⟩) (Nat.le_of_ble_eq_true rfl) ?_
  show GG l cX4_set MX4_set false (.inl ((some (.int 0)), Ω 1 f sp sv m sn hs bf ln i sg fi se t3 hh)) 0 [some (.ref mp), some (.int x), some (.int y), none] [] (Ω th f sp sv m sn hs bf ln i sg fi se t3 hh) 0 0
  refine G_aload_n dX4_set_0 rfl ?_
  refine G_iconst (v := 0) dX4_set_1 (by decide) ?_
  refine G_putf dX4_set_2 pX4_set_25 ((hΩ _ _ _ _ _ _ _ _ _ _ _ _ _ _ _).1) (fun _ => ⟨rfl, rfl⟩) (by simp [mfs]) ((hΩ _ _ _ _ _ _ _ _ _ _ _ _ _ _ _).2.2.2.2.2.2.1 _ _ _ _ _ _ _ _ _ _) ?_
  refine G_iload_n dX4_set_5 rfl ?_
  refine G_iconst (v := 0) dX4_set_6 (by decide) ?_
  refine G_iconst (v := 2) dX4_set_7 (by decide) ?_
  refine G_callSi dX4_set_8 kX4_set_X4_within ⟨rfl, rfl⟩ ⟨Nat.zero_le _, Nat.zero_le _⟩ (c_within0 h1) rfl rfl rfl ?_
  refine G_if_neN (a := 0) 20 dX4_set_11 (by decide) (by omega) (fun c11 => ?_) (fun c11 => ?_)
  · exact (show False by omega).elim
  · refine G_aload_n dX4_set_14 rfl ?_
    refine G_iconst (v := 1) dX4_set_15 (by decide) ?_
    refine G_callVi dX4_set_16 kX4_set_X4_fails ⟨rfl, rfl⟩ ⟨Nat.zero_le _, Nat.zero_le _⟩ (m_fails hΩ) rfl rfl ((hΩ _ _ _ _ _ _ _ _ _ _ _ _ _ _ _).1) rfl rfl ?_
    exact G_iret dX4_set_19 ⟨Nat.zero_le _, Nat.zero_le _⟩ (rfl)
theorem m_set_20 (hΩ : MV mp p1 p2 p3 p5 p7 Ω) {th hs sg fi se t3 : Int32} {f sp sv sn bf : mj_S} {m ln i : Nat} {hh : Int64} {y : Int32} (h2 : ¬ (0 ≤ y ∧ y ≤ 9)) : MC l yX4_set wsX4_set rmX4_set false [.ref mp, .int 0, .int y] (Ω th f sp sv m sn hs bf ln i sg fi se t3 hh) (some (.int 0)) (Ω 2 f sp sv m sn hs bf ln i sg fi se t3 hh) := by
  refine mj_MC (cc := cX4_set) (nl := 4) (ret := (some .int)) (plainFor_of_name (by decide)) rfl (⟨_, rfl, rfl⟩) (Nat.le_of_ble_eq_true rfl) ?_
  show GG l cX4_set MX4_set false (.inl ((some (.int 0)), Ω 2 f sp sv m sn hs bf ln i sg fi se t3 hh)) 0 [some (.ref mp), some (.int 0), some (.int y), none] [] (Ω th f sp sv m sn hs bf ln i sg fi se t3 hh) 0 0
  refine G_aload_n dX4_set_0 rfl ?_
  refine G_iconst (v := 0) dX4_set_1 (by decide) ?_
  refine G_putf dX4_set_2 pX4_set_25 ((hΩ _ _ _ _ _ _ _ _ _ _ _ _ _ _ _).1) (fun _ => ⟨rfl, rfl⟩) (by simp [mfs]) ((hΩ _ _ _ _ _ _ _ _ _ _ _ _ _ _ _).2.2.2.2.2.2.1 _ _ _ _ _ _ _ _ _ _) ?_
  refine G_iload_n dX4_set_5 rfl ?_
  refine G_iconst (v := 0) dX4_set_6 (by decide) ?_
  refine G_iconst (v := 2) dX4_set_7 (by decide) ?_
  refine G_callSi dX4_set_8 kX4_set_X4_within ⟨rfl, rfl⟩ ⟨Nat.zero_le _, Nat.zero_le _⟩ (c_within1 (rng (a := 0) (v := 0) (b := 2) (by omega) (by omega) (by omega))) rfl rfl rfl ?_
  refine G_if_neN (a := 1) 20 dX4_set_11 (by decide) (by omega) (fun c11 => ?_) (fun c11 => ?_)
  · refine G_iload_n dX4_set_20 rfl ?_
    refine G_iload_n dX4_set_21 rfl ?_
    refine G_callSi dX4_set_22 kX4_set_X4_leastOf ⟨rfl, rfl⟩ ⟨Nat.zero_le _, Nat.zero_le _⟩ (c_leastOf0) rfl rfl rfl ?_
    refine G_iload_n dX4_set_25 rfl ?_
    refine G_callSi dX4_set_26 kX4_set_X4_mostOf ⟨rfl, rfl⟩ ⟨Nat.zero_le _, Nat.zero_le _⟩ (c_mostOf0) rfl rfl rfl ?_
    refine G_callSi dX4_set_29 kX4_set_X4_within ⟨rfl, rfl⟩ ⟨Nat.zero_le _, Nat.zero_le _⟩ (c_within0 h2) rfl rfl rfl ?_
    refine G_if_neN (a := 0) 41 dX4_set_32 (by decide) (by omega) (fun c32 => ?_) (fun c32 => ?_)
    · exact (show False by omega).elim
    · refine G_aload_n dX4_set_35 rfl ?_
      refine G_iconst (v := 2) dX4_set_36 (by decide) ?_
      refine G_callVi dX4_set_37 kX4_set_X4_fails ⟨rfl, rfl⟩ ⟨Nat.zero_le _, Nat.zero_le _⟩ (m_fails hΩ) rfl rfl ((hΩ _ _ _ _ _ _ _ _ _ _ _ _ _ _ _).1) rfl rfl ?_
      exact G_iret dX4_set_40 ⟨Nat.zero_le _, Nat.zero_le _⟩ (rfl)
  · exact (show False by omega).elim
theorem m_set0 (hΩ : MV mp p1 p2 p3 p5 p7 Ω) {th hs sg fi se t3 : Int32} {f sp sv sn bf : mj_S} {m ln i : Nat} {hh : Int64} (hm : m ≤ 6) {v : Nat} (hv : 0 ≤ v ∧ v ≤ 9) : MC l yX4_set wsX4_set rmX4_set false [.ref mp, .int 0, .int (nI (v))] (Ω th f sp sv m sn hs bf ln i sg fi se t3 hh) (some (.int (f 2))) (Ω 0 (upd f 2 (nI v)) sp (s_save f sv m) (s_svm m) sn hs bf ln i sg fi se t3 hh) := by
  refine mj_MC (cc := cX4_set) (nl := 4) (ret := (some .int)) (plainFor_of_name (by decide)) rfl (⟨_, rfl, rfl⟩) (Nat.le_of_ble_eq_true rfl) ?_
  show GG l cX4_set MX4_set false (.inl ((some (.int (f 2))), Ω 0 (upd f 2 (nI v)) sp (s_save f sv m) (s_svm m) sn hs bf ln i sg fi se t3 hh)) 0 [some (.ref mp), some (.int 0), some (.int (nI (v))), none] [] (Ω th f sp sv m sn hs bf ln i sg fi se t3 hh) 0 0
  refine G_aload_n dX4_set_0 rfl ?_
  refine G_iconst (v := 0) dX4_set_1 (by decide) ?_
  refine G_putf dX4_set_2 pX4_set_25 ((hΩ _ _ _ _ _ _ _ _ _ _ _ _ _ _ _).1) (fun _ => ⟨rfl, rfl⟩) (by simp [mfs]) ((hΩ _ _ _ _ _ _ _ _ _ _ _ _ _ _ _).2.2.2.2.2.2.1 _ _ _ _ _ _ _ _ _ _) ?_
  refine G_iload_n dX4_set_5 rfl ?_
  refine G_iconst (v := 0) dX4_set_6 (by decide) ?_
  refine G_iconst (v := 2) dX4_set_7 (by decide) ?_
  refine G_callSi dX4_set_8 kX4_set_X4_within ⟨rfl, rfl⟩ ⟨Nat.zero_le _, Nat.zero_le _⟩ (c_within1 (rng (a := 0) (v := 0) (b := 2) (by omega) (by omega) (by omega))) rfl rfl rfl ?_
  refine G_if_neN (a := 1) 20 dX4_set_11 (by decide) (by omega) (fun c11 => ?_) (fun c11 => ?_)
  · refine G_iload_n dX4_set_20 rfl ?_
    refine G_iload_n dX4_set_21 rfl ?_
    refine G_callSi dX4_set_22 kX4_set_X4_leastOf ⟨rfl, rfl⟩ ⟨Nat.zero_le _, Nat.zero_le _⟩ (c_leastOf0) rfl rfl rfl ?_
    refine G_iload_n dX4_set_25 rfl ?_
    refine G_callSi dX4_set_26 kX4_set_X4_mostOf ⟨rfl, rfl⟩ ⟨Nat.zero_le _, Nat.zero_le _⟩ (c_mostOf0) rfl rfl rfl ?_
    refine G_callSi dX4_set_29 kX4_set_X4_within ⟨rfl, rfl⟩ ⟨Nat.zero_le _, Nat.zero_le _⟩ (c_within1 (rng (a := 0) (b := 9) (by omega) (by omega) (by omega))) rfl rfl rfl ?_
    refine G_if_neN (a := 1) 41 dX4_set_32 (by decide) (by omega) (fun c32 => ?_) (fun c32 => ?_)
    · refine G_aload_n dX4_set_41 rfl ?_
      refine G_callVv dX4_set_42 kX4_set_X4_save ⟨rfl, rfl⟩ ⟨Nat.zero_le _, Nat.zero_le _⟩ (m_save hΩ (by omega)) rfl rfl ((hΩ _ _ _ _ _ _ _ _ _ _ _ _ _ _ _).1) rfl rfl ?_
      refine G_aload_n dX4_set_45 rfl ?_
      refine G_getf dX4_set_46 fX4_set_7 ((hΩ _ _ _ _ _ _ _ _ _ _ _ _ _ _ _).1) (rfl) ?_
      refine G_iconst (v := 2) dX4_set_49 (by decide) ?_
      refine G_iload_n dX4_set_50 rfl ?_
      refine G_iaddN (a := 2) (c := 0) (s := 2) dX4_set_51 (by omega) ?_
      refine G_ialdN (j := 2) dX4_set_52 ((hΩ _ _ _ _ _ _ _ _ _ _ _ _ _ _ _).2.1) (by omega) ?_
      refine G_istore_n dX4_set_53 rfl (L' := [some (.ref mp), some (.int 0), some (.int (nI (v))), some (.int (f (2)))]) rfl ?_
      refine G_aload_n dX4_set_54 rfl ?_
      refine G_getf dX4_set_55 fX4_set_7 ((hΩ _ _ _ _ _ _ _ _ _ _ _ _ _ _ _).1) (rfl) ?_
      refine G_iconst (v := 2) dX4_set_58 (by decide) ?_
      refine G_iload_n dX4_set_59 rfl ?_
      refine G_iaddN (a := 2) (c := 0) (s := 2) dX4_set_60 (by omega) ?_
      refine G_iload_n dX4_set_61 rfl ?_
      obtain ⟨f1, ef1⟩ : ∃ z : mj_S, z = upd f (2) (nI (v)) := ⟨_, rfl⟩
      refine G_iastN (j := 2) dX4_set_62 ((hΩ _ _ _ _ _ _ _ _ _ _ _ _ _ _ _).2.1) (by omega) (((hΩ _ _ _ _ _ _ _ _ _ _ _ _ _ _ _).2.2.2.2.2.2.2.1 _).trans (congrArg (fun z => Ω 0 z sp (s_save f sv m) (s_svm m) sn hs bf ln i sg fi se t3 hh) ef1.symm)) ?_
      refine G_iload_n dX4_set_63 rfl ?_
      exact G_iret dX4_set_64 ⟨Nat.zero_le _, Nat.zero_le _⟩ (by subst ef1; rfl)
    · exact (show False by omega).elim
  · exact (show False by omega).elim
theorem m_set_21 (hΩ : MV mp p1 p2 p3 p5 p7 Ω) {th hs sg fi se t3 : Int32} {f sp sv sn bf : mj_S} {m ln i : Nat} {hh : Int64} {y : Int32} (h2 : ¬ (0 ≤ y ∧ y ≤ 50)) : MC l yX4_set wsX4_set rmX4_set false [.ref mp, .int 1, .int y] (Ω th f sp sv m sn hs bf ln i sg fi se t3 hh) (some (.int 0)) (Ω 2 f sp sv m sn hs bf ln i sg fi se t3 hh) := by
  refine mj_MC (cc := cX4_set) (nl := 4) (ret := (some .int)) (plainFor_of_name (by decide)) rfl (⟨_, rfl, rfl⟩) (Nat.le_of_ble_eq_true rfl) ?_
  show GG l cX4_set MX4_set false (.inl ((some (.int 0)), Ω 2 f sp sv m sn hs bf ln i sg fi se t3 hh)) 0 [some (.ref mp), some (.int 1), some (.int y), none] [] (Ω th f sp sv m sn hs bf ln i sg fi se t3 hh) 0 0
  refine G_aload_n dX4_set_0 rfl ?_
  refine G_iconst (v := 0) dX4_set_1 (by decide) ?_
  refine G_putf dX4_set_2 pX4_set_25 ((hΩ _ _ _ _ _ _ _ _ _ _ _ _ _ _ _).1) (fun _ => ⟨rfl, rfl⟩) (by simp [mfs]) ((hΩ _ _ _ _ _ _ _ _ _ _ _ _ _ _ _).2.2.2.2.2.2.1 _ _ _ _ _ _ _ _ _ _) ?_
  refine G_iload_n dX4_set_5 rfl ?_
  refine G_iconst (v := 0) dX4_set_6 (by decide) ?_
  refine G_iconst (v := 2) dX4_set_7 (by decide) ?_
  refine G_callSi dX4_set_8 kX4_set_X4_within ⟨rfl, rfl⟩ ⟨Nat.zero_le _, Nat.zero_le _⟩ (c_within1 (rng (a := 0) (v := 1) (b := 2) (by omega) (by omega) (by omega))) rfl rfl rfl ?_
  refine G_if_neN (a := 1) 20 dX4_set_11 (by decide) (by omega) (fun c11 => ?_) (fun c11 => ?_)
  · refine G_iload_n dX4_set_20 rfl ?_
    refine G_iload_n dX4_set_21 rfl ?_
    refine G_callSi dX4_set_22 kX4_set_X4_leastOf ⟨rfl, rfl⟩ ⟨Nat.zero_le _, Nat.zero_le _⟩ (c_leastOf1) rfl rfl rfl ?_
    refine G_iload_n dX4_set_25 rfl ?_
    refine G_callSi dX4_set_26 kX4_set_X4_mostOf ⟨rfl, rfl⟩ ⟨Nat.zero_le _, Nat.zero_le _⟩ (c_mostOf1) rfl rfl rfl ?_
    refine G_callSi dX4_set_29 kX4_set_X4_within ⟨rfl, rfl⟩ ⟨Nat.zero_le _, Nat.zero_le _⟩ (c_within0 h2) rfl rfl rfl ?_
    refine G_if_neN (a := 0) 41 dX4_set_32 (by decide) (by omega) (fun c32 => ?_) (fun c32 => ?_)
    · exact (show False by omega).elim
    · refine G_aload_n dX4_set_35 rfl ?_
      refine G_iconst (v := 2) dX4_set_36 (by decide) ?_
      refine G_callVi dX4_set_37 kX4_set_X4_fails ⟨rfl, rfl⟩ ⟨Nat.zero_le _, Nat.zero_le _⟩ (m_fails hΩ) rfl rfl ((hΩ _ _ _ _ _ _ _ _ _ _ _ _ _ _ _).1) rfl rfl ?_
      exact G_iret dX4_set_40 ⟨Nat.zero_le _, Nat.zero_le _⟩ (rfl)
  · exact (show False by omega).elim
theorem m_set1 (hΩ : MV mp p1 p2 p3 p5 p7 Ω) {th hs sg fi se t3 : Int32} {f sp sv sn bf : mj_S} {m ln i : Nat} {hh : Int64} (hm : m ≤ 6) {v : Nat} (hv : 0 ≤ v ∧ v ≤ 50) : MC l yX4_set wsX4_set rmX4_set false [.ref mp, .int 1, .int (nI (v))] (Ω th f sp sv m sn hs bf ln i sg fi se t3 hh) (some (.int (f 3))) (Ω 0 (upd f 3 (nI v)) sp (s_save f sv m) (s_svm m) sn hs bf ln i sg fi se t3 hh) := by
  refine mj_MC (cc := cX4_set) (nl := 4) (ret := (some .int)) (plainFor_of_name (by decide)) rfl (⟨_, rfl, rfl⟩) (Nat.le_of_ble_eq_true rfl) ?_
  show GG l cX4_set MX4_set false (.inl ((some (.int (f 3))), Ω 0 (upd f 3 (nI v)) sp (s_save f sv m) (s_svm m) sn hs bf ln i sg fi se t3 hh)) 0 [some (.ref mp), some (.int 1), some (.int (nI (v))), none] [] (Ω th f sp sv m sn hs bf ln i sg fi se t3 hh) 0 0
  refine G_aload_n dX4_set_0 rfl ?_
  refine G_iconst (v := 0) dX4_set_1 (by decide) ?_
  refine G_putf dX4_set_2 pX4_set_25 ((hΩ _ _ _ _ _ _ _ _ _ _ _ _ _ _ _).1) (fun _ => ⟨rfl, rfl⟩) (by simp [mfs]) ((hΩ _ _ _ _ _ _ _ _ _ _ _ _ _ _ _).2.2.2.2.2.2.1 _ _ _ _ _ _ _ _ _ _) ?_
  refine G_iload_n dX4_set_5 rfl ?_
  refine G_iconst (v := 0) dX4_set_6 (by decide) ?_
  refine G_iconst (v := 2) dX4_set_7 (by decide) ?_
  refine G_callSi dX4_set_8 kX4_set_X4_within ⟨rfl, rfl⟩ ⟨Nat.zero_le _, Nat.zero_le _⟩ (c_within1 (rng (a := 0) (v := 1) (b := 2) (by omega) (by omega) (by omega))) rfl rfl rfl ?_
  refine G_if_neN (a := 1) 20 dX4_set_11 (by decide) (by omega) (fun c11 => ?_) (fun c11 => ?_)
  · refine G_iload_n dX4_set_20 rfl ?_
    refine G_iload_n dX4_set_21 rfl ?_
    refine G_callSi dX4_set_22 kX4_set_X4_leastOf ⟨rfl, rfl⟩ ⟨Nat.zero_le _, Nat.zero_le _⟩ (c_leastOf1) rfl rfl rfl ?_
    refine G_iload_n dX4_set_25 rfl ?_
    refine G_callSi dX4_set_26 kX4_set_X4_mostOf ⟨rfl, rfl⟩ ⟨Nat.zero_le _, Nat.zero_le _⟩ (c_mostOf1) rfl rfl rfl ?_
    refine G_callSi dX4_set_29 kX4_set_X4_within ⟨rfl, rfl⟩ ⟨Nat.zero_le _, Nat.zero_le _⟩ (c_within1 (rng (a := 0) (b := 50) (by omega) (by omega) (by omega))) rfl rfl rfl ?_
    refine G_if_neN (a := 1) 41 dX4_set_32 (by decide) (by omega) (fun c32 => ?_) (fun c32 => ?_)
    · refine G_aload_n dX4_set_41 rfl ?_
      refine G_callVv dX4_set_42 kX4_set_X4_save ⟨rfl, rfl⟩ ⟨Nat.zero_le _, Nat.zero_le _⟩ (m_save hΩ (by omega)) rfl rfl ((hΩ _ _ _ _ _ _ _ _ _ _ _ _ _ _ _).1) rfl rfl ?_
      refine G_aload_n dX4_set_45 rfl ?_
      refine G_getf dX4_set_46 fX4_set_7 ((hΩ _ _ _ _ _ _ _ _ _ _ _ _ _ _ _).1) (rfl) ?_
      refine G_iconst (v := 2) dX4_set_49 (by decide) ?_
      refine G_iload_n dX4_set_50 rfl ?_
      refine G_iaddN (a := 2) (c := 1) (s := 3) dX4_set_51 (by omega) ?_
      refine G_ialdN (j := 3) dX4_set_52 ((hΩ _ _ _ _ _ _ _ _ _ _ _ _ _ _ _).2.1) (by omega) ?_
      refine G_istore_n dX4_set_53 rfl (L' := [some (.ref mp), some (.int 1), some (.int (nI (v))), some (.int (f (3)))]) rfl ?_
      refine G_aload_n dX4_set_54 rfl ?_
      refine G_getf dX4_set_55 fX4_set_7 ((hΩ _ _ _ _ _ _ _ _ _ _ _ _ _ _ _).1) (rfl) ?_
      refine G_iconst (v := 2) dX4_set_58 (by decide) ?_
      refine G_iload_n dX4_set_59 rfl ?_
      refine G_iaddN (a := 2) (c := 1) (s := 3) dX4_set_60 (by omega) ?_
      refine G_iload_n dX4_set_61 rfl ?_
      obtain ⟨f1, ef1⟩ : ∃ z : mj_S, z = upd f (3) (nI (v)) := ⟨_, rfl⟩
      refine G_iastN (j := 3) dX4_set_62 ((hΩ _ _ _ _ _ _ _ _ _ _ _ _ _ _ _).2.1) (by omega) (((hΩ _ _ _ _ _ _ _ _ _ _ _ _ _ _ _).2.2.2.2.2.2.2.1 _).trans (congrArg (fun z => Ω 0 z sp (s_save f sv m) (s_svm m) sn hs bf ln i sg fi se t3 hh) ef1.symm)) ?_
      refine G_iload_n dX4_set_63 rfl ?_
      exact G_iret dX4_set_64 ⟨Nat.zero_le _, Nat.zero_le _⟩ (by subst ef1; rfl)
    · exact (show False by omega).elim
  · exact (show False by omega).elim
theorem m_set_22 (hΩ : MV mp p1 p2 p3 p5 p7 Ω) {th hs sg fi se t3 : Int32} {f sp sv sn bf : mj_S} {m ln i : Nat} {hh : Int64} {y : Int32} (h2 : ¬ (1 ≤ y ∧ y ≤ 30)) : MC l yX4_set wsX4_set rmX4_set false [.ref mp, .int 2, .int y] (Ω th f sp sv m sn hs bf ln i sg fi se t3 hh) (some (.int 0)) (Ω 2 f sp sv m sn hs bf ln i sg fi se t3 hh) := by
  refine mj_MC (cc := cX4_set) (nl := 4) (ret := (some .int)) (plainFor_of_name (by decide)) rfl (⟨_, rfl, rfl⟩) (Nat.le_of_ble_eq_true rfl) ?_
  show GG l cX4_set MX4_set false (.inl ((some (.int 0)), Ω 2 f sp sv m sn hs bf ln i sg fi se t3 hh)) 0 [some (.ref mp), some (.int 2), some (.int y), none] [] (Ω th f sp sv m sn hs bf ln i sg fi se t3 hh) 0 0
  refine G_aload_n dX4_set_0 rfl ?_
  refine G_iconst (v := 0) dX4_set_1 (by decide) ?_
  refine G_putf dX4_set_2 pX4_set_25 ((hΩ _ _ _ _ _ _ _ _ _ _ _ _ _ _ _).1) (fun _ => ⟨rfl, rfl⟩) (by simp [mfs]) ((hΩ _ _ _ _ _ _ _ _ _ _ _ _ _ _ _).2.2.2.2.2.2.1 _ _ _ _ _ _ _ _ _ _) ?_
  refine G_iload_n dX4_set_5 rfl ?_
  refine G_iconst (v := 0) dX4_set_6 (by decide) ?_
  refine G_iconst (v := 2) dX4_set_7 (by decide) ?_
  refine G_callSi dX4_set_8 kX4_set_X4_within ⟨rfl, rfl⟩ ⟨Nat.zero_le _, Nat.zero_le _⟩ (c_within1 (rng (a := 0) (v := 2) (b := 2) (by omega) (by omega) (by omega))) rfl rfl rfl ?_
  refine G_if_neN (a := 1) 20 dX4_set_11 (by decide) (by omega) (fun c11 => ?_) (fun c11 => ?_)
  · refine G_iload_n dX4_set_20 rfl ?_
    refine G_iload_n dX4_set_21 rfl ?_
    refine G_callSi dX4_set_22 kX4_set_X4_leastOf ⟨rfl, rfl⟩ ⟨Nat.zero_le _, Nat.zero_le _⟩ (c_leastOf2) rfl rfl rfl ?_
    refine G_iload_n dX4_set_25 rfl ?_
    refine G_callSi dX4_set_26 kX4_set_X4_mostOf ⟨rfl, rfl⟩ ⟨Nat.zero_le _, Nat.zero_le _⟩ (c_mostOf2) rfl rfl rfl ?_
    refine G_callSi dX4_set_29 kX4_set_X4_within ⟨rfl, rfl⟩ ⟨Nat.zero_le _, Nat.zero_le _⟩ (c_within0 h2) rfl rfl rfl ?_
    refine G_if_neN (a := 0) 41 dX4_set_32 (by decide) (by omega) (fun c32 => ?_) (fun c32 => ?_)
    · exact (show False by omega).elim
    · refine G_aload_n dX4_set_35 rfl ?_
      refine G_iconst (v := 2) dX4_set_36 (by decide) ?_
      refine G_callVi dX4_set_37 kX4_set_X4_fails ⟨rfl, rfl⟩ ⟨Nat.zero_le _, Nat.zero_le _⟩ (m_fails hΩ) rfl rfl ((hΩ _ _ _ _ _ _ _ _ _ _ _ _ _ _ _).1) rfl rfl ?_
      exact G_iret dX4_set_40 ⟨Nat.zero_le _, Nat.zero_le _⟩ (rfl)
  · exact (show False by omega).elim
theorem m_set2 (hΩ : MV mp p1 p2 p3 p5 p7 Ω) {th hs sg fi se t3 : Int32} {f sp sv sn bf : mj_S} {m ln i : Nat} {hh : Int64} (hm : m ≤ 6) {v : Nat} (hv : 1 ≤ v ∧ v ≤ 30) : MC l yX4_set wsX4_set rmX4_set false [.ref mp, .int 2, .int (nI (v))] (Ω th f sp sv m sn hs bf ln i sg fi se t3 hh) (some (.int (f 4))) (Ω 0 (upd f 4 (nI v)) sp (s_save f sv m) (s_svm m) sn hs bf ln i sg fi se t3 hh) := by
  refine mj_MC (cc := cX4_set) (nl := 4) (ret := (some .int)) (plainFor_of_name (by decide)) rfl (⟨_, rfl, rfl⟩) (Nat.le_of_ble_eq_true rfl) ?_
  show GG l cX4_set MX4_set false (.inl ((some (.int (f 4))), Ω 0 (upd f 4 (nI v)) sp (s_save f sv m) (s_svm m) sn hs bf ln i sg fi se t3 hh)) 0 [some (.ref mp), some (.int 2), some (.int (nI (v))), none] [] (Ω th f sp sv m sn hs bf ln i sg fi se t3 hh) 0 0
  refine G_aload_n dX4_set_0 rfl ?_
  refine G_iconst (v := 0) dX4_set_1 (by decide) ?_
  refine G_putf dX4_set_2 pX4_set_25 ((hΩ _ _ _ _ _ _ _ _ _ _ _ _ _ _ _).1) (fun _ => ⟨rfl, rfl⟩) (by simp [mfs]) ((hΩ _ _ _ _ _ _ _ _ _ _ _ _ _ _ _).2.2.2.2.2.2.1 _ _ _ _ _ _ _ _ _ _) ?_
  refine G_iload_n dX4_set_5 rfl ?_
  refine G_iconst (v := 0) dX4_set_6 (by decide) ?_
  refine G_iconst (v := 2) dX4_set_7 (by decide) ?_
  refine G_callSi dX4_set_8 kX4_set_X4_within ⟨rfl, rfl⟩ ⟨Nat.zero_le _, Nat.zero_le _⟩ (c_within1 (rng (a := 0) (v := 2) (b := 2) (by omega) (by omega) (by omega))) rfl rfl rfl ?_
  refine G_if_neN (a := 1) 20 dX4_set_11 (by decide) (by omega) (fun c11 => ?_) (fun c11 => ?_)
  · refine G_iload_n dX4_set_20 rfl ?_
    refine G_iload_n dX4_set_21 rfl ?_
    refine G_callSi dX4_set_22 kX4_set_X4_leastOf ⟨rfl, rfl⟩ ⟨Nat.zero_le _, Nat.zero_le _⟩ (c_leastOf2) rfl rfl rfl ?_
    refine G_iload_n dX4_set_25 rfl ?_
    refine G_callSi dX4_set_26 kX4_set_X4_mostOf ⟨rfl, rfl⟩ ⟨Nat.zero_le _, Nat.zero_le _⟩ (c_mostOf2) rfl rfl rfl ?_
    refine G_callSi dX4_set_29 kX4_set_X4_within ⟨rfl, rfl⟩ ⟨Nat.zero_le _, Nat.zero_le _⟩ (c_within1 (rng (a := 1) (b := 30) (by omega) (by omega) (by omega))) rfl rfl rfl ?_
    refine G_if_neN (a := 1) 41 dX4_set_32 (by decide) (by omega) (fun c32 => ?_) (fun c32 => ?_)
    · refine G_aload_n dX4_set_41 rfl ?_
      refine G_callVv dX4_set_42 kX4_set_X4_save ⟨rfl, rfl⟩ ⟨Nat.zero_le _, Nat.zero_le _⟩ (m_save hΩ (by omega)) rfl rfl ((hΩ _ _ _ _ _ _ _ _ _ _ _ _ _ _ _).1) rfl rfl ?_
      refine G_aload_n dX4_set_45 rfl ?_
      refine G_getf dX4_set_46 fX4_set_7 ((hΩ _ _ _ _ _ _ _ _ _ _ _ _ _ _ _).1) (rfl) ?_
      refine G_iconst (v := 2) dX4_set_49 (by decide) ?_
      refine G_iload_n dX4_set_50 rfl ?_
      refine G_iaddN (a := 2) (c := 2) (s := 4) dX4_set_51 (by omega) ?_
      refine G_ialdN (j := 4) dX4_set_52 ((hΩ _ _ _ _ _ _ _ _ _ _ _ _ _ _ _).2.1) (by omega) ?_
      refine G_istore_n dX4_set_53 rfl (L' := [some (.ref mp), some (.int 2), some (.int (nI (v))), some (.int (f (4)))]) rfl ?_
      refine G_aload_n dX4_set_54 rfl ?_
      refine G_getf dX4_set_55 fX4_set_7 ((hΩ _ _ _ _ _ _ _ _ _ _ _ _ _ _ _).1) (rfl) ?_
      refine G_iconst (v := 2) dX4_set_58 (by decide) ?_
      refine G_iload_n dX4_set_59 rfl ?_
      refine G_iaddN (a := 2) (c := 2) (s := 4) dX4_set_60 (by omega) ?_
      refine G_iload_n dX4_set_61 rfl ?_
      obtain ⟨f1, ef1⟩ : ∃ z : mj_S, z = upd f (4) (nI (v)) := ⟨_, rfl⟩
      refine G_iastN (j := 4) dX4_set_62 ((hΩ _ _ _ _ _ _ _ _ _ _ _ _ _ _ _).2.1) (by omega) (((hΩ _ _ _ _ _ _ _ _ _ _ _ _ _ _ _).2.2.2.2.2.2.2.1 _).trans (congrArg (fun z => Ω 0 z sp (s_save f sv m) (s_svm m) sn hs bf ln i sg fi se t3 hh) ef1.symm)) ?_
      refine G_iload_n dX4_set_63 rfl ?_
      exact G_iret dX4_set_64 ⟨Nat.zero_le _, Nat.zero_le _⟩ (by subst ef1; rfl)
    · exact (show False by omega).elim
  · exact (show False by omega).elim
theorem m_hearthOf_1 (hΩ : MV mp p1 p2 p3 p5 p7 Ω) {th hs sg fi se t3 : Int32} {f sp sv sn bf : mj_S} {m ln i : Nat} {hh : Int64} {x : Int32} (h1 : ¬ (0 ≤ x ∧ x ≤ 4)) {y : Int32} : MC l yX4_hearthOf wsX4_hearthOf rmX4_hearthOf false [.ref mp, .int x, .int y] (Ω th f sp sv m sn hs bf ln i sg fi se t3 hh) (some (.int 0)) (Ω 1 f sp sv m sn hs bf ln i sg fi se t3 hh) := by
  refine mj_MC (cc := cX4_hearthOf) (nl := 3) (ret := (some .int)) (plainFor_of_name (by decide)) rfl (⟨_, rfl, rfl⟩) (Nat.le_of_ble_eq_true rfl) ?_
  show GG l cX4_hearthOf MX4_hearthOf false (.inl ((some (.int 0)), Ω 1 f sp sv m sn hs bf ln i sg fi se t3 hh)) 0 [some (.ref mp), some (.int x), some (.int y)] [] (Ω th f sp sv m sn hs bf ln i sg fi se t3 hh) 0 0
  refine G_aload_n dX4_hearthOf_0 rfl ?_
  refine G_iconst (v := 0) dX4_hearthOf_1 (by decide) ?_
  refine G_putf dX4_hearthOf_2 pX4_hearthOf_25 ((hΩ _ _ _ _ _ _ _ _ _ _ _ _ _ _ _).1) (fun _ => ⟨rfl, rfl⟩) (by simp [mfs]) ((hΩ _ _ _ _ _ _ _ _ _ _ _ _ _ _ _).2.2.2.2.2.2.1 _ _ _ _ _ _ _ _ _ _) ?_
  refine G_iload_n dX4_hearthOf_5 rfl ?_
  refine G_callSi dX4_hearthOf_6 kX4_hearthOf_X4_isHearth ⟨rfl, rfl⟩ ⟨Nat.zero_le _, Nat.zero_le _⟩ (c_isHearth0 h1) rfl rfl rfl ?_
  refine G_if_neN (a := 0) 18 dX4_hearthOf_9 (by decide) (by omega) (fun c9 => ?_) (fun c9 => ?_)
  · exact (show False by omega).elim
  · refine G_aload_n dX4_hearthOf_12 rfl ?_
    refine G_iconst (v := 1) dX4_hearthOf_13 (by decide) ?_
    refine G_callVi dX4_hearthOf_14 kX4_hearthOf_X4_fails ⟨rfl, rfl⟩ ⟨Nat.zero_le _, Nat.zero_le _⟩ (m_fails hΩ) rfl rfl ((hΩ _ _ _ _ _ _ _ _ _ _ _ _ _ _ _).1) rfl rfl ?_
    exact G_iret dX4_hearthOf_17 ⟨Nat.zero_le _, Nat.zero_le _⟩ (rfl)
theorem m_hearthOf_2 (hΩ : MV mp p1 p2 p3 p5 p7 Ω) {th hs sg fi se t3 : Int32} {f sp sv sn bf : mj_S} {m ln i : Nat} {hh : Int64} {h : Nat} (hh5 : h < 5) {y : Int32} (h2 : ¬ (0 ≤ y ∧ y ≤ 11)) : MC l yX4_hearthOf wsX4_hearthOf rmX4_hearthOf false [.ref mp, .int (nI (h)), .int y] (Ω th f sp sv m sn hs bf ln i sg fi se t3 hh) (some (.int 0)) (Ω 2 f sp sv m sn hs bf ln i sg fi se t3 hh) := by
  refine mj_MC (cc := cX4_hearthOf) (nl := 3) (ret := (some .int)) (plainFor_of_name (by decide)) rfl (⟨_, rfl, rfl⟩) (Nat.le_of_ble_eq_true rfl) ?_
  show GG l cX4_hearthOf MX4_hearthOf false (.inl ((some (.int 0)), Ω 2 f sp sv m sn hs bf ln i sg fi se t3 hh)) 0 [some (.ref mp), some (.int (nI (h))), some (.int y)] [] (Ω th f sp sv m sn hs bf ln i sg fi se t3 hh) 0 0
  refine G_aload_n dX4_hearthOf_0 rfl ?_
  refine G_iconst (v := 0) dX4_hearthOf_1 (by decide) ?_
  refine G_putf dX4_hearthOf_2 pX4_hearthOf_25 ((hΩ _ _ _ _ _ _ _ _ _ _ _ _ _ _ _).1) (fun _ => ⟨rfl, rfl⟩) (by simp [mfs]) ((hΩ _ _ _ _ _ _ _ _ _ _ _ _ _ _ _).2.2.2.2.2.2.1 _ _ _ _ _ _ _ _ _ _) ?_
  refine G_iload_n dX4_hearthOf_5 rfl ?_
  refine G_callSi dX4_hearthOf_6 kX4_hearthOf_X4_isHearth ⟨rfl, rfl⟩ ⟨Nat.zero_le _, Nat.zero_le _⟩ (c_isHearth1 (rng (a := 0) (b := 4) (by omega) (by omega) (by omega))) rfl rfl rfl ?_
  refine G_if_neN (a := 1) 18 dX4_hearthOf_9 (by decide) (by omega) (fun c9 => ?_) (fun c9 => ?_)
  · refine G_iload_n dX4_hearthOf_18 rfl ?_
    refine G_iconst (v := 0) dX4_hearthOf_19 (by decide) ?_
    refine G_bipush (v := 11) dX4_hearthOf_20 (by decide) ?_
    refine G_callSi dX4_hearthOf_22 kX4_hearthOf_X4_within ⟨rfl, rfl⟩ ⟨Nat.zero_le _, Nat.zero_le _⟩ (c_within0 h2) rfl rfl rfl ?_
    refine G_if_eqN (a := 0) 37 dX4_hearthOf_25 (by decide) (by omega) (fun c25 => ?_) (fun c25 => ?_)
    · refine G_aload_n dX4_hearthOf_37 rfl ?_
      refine G_iconst (v := 2) dX4_hearthOf_38 (by decide) ?_
      refine G_callVi dX4_hearthOf_39 kX4_hearthOf_X4_fails ⟨rfl, rfl⟩ ⟨Nat.zero_le _, Nat.zero_le _⟩ (m_fails hΩ) rfl rfl ((hΩ _ _ _ _ _ _ _ _ _ _ _ _ _ _ _).1) rfl rfl ?_
      exact G_iret dX4_hearthOf_42 ⟨Nat.zero_le _, Nat.zero_le _⟩ (rfl)
    · exact (show False by omega).elim
  · exact (show False by omega).elim
theorem m_hearthOf (hΩ : MV mp p1 p2 p3 p5 p7 Ω) {th hs sg fi se t3 : Int32} {f sp sv sn bf : mj_S} {m ln i : Nat} {hh : Int64} {h : Nat} (hh5 : h < 5) {k : Nat} (hk : k < 12) : MC l yX4_hearthOf wsX4_hearthOf rmX4_hearthOf false [.ref mp, .int (nI (h)), .int (nI (k))] (Ω th f sp sv m sn hs bf ln i sg fi se t3 hh) (some (.int (s_ofH f h k))) (Ω 0 f sp sv m sn hs bf ln i sg fi se t3 hh) := by
  refine mj_MC (cc := cX4_hearthOf) (nl := 3) (ret := (some .int)) (plainFor_of_name (by decide)) rfl (⟨_, rfl, rfl⟩) (Nat.le_of_ble_eq_true rfl) ?_
  show GG l cX4_hearthOf MX4_hearthOf false (.inl ((some (.int (s_ofH f h k))), Ω 0 f sp sv m sn hs bf ln i sg fi se t3 hh)) 0 [some (.ref mp), some (.int (nI (h))), some (.int (nI (k)))] [] (Ω th f sp sv m sn hs bf ln i sg fi se t3 hh) 0 0
  refine G_aload_n dX4_hearthOf_0 rfl ?_
  refine G_iconst (v := 0) dX4_hearthOf_1 (by decide) ?_
  refine G_putf dX4_hearthOf_2 pX4_hearthOf_25 ((hΩ _ _ _ _ _ _ _ _ _ _ _ _ _ _ _).1) (fun _ => ⟨rfl, rfl⟩) (by simp [mfs]) ((hΩ _ _ _ _ _ _ _ _ _ _ _ _ _ _ _).2.2.2.2.2.2.1 _ _ _ _ _ _ _ _ _ _) ?_
  refine G_iload_n dX4_hearthOf_5 rfl ?_
  refine G_callSi dX4_hearthOf_6 kX4_hearthOf_X4_isHearth ⟨rfl, rfl⟩ ⟨Nat.zero_le _, Nat.zero_le _⟩ (c_isHearth1 (rng (a := 0) (b := 4) (by omega) (by omega) (by omega))) rfl rfl rfl ?_
  refine G_if_neN (a := 1) 18 dX4_hearthOf_9 (by decide) (by omega) (fun c9 => ?_) (fun c9 => ?_)
  · refine G_iload_n dX4_hearthOf_18 rfl ?_
    refine G_iconst (v := 0) dX4_hearthOf_19 (by decide) ?_
    refine G_bipush (v := 11) dX4_hearthOf_20 (by decide) ?_
    refine G_callSi dX4_hearthOf_22 kX4_hearthOf_X4_within ⟨rfl, rfl⟩ ⟨Nat.zero_le _, Nat.zero_le _⟩ (c_within1 (rng (a := 0) (b := 11) (by omega) (by omega) (by omega))) rfl rfl rfl ?_
    refine G_if_eqN (a := 1) 37 dX4_hearthOf_25 (by decide) (by omega) (fun c25 => ?_) (fun c25 => ?_)
    · exact (show False by omega).elim
    · refine G_aload_n dX4_hearthOf_28 rfl ?_
      refine G_iload_n dX4_hearthOf_29 rfl ?_
      refine G_iload_n dX4_hearthOf_30 rfl ?_
      refine G_callVi dX4_hearthOf_31 kX4_hearthOf_X4_tellsHearth ⟨rfl, rfl⟩ ⟨Nat.zero_le _, Nat.zero_le _⟩ (m_tellsHearth (hΩ.fv 0 sp sv m sn hs bf ln i sg fi se t3 hh) (h := h) (by omega) (w := k) (by omega)) rfl rfl ((hΩ _ _ _ _ _ _ _ _ _ _ _ _ _ _ _).1) rfl rfl ?_
      refine G_goto 42 dX4_hearthOf_34 (by decide) ?_
      exact G_iret dX4_hearthOf_42 ⟨Nat.zero_le _, Nat.zero_le _⟩ (rfl)
  · exact (show False by omega).elim
theorem m_bankOf_1 (hΩ : MV mp p1 p2 p3 p5 p7 Ω) {th hs sg fi se t3 : Int32} {f sp sv sn bf : mj_S} {m ln i : Nat} {hh : Int64} {x : Int32} (h1 : ¬ (0 ≤ x ∧ x ≤ 3)) {y : Int32} : MC l yX4_bankOf wsX4_bankOf rmX4_bankOf false [.ref mp, .int x, .int y] (Ω th f sp sv m sn hs bf ln i sg fi se t3 hh) (some (.int 0)) (Ω 1 f sp sv m sn hs bf ln i sg fi se t3 hh) := by
  refine mj_MC (cc := cX4_bankOf) (nl := 3) (ret := (some .int)) (plainFor_of_name (by decide)) rfl (⟨_, rfl, rfl⟩) (Nat.le_of_ble_eq_true rfl) ?_
  show GG l cX4_bankOf MX4_bankOf false (.inl ((some (.int 0)), Ω 1 f sp sv m sn hs bf ln i sg fi se t3 hh)) 0 [some (.ref mp), some (.int x), some (.int y)] [] (Ω th f sp sv m sn hs bf ln i sg fi se t3 hh) 0 0
  refine G_aload_n dX4_bankOf_0 rfl ?_
  refine G_iconst (v := 0) dX4_bankOf_1 (by decide) ?_
  refine G_putf dX4_bankOf_2 pX4_bankOf_25 ((hΩ _ _ _ _ _ _ _ _ _ _ _ _ _ _ _).1) (fun _ => ⟨rfl, rfl⟩) (by simp [mfs]) ((hΩ _ _ _ _ _ _ _ _ _ _ _ _ _ _ _).2.2.2.2.2.2.1 _ _ _ _ _ _ _ _ _ _) ?_
  refine G_iload_n dX4_bankOf_5 rfl ?_
  refine G_callSi dX4_bankOf_6 kX4_bankOf_X4_isBank ⟨rfl, rfl⟩ ⟨Nat.zero_le _, Nat.zero_le _⟩ (c_isBank0 h1) rfl rfl rfl ?_
  refine G_if_neN (a := 0) 18 dX4_bankOf_9 (by decide) (by omega) (fun c9 => ?_) (fun c9 => ?_)
  · exact (show False by omega).elim
  · refine G_aload_n dX4_bankOf_12 rfl ?_
    refine G_iconst (v := 1) dX4_bankOf_13 (by decide) ?_
    refine G_callVi dX4_bankOf_14 kX4_bankOf_X4_fails ⟨rfl, rfl⟩ ⟨Nat.zero_le _, Nat.zero_le _⟩ (m_fails hΩ) rfl rfl ((hΩ _ _ _ _ _ _ _ _ _ _ _ _ _ _ _).1) rfl rfl ?_
    exact G_iret dX4_bankOf_17 ⟨Nat.zero_le _, Nat.zero_le _⟩ (rfl)
theorem m_bankOf_2 (hΩ : MV mp p1 p2 p3 p5 p7 Ω) {th hs sg fi se t3 : Int32} {f sp sv sn bf : mj_S} {m ln i : Nat} {hh : Int64} {b : Nat} (hb : b < 4) {y : Int32} (h2 : ¬ (0 ≤ y ∧ y ≤ 4)) : MC l yX4_bankOf wsX4_bankOf rmX4_bankOf false [.ref mp, .int (nI (b)), .int y] (Ω th f sp sv m sn hs bf ln i sg fi se t3 hh) (some (.int 0)) (Ω 2 f sp sv m sn hs bf ln i sg fi se t3 hh) := by
  refine mj_MC (cc := cX4_bankOf) (nl := 3) (ret := (some .int)) (plainFor_of_name (by decide)) rfl (⟨_, rfl, rfl⟩) (Nat.le_of_ble_eq_true rfl) ?_
  show GG l cX4_bankOf MX4_bankOf false (.inl ((some (.int 0)), Ω 2 f sp sv m sn hs bf ln i sg fi se t3 hh)) 0 [some (.ref mp), some (.int (nI (b))), some (.int y)] [] (Ω th f sp sv m sn hs bf ln i sg fi se t3 hh) 0 0
  refine G_aload_n dX4_bankOf_0 rfl ?_
  refine G_iconst (v := 0) dX4_bankOf_1 (by decide) ?_
  refine G_putf dX4_bankOf_2 pX4_bankOf_25 ((hΩ _ _ _ _ _ _ _ _ _ _ _ _ _ _ _).1) (fun _ => ⟨rfl, rfl⟩) (by simp [mfs]) ((hΩ _ _ _ _ _ _ _ _ _ _ _ _ _ _ _).2.2.2.2.2.2.1 _ _ _ _ _ _ _ _ _ _) ?_
  refine G_iload_n dX4_bankOf_5 rfl ?_
  refine G_callSi dX4_bankOf_6 kX4_bankOf_X4_isBank ⟨rfl, rfl⟩ ⟨Nat.zero_le _, Nat.zero_le _⟩ (c_isBank1 (rng (a := 0) (b := 3) (by omega) (by omega) (by omega))) rfl rfl rfl ?_
  refine G_if_neN (a := 1) 18 dX4_bankOf_9 (by decide) (by omega) (fun c9 => ?_) (fun c9 => ?_)
  · refine G_iload_n dX4_bankOf_18 rfl ?_
    refine G_iconst (v := 0) dX4_bankOf_19 (by decide) ?_
    refine G_iconst (v := 4) dX4_bankOf_20 (by decide) ?_
    refine G_callSi dX4_bankOf_21 kX4_bankOf_X4_within ⟨rfl, rfl⟩ ⟨Nat.zero_le _, Nat.zero_le _⟩ (c_within0 h2) rfl rfl rfl ?_
    refine G_if_eqN (a := 0) 36 dX4_bankOf_24 (by decide) (by omega) (fun c24 => ?_) (fun c24 => ?_)
    · refine G_aload_n dX4_bankOf_36 rfl ?_
      refine G_iconst (v := 2) dX4_bankOf_37 (by decide) ?_
      refine G_callVi dX4_bankOf_38 kX4_bankOf_X4_fails ⟨rfl, rfl⟩ ⟨Nat.zero_le _, Nat.zero_le _⟩ (m_fails hΩ) rfl rfl ((hΩ _ _ _ _ _ _ _ _ _ _ _ _ _ _ _).1) rfl rfl ?_
      exact G_iret dX4_bankOf_41 ⟨Nat.zero_le _, Nat.zero_le _⟩ (rfl)
    · exact (show False by omega).elim
  · exact (show False by omega).elim
theorem m_bankOf (hΩ : MV mp p1 p2 p3 p5 p7 Ω) {th hs sg fi se t3 : Int32} {f sp sv sn bf : mj_S} {m ln i : Nat} {hh : Int64} {b : Nat} (hb : b < 4) {k : Nat} (hk : k < 5) : MC l yX4_bankOf wsX4_bankOf rmX4_bankOf false [.ref mp, .int (nI (b)), .int (nI (k))] (Ω th f sp sv m sn hs bf ln i sg fi se t3 hh) (some (.int (s_ofB (s_com f) f b k))) (Ω 0 f sp sv m sn hs bf ln i sg fi se t3 hh) := by
  refine mj_MC (cc := cX4_bankOf) (nl := 3) (ret := (some .int)) (plainFor_of_name (by decide)) rfl (⟨_, rfl, rfl⟩) (Nat.le_of_ble_eq_true rfl) ?_
  show GG l cX4_bankOf MX4_bankOf false (.inl ((some (.int (s_ofB (s_com f) f b k))), Ω 0 f sp sv m sn hs bf ln i sg fi se t3 hh)) 0 [some (.ref mp), some (.int (nI (b))), some (.int (nI (k)))] [] (Ω th f sp sv m sn hs bf ln i sg fi se t3 hh) 0 0
  refine G_aload_n dX4_bankOf_0 rfl ?_
  refine G_iconst (v := 0) dX4_bankOf_1 (by decide) ?_
  refine G_putf dX4_bankOf_2 pX4_bankOf_25 ((hΩ _ _ _ _ _ _ _ _ _ _ _ _ _ _ _).1) (fun _ => ⟨rfl, rfl⟩) (by simp [mfs]) ((hΩ _ _ _ _ _ _ _ _ _ _ _ _ _ _ _).2.2.2.2.2.2.1 _ _ _ _ _ _ _ _ _ _) ?_
  refine G_iload_n dX4_bankOf_5 rfl ?_
  refine G_callSi dX4_bankOf_6 kX4_bankOf_X4_isBank ⟨rfl, rfl⟩ ⟨Nat.zero_le _, Nat.zero_le _⟩ (c_isBank1 (rng (a := 0) (b := 3) (by omega) (by omega) (by omega))) rfl rfl rfl ?_
  refine G_if_neN (a := 1) 18 dX4_bankOf_9 (by decide) (by omega) (fun c9 => ?_) (fun c9 => ?_)
  · refine G_iload_n dX4_bankOf_18 rfl ?_
    refine G_iconst (v := 0) dX4_bankOf_19 (by decide) ?_
    refine G_iconst (v := 4) dX4_bankOf_20 (by decide) ?_
    refine G_callSi dX4_bankOf_21 kX4_bankOf_X4_within ⟨rfl, rfl⟩ ⟨Nat.zero_le _, Nat.zero_le _⟩ (c_within1 (rng (a := 0) (b := 4) (by omega) (by omega) (by omega))) rfl rfl rfl ?_
    refine G_if_eqN (a := 1) 36 dX4_bankOf_24 (by decide) (by omega) (fun c24 => ?_) (fun c24 => ?_)
    · exact (show False by omega).elim
    · refine G_aload_n dX4_bankOf_27 rfl ?_
      refine G_iload_n dX4_bankOf_28 rfl ?_
      refine G_iload_n dX4_bankOf_29 rfl ?_
      refine G_callVi dX4_bankOf_30 kX4_bankOf_X4_tellsBank ⟨rfl, rfl⟩ ⟨Nat.zero_le _, Nat.zero_le _⟩ (m_tellsBank (hΩ.fv 0 sp sv m sn hs bf ln i sg fi se t3 hh) (b := b) (by omega) (w := k) (by omega)) rfl rfl ((hΩ _ _ _ _ _ _ _ _ _ _ _ _ _ _ _).1) rfl rfl ?_
      refine G_goto 41 dX4_bankOf_33 (by decide) ?_
      exact G_iret dX4_bankOf_41 ⟨Nat.zero_le _, Nat.zero_le _⟩ (rfl)
  · exact (show False by omega).elim
theorem m_plot_1h (hΩ : MV mp p1 p2 p3 p5 p7 Ω) {th hs sg fi se t3 : Int32} {f sp sv sn bf : mj_S} {m ln i : Nat} {hh : Int64} {x : Int32} (h1 : ¬ (0 ≤ x ∧ x ≤ 4)) {y z : Int32} : MC l yX4_plot wsX4_plot rmX4_plot false [.ref mp, .int x, .int y, .int z] (Ω th f sp sv m sn hs bf ln i sg fi se t3 hh) (some (.int 0)) (Ω 1 f sp sv m sn hs bf ln i sg fi se t3 hh) := by
  refine mj_MC (cc := cX4_plot) (nl := 4) (ret := (some .int)) (plainFor_of_name (by decide)) rfl (⟨_, rfl, rfl⟩) (Nat.le_of_ble_eq_true rfl) ?_
  show GG l cX4_plot MX4_plot false (.inl ((some (.int 0)), Ω 1 f sp sv m sn hs bf ln i sg fi se t3 hh)) 0 [some (.ref mp), some (.int x), some (.int y), some (.int z)] [] (Ω th f sp sv m sn hs bf ln i sg fi se t3 hh) 0 0
  refine G_aload_n dX4_plot_0 rfl ?_
  refine G_iconst (v := 0) dX4_plot_1 (by decide) ?_
  refine G_putf dX4_plot_2 pX4_plot_25 ((hΩ _ _ _ _ _ _ _ _ _ _ _ _ _ _ _).1) (fun _ => ⟨rfl, rfl⟩) (by simp [mfs]) ((hΩ _ _ _ _ _ _ _ _ _ _ _ _ _ _ _).2.2.2.2.2.2.1 _ _ _ _ _ _ _ _ _ _) ?_
  refine G_iload_n dX4_plot_5 rfl ?_
  refine G_callSi dX4_plot_6 kX4_plot_X4_isHearth ⟨rfl, rfl⟩ ⟨Nat.zero_le _, Nat.zero_le _⟩ (c_isHearth0 h1) rfl rfl rfl ?_
  refine G_if_eqN (a := 0) 19 dX4_plot_9 (by decide) (by omega) (fun c9 => ?_) (fun c9 => ?_)
  · refine G_aload_n dX4_plot_19 rfl ?_
    refine G_iconst (v := 1) dX4_plot_20 (by decide) ?_
    refine G_callVi dX4_plot_21 kX4_plot_X4_fails ⟨rfl, rfl⟩ ⟨Nat.zero_le _, Nat.zero_le _⟩ (m_fails hΩ) rfl rfl ((hΩ _ _ _ _ _ _ _ _ _ _ _ _ _ _ _).1) rfl rfl ?_
    exact G_iret dX4_plot_24 ⟨Nat.zero_le _, Nat.zero_le _⟩ (rfl)
  · exact (show False by omega).elim
theorem m_plot_1b (hΩ : MV mp p1 p2 p3 p5 p7 Ω) {th hs sg fi se t3 : Int32} {f sp sv sn bf : mj_S} {m ln i : Nat} {hh : Int64} {h : Nat} (hh5 : h < 5) {y : Int32} (h2 : ¬ (0 ≤ y ∧ y ≤ 3)) {z : Int32} : MC l yX4_plot wsX4_plot rmX4_plot false [.ref mp, .int (nI (h)), .int y, .int z] (Ω th f sp sv m sn hs bf ln i sg fi se t3 hh) (some (.int 0)) (Ω 1 f sp sv m sn hs bf ln i sg fi se t3 hh) := by
  refine mj_MC (cc := cX4_plot) (nl := 4) (ret := (some .int)) (plainFor_of_name (by decide)) rfl (⟨_, rfl, rfl⟩) (Nat.le_of_ble_eq_true rfl) ?_
  show GG l cX4_plot MX4_plot false (.inl ((some (.int 0)), Ω 1 f sp sv m sn hs bf ln i sg fi se t3 hh)) 0 [some (.ref mp), some (.int (nI (h))), some (.int y), some (.int z)] [] (Ω th f sp sv m sn hs bf ln i sg fi se t3 hh) 0 0
  refine G_aload_n dX4_plot_0 rfl ?_
  refine G_iconst (v := 0) dX4_plot_1 (by decide) ?_
  refine G_putf dX4_plot_2 pX4_plot_25 ((hΩ _ _ _ _ _ _ _ _ _ _ _ _ _ _ _).1) (fun _ => ⟨rfl, rfl⟩) (by simp [mfs]) ((hΩ _ _ _ _ _ _ _ _ _ _ _ _ _ _ _).2.2.2.2.2.2.1 _ _ _ _ _ _ _ _ _ _) ?_
  refine G_iload_n dX4_plot_5 rfl ?_
  refine G_callSi dX4_plot_6 kX4_plot_X4_isHearth ⟨rfl, rfl⟩ ⟨Nat.zero_le _, Nat.zero_le _⟩ (c_isHearth1 (rng (a := 0) (b := 4) (by omega) (by omega) (by omega))) rfl rfl rfl ?_
  refine G_if_eqN (a := 1) 19 dX4_plot_9 (by decide) (by omega) (fun c9 => ?_) (fun c9 => ?_)
  · exact (show False by omega).elim
  · refine G_iload_n dX4_plot_12 rfl ?_
    refine G_callSi dX4_plot_13 kX4_plot_X4_isBank ⟨rfl, rfl⟩ ⟨Nat.zero_le _, Nat.zero_le _⟩ (c_isBank0 h2) rfl rfl rfl ?_
    refine G_if_neN (a := 0) 25 dX4_plot_16 (by decide) (by omega) (fun c16 => ?_) (fun c16 => ?_)
    · exact (show False by omega).elim
    · refine G_aload_n dX4_plot_19 rfl ?_
      refine G_iconst (v := 1) dX4_plot_20 (by decide) ?_
      refine G_callVi dX4_plot_21 kX4_plot_X4_fails ⟨rfl, rfl⟩ ⟨Nat.zero_le _, Nat.zero_le _⟩ (m_fails hΩ) rfl rfl ((hΩ _ _ _ _ _ _ _ _ _ _ _ _ _ _ _).1) rfl rfl ?_
      exact G_iret dX4_plot_24 ⟨Nat.zero_le _, Nat.zero_le _⟩ (rfl)
theorem m_plot_2 (hΩ : MV mp p1 p2 p3 p5 p7 Ω) {th hs sg fi se t3 : Int32} {f sp sv sn bf : mj_S} {m ln i : Nat} {hh : Int64} {h : Nat} (hh5 : h < 5) {b : Nat} (hb : b < 4) {y : Int32} (h2 : ¬ (0 ≤ y ∧ y ≤ 4)) : MC l yX4_plot wsX4_plot rmX4_plot false [.ref mp, .int (nI (h)), .int (nI (b)), .int y] (Ω th f sp sv m sn hs bf ln i sg fi se t3 hh) (some (.int 0)) (Ω 2 f sp sv m sn hs bf ln i sg fi se t3 hh) := by
  refine mj_MC (cc := cX4_plot) (nl := 4) (ret := (some .int)) (plainFor_of_name (by decide)) rfl (⟨_, rfl, rfl⟩) (Nat.le_of_ble_eq_true rfl) ?_
  show GG l cX4_plot MX4_plot false (.inl ((some (.int 0)), Ω 2 f sp sv m sn hs bf ln i sg fi se t3 hh)) 0 [some (.ref mp), some (.int (nI (h))), some (.int (nI (b))), some (.int y)] [] (Ω th f sp sv m sn hs bf ln i sg fi se t3 hh) 0 0
  refine G_aload_n dX4_plot_0 rfl ?_
  refine G_iconst (v := 0) dX4_plot_1 (by decide) ?_
  refine G_putf dX4_plot_2 pX4_plot_25 ((hΩ _ _ _ _ _ _ _ _ _ _ _ _ _ _ _).1) (fun _ => ⟨rfl, rfl⟩) (by simp [mfs]) ((hΩ _ _ _ _ _ _ _ _ _ _ _ _ _ _ _).2.2.2.2.2.2.1 _ _ _ _ _ _ _ _ _ _) ?_
  refine G_iload_n dX4_plot_5 rfl ?_
  refine G_callSi dX4_plot_6 kX4_plot_X4_isHearth ⟨rfl, rfl⟩ ⟨Nat.zero_le _, Nat.zero_le _⟩ (c_isHearth1 (rng (a := 0) (b := 4) (by omega) (by omega) (by omega))) rfl rfl rfl ?_
  refine G_if_eqN (a := 1) 19 dX4_plot_9 (by decide) (by omega) (fun c9 => ?_) (fun c9 => ?_)
  · exact (show False by omega).elim
  · refine G_iload_n dX4_plot_12 rfl ?_
    refine G_callSi dX4_plot_13 kX4_plot_X4_isBank ⟨rfl, rfl⟩ ⟨Nat.zero_le _, Nat.zero_le _⟩ (c_isBank1 (rng (a := 0) (b := 3) (by omega) (by omega) (by omega))) rfl rfl rfl ?_
    refine G_if_neN (a := 1) 25 dX4_plot_16 (by decide) (by omega) (fun c16 => ?_) (fun c16 => ?_)
    · refine G_iload_n dX4_plot_25 rfl ?_
      refine G_iconst (v := 0) dX4_plot_26 (by decide) ?_
      refine G_iconst (v := 4) dX4_plot_27 (by decide) ?_
      refine G_callSi dX4_plot_28 kX4_plot_X4_within ⟨rfl, rfl⟩ ⟨Nat.zero_le _, Nat.zero_le _⟩ (c_within0 h2) rfl rfl rfl ?_
      refine G_if_eqN (a := 0) 44 dX4_plot_31 (by decide) (by omega) (fun c31 => ?_) (fun c31 => ?_)
      · refine G_aload_n dX4_plot_44 rfl ?_
        refine G_iconst (v := 2) dX4_plot_45 (by decide) ?_
        refine G_callVi dX4_plot_46 kX4_plot_X4_fails ⟨rfl, rfl⟩ ⟨Nat.zero_le _, Nat.zero_le _⟩ (m_fails hΩ) rfl rfl ((hΩ _ _ _ _ _ _ _ _ _ _ _ _ _ _ _).1) rfl rfl ?_
        exact G_iret dX4_plot_49 ⟨Nat.zero_le _, Nat.zero_le _⟩ (rfl)
      · exact (show False by omega).elim
    · exact (show False by omega).elim
theorem m_plot (hΩ : MV mp p1 p2 p3 p5 p7 Ω) {th hs sg fi se t3 : Int32} {f sp sv sn bf : mj_S} {m ln i : Nat} {hh : Int64} {h : Nat} (hh5 : h < 5) {b : Nat} (hb : b < 4) {k : Nat} (hk : k < 5) : MC l yX4_plot wsX4_plot rmX4_plot false [.ref mp, .int (nI (h)), .int (nI (b)), .int (nI (k))] (Ω th f sp sv m sn hs bf ln i sg fi se t3 hh) (some (.int (s_ofP f h b k))) (Ω 0 f sp sv m sn hs bf ln i sg fi se t3 hh) := by
  refine mj_MC (cc := cX4_plot) (nl := 4) (ret := (some .int)) (plainFor_of_name (by decide)) rfl (⟨_, rfl, rfl⟩) (Nat.le_of_ble_eq_true rfl) ?_
  show GG l cX4_plot MX4_plot false (.inl ((some (.int (s_ofP f h b k))), Ω 0 f sp sv m sn hs bf ln i sg fi se t3 hh)) 0 [some (.ref mp), some (.int (nI (h))), some (.int (nI (b))), some (.int (nI (k)))] [] (Ω th f sp sv m sn hs bf ln i sg fi se t3 hh) 0 0
  refine G_aload_n dX4_plot_0 rfl ?_
  refine G_iconst (v := 0) dX4_plot_1 (by decide) ?_
  refine G_putf dX4_plot_2 pX4_plot_25 ((hΩ _ _ _ _ _ _ _ _ _ _ _ _ _ _ _).1) (fun _ => ⟨rfl, rfl⟩) (by simp [mfs]) ((hΩ _ _ _ _ _ _ _ _ _ _ _ _ _ _ _).2.2.2.2.2.2.1 _ _ _ _ _ _ _ _ _ _) ?_
  refine G_iload_n dX4_plot_5 rfl ?_
  refine G_callSi dX4_plot_6 kX4_plot_X4_isHearth ⟨rfl, rfl⟩ ⟨Nat.zero_le _, Nat.zero_le _⟩ (c_isHearth1 (rng (a := 0) (b := 4) (by omega) (by omega) (by omega))) rfl rfl rfl ?_
  refine G_if_eqN (a := 1) 19 dX4_plot_9 (by decide) (by omega) (fun c9 => ?_) (fun c9 => ?_)
  · exact (show False by omega).elim
  · refine G_iload_n dX4_plot_12 rfl ?_
    refine G_callSi dX4_plot_13 kX4_plot_X4_isBank ⟨rfl, rfl⟩ ⟨Nat.zero_le _, Nat.zero_le _⟩ (c_isBank1 (rng (a := 0) (b := 3) (by omega) (by omega) (by omega))) rfl rfl rfl ?_
    refine G_if_neN (a := 1) 25 dX4_plot_16 (by decide) (by omega) (fun c16 => ?_) (fun c16 => ?_)
    · refine G_iload_n dX4_plot_25 rfl ?_
      refine G_iconst (v := 0) dX4_plot_26 (by decide) ?_
      refine G_iconst (v := 4) dX4_plot_27 (by decide) ?_
      refine G_callSi dX4_plot_28 kX4_plot_X4_within ⟨rfl, rfl⟩ ⟨Nat.zero_le _, Nat.zero_le _⟩ (c_within1 (rng (a := 0) (b := 4) (by omega) (by omega) (by omega))) rfl rfl rfl ?_
      refine G_if_eqN (a := 1) 44 dX4_plot_31 (by decide) (by omega) (fun c31 => ?_) (fun c31 => ?_)
      · exact (show False by omega).elim
      · refine G_aload_n dX4_plot_34 rfl ?_
        refine G_iload_n dX4_plot_35 rfl ?_
        refine G_iload_n dX4_plot_36 rfl ?_
        refine G_iload_n dX4_plot_37 rfl ?_
        refine G_callVi dX4_plot_38 kX4_plot_X4_tellsPlot ⟨rfl, rfl⟩ ⟨Nat.zero_le _, Nat.zero_le _⟩ (m_tellsPlot (hΩ.fv 0 sp sv m sn hs bf ln i sg fi se t3 hh) (h := h) (b := b) (by omega) (by omega) (w := k) (by omega)) rfl rfl ((hΩ _ _ _ _ _ _ _ _ _ _ _ _ _ _ _).1) rfl rfl ?_
        refine G_goto 49 dX4_plot_41 (by decide) ?_
        exact G_iret dX4_plot_49 ⟨Nat.zero_le _, Nat.zero_le _⟩ (rfl)
    · exact (show False by omega).elim
theorem m_cutter_1 (hΩ : MV mp p1 p2 p3 p5 p7 Ω) {th hs sg fi se t3 : Int32} {f sp sv sn bf : mj_S} {m ln i : Nat} {hh : Int64} {x : Int32} (h1 : ¬ (0 ≤ x ∧ x ≤ 5)) {y : Int32} : MC l yX4_cutter wsX4_cutter rmX4_cutter false [.ref mp, .int x, .int y] (Ω th f sp sv m sn hs bf ln i sg fi se t3 hh) (some (.int 0)) (Ω 1 f sp sv m sn hs bf ln i sg fi se t3 hh) := by
  refine mj_MC (cc := cX4_cutter) (nl := 3) (ret := (some .int)) (plainFor_of_name (by decide)) rfl (⟨_, rfl, rfl⟩) (Nat.le_of_ble_eq_true rfl) ?_
  show GG l cX4_cutter MX4_cutter false (.inl ((some (.int 0)), Ω 1 f sp sv m sn hs bf ln i sg fi se t3 hh)) 0 [some (.ref mp), some (.int x), some (.int y)] [] (Ω th f sp sv m sn hs bf ln i sg fi se t3 hh) 0 0
  refine G_aload_n dX4_cutter_0 rfl ?_
  refine G_iconst (v := 0) dX4_cutter_1 (by decide) ?_
  refine G_putf dX4_cutter_2 pX4_cutter_25 ((hΩ _ _ _ _ _ _ _ _ _ _ _ _ _ _ _).1) (fun _ => ⟨rfl, rfl⟩) (by simp [mfs]) ((hΩ _ _ _ _ _ _ _ _ _ _ _ _ _ _ _).2.2.2.2.2.2.1 _ _ _ _ _ _ _ _ _ _) ?_
  refine G_iload_n dX4_cutter_5 rfl ?_
  refine G_callSi dX4_cutter_6 kX4_cutter_X4_isCutter ⟨rfl, rfl⟩ ⟨Nat.zero_le _, Nat.zero_le _⟩ (c_isCutter0 h1) rfl rfl rfl ?_
  refine G_if_neN (a := 0) 18 dX4_cutter_9 (by decide) (by omega) (fun c9 => ?_) (fun c9 => ?_)
  · exact (show False by omega).elim
  · refine G_aload_n dX4_cutter_12 rfl ?_
    refine G_iconst (v := 1) dX4_cutter_13 (by decide) ?_
    refine G_callVi dX4_cutter_14 kX4_cutter_X4_fails ⟨rfl, rfl⟩ ⟨Nat.zero_le _, Nat.zero_le _⟩ (m_fails hΩ) rfl rfl ((hΩ _ _ _ _ _ _ _ _ _ _ _ _ _ _ _).1) rfl rfl ?_
    exact G_iret dX4_cutter_17 ⟨Nat.zero_le _, Nat.zero_le _⟩ (rfl)
theorem m_cutter_2 (hΩ : MV mp p1 p2 p3 p5 p7 Ω) {th hs sg fi se t3 : Int32} {f sp sv sn bf : mj_S} {m ln i : Nat} {hh : Int64} {c : Nat} (hc : c < 6) {y : Int32} (h2 : ¬ (0 ≤ y ∧ y ≤ 3)) : MC l yX4_cutter wsX4_cutter rmX4_cutter false [.ref mp, .int (nI (c)), .int y] (Ω th f sp sv m sn hs bf ln i sg fi se t3 hh) (some (.int 0)) (Ω 2 f sp sv m sn hs bf ln i sg fi se t3 hh) := by
  refine mj_MC (cc := cX4_cutter) (nl := 3) (ret := (some .int)) (plainFor_of_name (by decide)) rfl (⟨_, rfl, rfl⟩) (Nat.le_of_ble_eq_true rfl) ?_
  show GG l cX4_cutter MX4_cutter false (.inl ((some (.int 0)), Ω 2 f sp sv m sn hs bf ln i sg fi se t3 hh)) 0 [some (.ref mp), some (.int (nI (c))), some (.int y)] [] (Ω th f sp sv m sn hs bf ln i sg fi se t3 hh) 0 0
  refine G_aload_n dX4_cutter_0 rfl ?_
  refine G_iconst (v := 0) dX4_cutter_1 (by decide) ?_
  refine G_putf dX4_cutter_2 pX4_cutter_25 ((hΩ _ _ _ _ _ _ _ _ _ _ _ _ _ _ _).1) (fun _ => ⟨rfl, rfl⟩) (by simp [mfs]) ((hΩ _ _ _ _ _ _ _ _ _ _ _ _ _ _ _).2.2.2.2.2.2.1 _ _ _ _ _ _ _ _ _ _) ?_
  refine G_iload_n dX4_cutter_5 rfl ?_
  refine G_callSi dX4_cutter_6 kX4_cutter_X4_isCutter ⟨rfl, rfl⟩ ⟨Nat.zero_le _, Nat.zero_le _⟩ (c_isCutter1 (rng (a := 0) (b := 5) (by omega) (by omega) (by omega))) rfl rfl rfl ?_
  refine G_if_neN (a := 1) 18 dX4_cutter_9 (by decide) (by omega) (fun c9 => ?_) (fun c9 => ?_)
  · refine G_iload_n dX4_cutter_18 rfl ?_
    refine G_iconst (v := 0) dX4_cutter_19 (by decide) ?_
    refine G_iconst (v := 3) dX4_cutter_20 (by decide) ?_
    refine G_callSi dX4_cutter_21 kX4_cutter_X4_within ⟨rfl, rfl⟩ ⟨Nat.zero_le _, Nat.zero_le _⟩ (c_within0 h2) rfl rfl rfl ?_
    refine G_if_eqN (a := 0) 36 dX4_cutter_24 (by decide) (by omega) (fun c24 => ?_) (fun c24 => ?_)
    · refine G_aload_n dX4_cutter_36 rfl ?_
      refine G_iconst (v := 2) dX4_cutter_37 (by decide) ?_
      refine G_callVi dX4_cutter_38 kX4_cutter_X4_fails ⟨rfl, rfl⟩ ⟨Nat.zero_le _, Nat.zero_le _⟩ (m_fails hΩ) rfl rfl ((hΩ _ _ _ _ _ _ _ _ _ _ _ _ _ _ _).1) rfl rfl ?_
      exact G_iret dX4_cutter_41 ⟨Nat.zero_le _, Nat.zero_le _⟩ (rfl)
    · exact (show False by omega).elim
  · exact (show False by omega).elim
theorem m_cutter (hΩ : MV mp p1 p2 p3 p5 p7 Ω) {th hs sg fi se t3 : Int32} {f sp sv sn bf : mj_S} {m ln i : Nat} {hh : Int64} {c : Nat} (hc : c < 6) {k : Nat} (hk : k < 4) : MC l yX4_cutter wsX4_cutter rmX4_cutter false [.ref mp, .int (nI (c)), .int (nI (k))] (Ω th f sp sv m sn hs bf ln i sg fi se t3 hh) (some (.int (f (133 + 6 * k + c)))) (Ω 0 f sp sv m sn hs bf ln i sg fi se t3 hh) := by
  refine mj_MC (cc := cX4_cutter) (nl := 3) (ret := (some .int)) (plainFor_of_name (by decide)) rfl (⟨_, rfl, rfl⟩) (Nat.le_of_ble_eq_true rfl) ?_
  show GG l cX4_cutter MX4_cutter false (.inl ((some (.int (f (133 + 6 * k + c)))), Ω 0 f sp sv m sn hs bf ln i sg fi se t3 hh)) 0 [some (.ref mp), some (.int (nI (c))), some (.int (nI (k)))] [] (Ω th f sp sv m sn hs bf ln i sg fi se t3 hh) 0 0
  refine G_aload_n dX4_cutter_0 rfl ?_
  refine G_iconst (v := 0) dX4_cutter_1 (by decide) ?_
  refine G_putf dX4_cutter_2 pX4_cutter_25 ((hΩ _ _ _ _ _ _ _ _ _ _ _ _ _ _ _).1) (fun _ => ⟨rfl, rfl⟩) (by simp [mfs]) ((hΩ _ _ _ _ _ _ _ _ _ _ _ _ _ _ _).2.2.2.2.2.2.1 _ _ _ _ _ _ _ _ _ _) ?_
  refine G_iload_n dX4_cutter_5 rfl ?_
  refine G_callSi dX4_cutter_6 kX4_cutter_X4_isCutter ⟨rfl, rfl⟩ ⟨Nat.zero_le _, Nat.zero_le _⟩ (c_isCutter1 (rng (a := 0) (b := 5) (by omega) (by omega) (by omega))) rfl rfl rfl ?_
  refine G_if_neN (a := 1) 18 dX4_cutter_9 (by decide) (by omega) (fun c9 => ?_) (fun c9 => ?_)
  · refine G_iload_n dX4_cutter_18 rfl ?_
    refine G_iconst (v := 0) dX4_cutter_19 (by decide) ?_
    refine G_iconst (v := 3) dX4_cutter_20 (by decide) ?_
    refine G_callSi dX4_cutter_21 kX4_cutter_X4_within ⟨rfl, rfl⟩ ⟨Nat.zero_le _, Nat.zero_le _⟩ (c_within1 (rng (a := 0) (b := 3) (by omega) (by omega) (by omega))) rfl rfl rfl ?_
    refine G_if_eqN (a := 1) 36 dX4_cutter_24 (by decide) (by omega) (fun c24 => ?_) (fun c24 => ?_)
    · exact (show False by omega).elim
    · refine G_aload_n dX4_cutter_27 rfl ?_
      refine G_iload_n dX4_cutter_28 rfl ?_
      refine G_iload_n dX4_cutter_29 rfl ?_
      refine G_callVi dX4_cutter_30 kX4_cutter_X4_tellsCutter ⟨rfl, rfl⟩ ⟨Nat.zero_le _, Nat.zero_le _⟩ (m_tellsCutter (hΩ.fv 0 sp sv m sn hs bf ln i sg fi se t3 hh) (c := c) (w := k) (by omega) (by omega)) rfl rfl ((hΩ _ _ _ _ _ _ _ _ _ _ _ _ _ _ _).1) rfl rfl ?_
      refine G_goto 41 dX4_cutter_33 (by decide) ?_
      exact G_iret dX4_cutter_41 ⟨Nat.zero_le _, Nat.zero_le _⟩ (rfl)
  · exact (show False by omega).elim
theorem m_rain_1 (hΩ : MV mp p1 p2 p3 p5 p7 Ω) {th hs sg fi se t3 : Int32} {f sp sv sn bf : mj_S} {m ln i : Nat} {hh : Int64} {x : Int32} (h1 : x < 0) : MC l yX4_rain wsX4_rain rmX4_rain false [.ref mp, .int x] (Ω th f sp sv m sn hs bf ln i sg fi se t3 hh) (some (.int 0)) (Ω 1 f sp sv m sn hs bf ln i sg fi se t3 hh) := by
  refine mj_MC (cc := cX4_rain) (nl := 2) (ret := (some .int)) (plainFor_of_name (by decide)) rfl (⟨_, rfl, rfl⟩) (Nat.le_of_ble_eq_true rfl) ?_
  show GG l cX4_rain MX4_rain false (.inl ((some (.int 0)), Ω 1 f sp sv m sn hs bf ln i sg fi se t3 hh)) 0 [some (.ref mp), some (.int x)] [] (Ω th f sp sv m sn hs bf ln i sg fi se t3 hh) 0 0
  refine G_aload_n dX4_rain_0 rfl ?_
  refine G_iconst (v := 0) dX4_rain_1 (by decide) ?_
  refine G_putf dX4_rain_2 pX4_rain_25 ((hΩ _ _ _ _ _ _ _ _ _ _ _ _ _ _ _).1) (fun _ => ⟨rfl, rfl⟩) (by simp [mfs]) ((hΩ _ _ _ _ _ _ _ _ _ _ _ _ _ _ _).2.2.2.2.2.2.1 _ _ _ _ _ _ _ _ _ _) ?_
  refine G_iload_n dX4_rain_5 rfl ?_
  refine G_if_ge 17 dX4_rain_6 (by decide) (fun c6 => ?_) (fun c6 => ?_)
  · exact absurd h1 (Int32.not_lt.mpr c6)
  · refine G_aload_n dX4_rain_9 rfl ?_
    refine G_iconst (v := 1) dX4_rain_10 (by decide) ?_
    refine G_callVi dX4_rain_11 kX4_rain_X4_fails ⟨rfl, rfl⟩ ⟨Nat.zero_le _, Nat.zero_le _⟩ (m_fails hΩ) rfl rfl ((hΩ _ _ _ _ _ _ _ _ _ _ _ _ _ _ _).1) rfl rfl ?_
    refine G_goto 22 dX4_rain_14 (by decide) ?_
    exact G_iret dX4_rain_22 ⟨Nat.zero_le _, Nat.zero_le _⟩ (rfl)
theorem m_rain (hΩ : MV mp p1 p2 p3 p5 p7 Ω) {th hs sg fi se t3 : Int32} {f sp sv sn bf : mj_S} {m ln i : Nat} {hh : Int64} {d si : Nat} (hd : d < 2147483648) (hsi : f 2 = nI si) (hsi9 : si ≤ 9) : MC l yX4_rain wsX4_rain rmX4_rain false [.ref mp, .int (nI (d))] (Ω th f sp sv m sn hs bf ln i sg fi se t3 hh) (some (.int (nI (s_rain f d)))) (Ω 0 f sp sv m sn hs bf ln i sg fi se t3 hh) := by
  refine mj_MC (cc := cX4_rain) (nl := 2) (ret := (some .int)) (plainFor_of_name (by decide)) rfl (⟨_, rfl, rfl⟩) (Nat.le_of_ble_eq_true rfl) ?_
  show GG l cX4_rain MX4_rain false (.inl ((some (.int (nI (s_rain f d)))), Ω 0 f sp sv m sn hs bf ln i sg fi se t3 hh)) 0 [some (.ref mp), some (.int (nI (d)))] [] (Ω th f sp sv m sn hs bf ln i sg fi se t3 hh) 0 0
  refine G_aload_n dX4_rain_0 rfl ?_
  refine G_iconst (v := 0) dX4_rain_1 (by decide) ?_
  refine G_putf dX4_rain_2 pX4_rain_25 ((hΩ _ _ _ _ _ _ _ _ _ _ _ _ _ _ _).1) (fun _ => ⟨rfl, rfl⟩) (by simp [mfs]) ((hΩ _ _ _ _ _ _ _ _ _ _ _ _ _ _ _).2.2.2.2.2.2.1 _ _ _ _ _ _ _ _ _ _) ?_
  refine G_iload_n dX4_rain_5 rfl ?_
  refine G_if_geN (a := d) 17 dX4_rain_6 (by decide) (by omega) ?_
  refine G_aload_n dX4_rain_17 rfl ?_
  refine G_iload_n dX4_rain_18 rfl ?_
  refine G_callVi dX4_rain_19 kX4_rain_X4_rainOf ⟨rfl, rfl⟩ ⟨Nat.zero_le _, Nat.zero_le _⟩ (m_rainOf (hΩ.fv 0 sp sv m sn hs bf ln i sg fi se t3 hh) (d := d) (sg := si) (by omega) hsi hsi9) rfl rfl ((hΩ _ _ _ _ _ _ _ _ _ _ _ _ _ _ _).1) rfl rfl ?_
  exact G_iret dX4_rain_22 ⟨Nat.zero_le _, Nat.zero_le _⟩ (rfl)
theorem m_count_1 (hΩ : MV mp p1 p2 p3 p5 p7 Ω) {th hs sg fi se t3 : Int32} {f sp sv sn bf : mj_S} {m ln i : Nat} {hh : Int64} {y : Int32} (h2 : ¬ (0 ≤ y ∧ y ≤ 12)) : MC l yX4_count wsX4_count rmX4_count false [.ref mp, .int y] (Ω th f sp sv m sn hs bf ln i sg fi se t3 hh) (some (.int 0)) (Ω 1 f sp sv m sn hs bf ln i sg fi se t3 hh) := by
  refine mj_MC (cc := cX4_count) (nl := 2) (ret := (some .int)) (plainFor_of_name (by decide)) rfl (⟨_, rfl, rfl⟩) (Nat.le_of_ble_eq_true rfl) ?_
  show GG l cX4_count MX4_count false (.inl ((some (.int 0)), Ω 1 f sp sv m sn hs bf ln i sg fi se t3 hh)) 0 [some (.ref mp), some (.int y)] [] (Ω th f sp sv m sn hs bf ln i sg fi se t3 hh) 0 0
  refine G_aload_n dX4_count_0 rfl ?_
  refine G_iconst (v := 0) dX4_count_1 (by decide) ?_
  refine G_putf dX4_count_2 pX4_count_25 ((hΩ _ _ _ _ _ _ _ _ _ _ _ _ _ _ _).1) (fun _ => ⟨rfl, rfl⟩) (by simp [mfs]) ((hΩ _ _ _ _ _ _ _ _ _ _ _ _ _ _ _).2.2.2.2.2.2.1 _ _ _ _ _ _ _ _ _ _) ?_
  refine G_iload_n dX4_count_5 rfl ?_
  refine G_iconst (v := 0) dX4_count_6 (by decide) ?_
  refine G_bipush (v := 12) dX4_count_7 (by decide) ?_
  refine G_callSi dX4_count_9 kX4_count_X4_within ⟨rfl, rfl⟩ ⟨Nat.zero_le _, Nat.zero_le _⟩ (c_within0 h2) rfl rfl rfl ?_
  refine G_if_eqN (a := 0) 23 dX4_count_12 (by decide) (by omega) (fun c12 => ?_) (fun c12 => ?_)
  · refine G_aload_n dX4_count_23 rfl ?_
    refine G_iconst (v := 1) dX4_count_24 (by decide) ?_
    refine G_callVi dX4_count_25 kX4_count_X4_fails ⟨rfl, rfl⟩ ⟨Nat.zero_le _, Nat.zero_le _⟩ (m_fails hΩ) rfl rfl ((hΩ _ _ _ _ _ _ _ _ _ _ _ _ _ _ _).1) rfl rfl ?_
    exact G_iret dX4_count_28 ⟨Nat.zero_le _, Nat.zero_le _⟩ (rfl)
  · exact (show False by omega).elim
theorem m_count (hΩ : MV mp p1 p2 p3 p5 p7 Ω) {th hs sg fi se t3 : Int32} {f sp sv sn bf : mj_S} {m ln i : Nat} {hh : Int64} {k : Nat} (hk : k < 13) (hm : m ≤ 6) : MC l yX4_count wsX4_count rmX4_count false [.ref mp, .int (nI (k))] (Ω th f sp sv m sn hs bf ln i sg fi se t3 hh) (some (.int (s_ofC f m k))) (Ω 0 f sp sv m sn hs bf ln i sg fi se t3 hh) := by
  refine mj_MC (cc := cX4_count) (nl := 2) (ret := (some .int)) (plainFor_of_name (by decide)) rfl (⟨_, rfl, rfl⟩) (Nat.le_of_ble_eq_true rfl) ?_
  show GG l cX4_count MX4_count false (.inl ((some (.int (s_ofC f m k))), Ω 0 f sp sv m sn hs bf ln i sg fi se t3 hh)) 0 [some (.ref mp), some (.int (nI (k)))] [] (Ω th f sp sv m sn hs bf ln i sg fi se t3 hh) 0 0
  refine G_aload_n dX4_count_0 rfl ?_
  refine G_iconst (v := 0) dX4_count_1 (by decide) ?_
  refine G_putf dX4_count_2 pX4_count_25 ((hΩ _ _ _ _ _ _ _ _ _ _ _ _ _ _ _).1) (fun _ => ⟨rfl, rfl⟩) (by simp [mfs]) ((hΩ _ _ _ _ _ _ _ _ _ _ _ _ _ _ _).2.2.2.2.2.2.1 _ _ _ _ _ _ _ _ _ _) ?_
  refine G_iload_n dX4_count_5 rfl ?_
  refine G_iconst (v := 0) dX4_count_6 (by decide) ?_
  refine G_bipush (v := 12) dX4_count_7 (by decide) ?_
  refine G_callSi dX4_count_9 kX4_count_X4_within ⟨rfl, rfl⟩ ⟨Nat.zero_le _, Nat.zero_le _⟩ (c_within1 (rng (a := 0) (b := 12) (by omega) (by omega) (by omega))) rfl rfl rfl ?_
  refine G_if_eqN (a := 1) 23 dX4_count_12 (by decide) (by omega) (fun c12 => ?_) (fun c12 => ?_)
  · exact (show False by omega).elim
  · refine G_aload_n dX4_count_15 rfl ?_
    refine G_iload_n dX4_count_16 rfl ?_
    refine G_callVi dX4_count_17 kX4_count_X4_tellsCount ⟨rfl, rfl⟩ ⟨Nat.zero_le _, Nat.zero_le _⟩ (m_tellsCount hΩ (w := k) (by omega)) rfl rfl ((hΩ _ _ _ _ _ _ _ _ _ _ _ _ _ _ _).1) rfl rfl ?_
    refine G_goto 28 dX4_count_20 (by decide) ?_
    exact G_iret dX4_count_28 ⟨Nat.zero_le _, Nat.zero_le _⟩ (rfl)
theorem m_ifPassed_1d (hΩ : MV mp p1 p2 p3 p5 p7 Ω) {th hs sg fi se t3 : Int32} {f sp sv sn bf : mj_S} {m ln i : Nat} {hh : Int64} {x : Int32} (h1 : ¬ (1 ≤ x ∧ x ≤ 60)) {y : Int32} : MC l yX4_ifPassed wsX4_ifPassed rmX4_ifPassed false [.ref mp, .int x, .int y] (Ω th f sp sv m sn hs bf ln i sg fi se t3 hh) (some (.int 0)) (Ω 1 f sp sv m sn hs bf ln i sg fi se t3 hh) := by
  refine mj_MC (cc := cX4_ifPassed) (nl := 3) (ret := (some .int)) (plainFor_of_name (by decide)) rfl (⟨_, rfl, rfl⟩) (Nat.le_of_ble_eq_true rfl) ?_
  show GG l cX4_ifPassed MX4_ifPassed false (.inl ((some (.int 0)), Ω 1 f sp sv m sn hs bf ln i sg fi se t3 hh)) 0 [some (.ref mp), some (.int x), some (.int y)] [] (Ω th f sp sv m sn hs bf ln i sg fi se t3 hh) 0 0
  refine G_aload_n dX4_ifPassed_0 rfl ?_
  refine G_iconst (v := 0) dX4_ifPassed_1 (by decide) ?_
  refine G_putf dX4_ifPassed_2 pX4_ifPassed_25 ((hΩ _ _ _ _ _ _ _ _ _ _ _ _ _ _ _).1) (fun _ => ⟨rfl, rfl⟩) (by simp [mfs]) ((hΩ _ _ _ _ _ _ _ _ _ _ _ _ _ _ _).2.2.2.2.2.2.1 _ _ _ _ _ _ _ _ _ _) ?_
  refine G_iload_n dX4_ifPassed_5 rfl ?_
  refine G_iconst (v := 1) dX4_ifPassed_6 (by decide) ?_
  refine G_bipush (v := 60) dX4_ifPassed_7 (by decide) ?_
  refine G_callSi dX4_ifPassed_9 kX4_ifPassed_X4_within ⟨rfl, rfl⟩ ⟨Nat.zero_le _, Nat.zero_le _⟩ (c_within0 h1) rfl rfl rfl ?_
  refine G_if_eqN (a := 0) 33 dX4_ifPassed_12 (by decide) (by omega) (fun c12 => ?_) (fun c12 => ?_)
  · refine G_aload_n dX4_ifPassed_33 rfl ?_
    refine G_iconst (v := 1) dX4_ifPassed_34 (by decide) ?_
    refine G_callVi dX4_ifPassed_35 kX4_ifPassed_X4_fails ⟨rfl, rfl⟩ ⟨Nat.zero_le _, Nat.zero_le _⟩ (m_fails hΩ) rfl rfl ((hΩ _ _ _ _ _ _ _ _ _ _ _ _ _ _ _).1) rfl rfl ?_
    exact G_iret dX4_ifPassed_38 ⟨Nat.zero_le _, Nat.zero_le _⟩ (rfl)
  · exact (show False by omega).elim
theorem m_ifPassed_1w (hΩ : MV mp p1 p2 p3 p5 p7 Ω) {th hs sg fi se t3 : Int32} {f sp sv sn bf : mj_S} {m ln i : Nat} {hh : Int64} {n : Nat} (hn : 1 ≤ n ∧ n ≤ 60) {y : Int32} (h2 : ¬ (0 ≤ y ∧ y ≤ 2)) : MC l yX4_ifPassed wsX4_ifPassed rmX4_ifPassed false [.ref mp, .int (nI (n)), .int y] (Ω th f sp sv m sn hs bf ln i sg fi se t3 hh) (some (.int 0)) (Ω 1 f sp sv m sn hs bf ln i sg fi se t3 hh) := by
  refine mj_MC (cc := cX4_ifPassed) (nl := 3) (ret := (some .int)) (plainFor_of_name (by decide)) rfl (⟨_, rfl, rfl⟩) (Nat.le_of_ble_eq_true rfl) ?_
  show GG l cX4_ifPassed MX4_ifPassed false (.inl ((some (.int 0)), Ω 1 f sp sv m sn hs bf ln i sg fi se t3 hh)) 0 [some (.ref mp), some (.int (nI (n))), some (.int y)] [] (Ω th f sp sv m sn hs bf ln i sg fi se t3 hh) 0 0
  refine G_aload_n dX4_ifPassed_0 rfl ?_
  refine G_iconst (v := 0) dX4_ifPassed_1 (by decide) ?_
  refine G_putf dX4_ifPassed_2 pX4_ifPassed_25 ((hΩ _ _ _ _ _ _ _ _ _ _ _ _ _ _ _).1) (fun _ => ⟨rfl, rfl⟩) (by simp [mfs]) ((hΩ _ _ _ _ _ _ _ _ _ _ _ _ _ _ _).2.2.2.2.2.2.1 _ _ _ _ _ _ _ _ _ _) ?_
  refine G_iload_n dX4_ifPassed_5 rfl ?_
  refine G_iconst (v := 1) dX4_ifPassed_6 (by decide) ?_
  refine G_bipush (v := 60) dX4_ifPassed_7 (by decide) ?_
  refine G_callSi dX4_ifPassed_9 kX4_ifPassed_X4_within ⟨rfl, rfl⟩ ⟨Nat.zero_le _, Nat.zero_le _⟩ (c_within1 (rng (a := 1) (b := 60) (by omega) (by omega) (by omega))) rfl rfl rfl ?_
  refine G_if_eqN (a := 1) 33 dX4_ifPassed_12 (by decide) (by omega) (fun c12 => ?_) (fun c12 => ?_)
  · exact (show False by omega).elim
  · refine G_iload_n dX4_ifPassed_15 rfl ?_
    refine G_iconst (v := 0) dX4_ifPassed_16 (by decide) ?_
    refine G_iconst (v := 2) dX4_ifPassed_17 (by decide) ?_
    refine G_callSi dX4_ifPassed_18 kX4_ifPassed_X4_within ⟨rfl, rfl⟩ ⟨Nat.zero_le _, Nat.zero_le _⟩ (c_within0 h2) rfl rfl rfl ?_
    refine G_if_eqN (a := 0) 33 dX4_ifPassed_21 (by decide) (by omega) (fun c21 => ?_) (fun c21 => ?_)
    · refine G_aload_n dX4_ifPassed_33 rfl ?_
      refine G_iconst (v := 1) dX4_ifPassed_34 (by decide) ?_
      refine G_callVi dX4_ifPassed_35 kX4_ifPassed_X4_fails ⟨rfl, rfl⟩ ⟨Nat.zero_le _, Nat.zero_le _⟩ (m_fails hΩ) rfl rfl ((hΩ _ _ _ _ _ _ _ _ _ _ _ _ _ _ _).1) rfl rfl ?_
      exact G_iret dX4_ifPassed_38 ⟨Nat.zero_le _, Nat.zero_le _⟩ (rfl)
    · exact (show False by omega).elim
theorem m_ifPassed (hΩ : MV mp p1 p2 p3 p5 p7 Ω) {th hs sg fi se t3 : Int32} {f sp sv sn bf : mj_S} {m ln i : Nat} {hh : Int64} {D : Nat} (ho : oA f D) (hv : vt f) (hD : D < 2147479000) {n : Nat} (hn : 1 ≤ n ∧ n ≤ 60) {k : Nat} (hk : k < 3) : MC l yX4_ifPassed wsX4_ifPassed rmX4_ifPassed false [.ref mp, .int (nI (n)), .int (nI (k))] (Ω th f sp sv m sn hs bf ln i sg fi se t3 hh) (some (.int (s_would f n k))) (Ω 0 f f sv m sn hs bf ln i sg fi se t3 hh) := by
  refine mj_MC (cc := cX4_ifPassed) (nl := 3) (ret := (some .int)) (plainFor_of_name (by decide)) rfl (⟨_, rfl, rfl⟩) (Nat.le_of_ble_eq_true rfl) ?_
  show GG l cX4_ifPassed MX4_ifPassed false (.inl ((some (.int (s_would f n k))), Ω 0 f f sv m sn hs bf ln i sg fi se t3 hh)) 0 [some (.ref mp), some (.int (nI (n))), some (.int (nI (k)))] [] (Ω th f sp sv m sn hs bf ln i sg fi se t3 hh) 0 0
  refine G_aload_n dX4_ifPassed_0 rfl ?_
  refine G_iconst (v := 0) dX4_ifPassed_1 (by decide) ?_
  refine G_putf dX4_ifPassed_2 pX4_ifPassed_25 ((hΩ _ _ _ _ _ _ _ _ _ _ _ _ _ _ _).1) (fun _ => ⟨rfl, rfl⟩) (by simp [mfs]) ((hΩ _ _ _ _ _ _ _ _ _ _ _ _ _ _ _).2.2.2.2.2.2.1 _ _ _ _ _ _ _ _ _ _) ?_
  refine G_iload_n dX4_ifPassed_5 rfl ?_
  refine G_iconst (v := 1) dX4_ifPassed_6 (by decide) ?_
  refine G_bipush (v := 60) dX4_ifPassed_7 (by decide) ?_
  refine G_callSi dX4_ifPassed_9 kX4_ifPassed_X4_within ⟨rfl, rfl⟩ ⟨Nat.zero_le _, Nat.zero_le _⟩ (c_within1 (rng (a := 1) (b := 60) (by omega) (by omega) (by omega))) rfl rfl rfl ?_
  refine G_if_eqN (a := 1) 33 dX4_ifPassed_12 (by decide) (by omega) (fun c12 => ?_) (fun c12 => ?_)
  · exact (show False by omega).elim
  · refine G_iload_n dX4_ifPassed_15 rfl ?_
    refine G_iconst (v := 0) dX4_ifPassed_16 (by decide) ?_
    refine G_iconst (v := 2) dX4_ifPassed_17 (by decide) ?_
    refine G_callSi dX4_ifPassed_18 kX4_ifPassed_X4_within ⟨rfl, rfl⟩ ⟨Nat.zero_le _, Nat.zero_le _⟩ (c_within1 (rng (a := 0) (b := 2) (by omega) (by omega) (by omega))) rfl rfl rfl ?_
    refine G_if_eqN (a := 1) 33 dX4_ifPassed_21 (by decide) (by omega) (fun c21 => ?_) (fun c21 => ?_)
    · exact (show False by omega).elim
    · refine G_aload_n dX4_ifPassed_24 rfl ?_
      refine G_iload_n dX4_ifPassed_25 rfl ?_
      refine G_iload_n dX4_ifPassed_26 rfl ?_
      refine G_callVi dX4_ifPassed_27 kX4_ifPassed_X4_wouldPass ⟨rfl, rfl⟩ ⟨Nat.zero_le _, Nat.zero_le _⟩ (m_wouldPass hΩ ho hv (n := n) (by omega) (w := k) (by omega)) rfl rfl ((hΩ _ _ _ _ _ _ _ _ _ _ _ _ _ _ _).1) rfl rfl ?_
      refine G_goto 38 dX4_ifPassed_30 (by decide) ?_
      exact G_iret dX4_ifPassed_38 ⟨Nat.zero_le _, Nat.zero_le _⟩ (rfl)
theorem m_enoughIn_1 (hΩ : MV mp p1 p2 p3 p5 p7 Ω) {th hs sg fi se t3 : Int32} {f sp sv sn bf : mj_S} {m ln i : Nat} {hh : Int64} {x : Int32} (h1 : ¬ (0 ≤ x ∧ x ≤ 4)) : MC l yX4_enoughIn wsX4_enoughIn rmX4_enoughIn false [.ref mp, .int x] (Ω th f sp sv m sn hs bf ln i sg fi se t3 hh) (some (.int 0)) (Ω 1 f sp sv m sn hs bf ln i sg fi se t3 hh) := by
  refine mj_MC (cc := cX4_enoughIn) (nl := 2) (ret := (some .int)) (plainFor_of_name (by decide)) rfl (⟨_, rfl, rfl⟩) (Nat.le_of_ble_eq_true rfl) ?_
  show GG l cX4_enoughIn MX4_enoughIn false (.inl ((some (.int 0)), Ω 1 f sp sv m sn hs bf ln i sg fi se t3 hh)) 0 [some (.ref mp), some (.int x)] [] (Ω th f sp sv m sn hs bf ln i sg fi se t3 hh) 0 0
  refine G_aload_n dX4_enoughIn_0 rfl ?_
  refine G_iconst (v := 0) dX4_enoughIn_1 (by decide) ?_
  refine G_putf dX4_enoughIn_2 pX4_enoughIn_25 ((hΩ _ _ _ _ _ _ _ _ _ _ _ _ _ _ _).1) (fun _ => ⟨rfl, rfl⟩) (by simp [mfs]) ((hΩ _ _ _ _ _ _ _ _ _ _ _ _ _ _ _).2.2.2.2.2.2.1 _ _ _ _ _ _ _ _ _ _) ?_
  refine G_iload_n dX4_enoughIn_5 rfl ?_
  refine G_callSi dX4_enoughIn_6 kX4_enoughIn_X4_isHearth ⟨rfl, rfl⟩ ⟨Nat.zero_le _, Nat.zero_le _⟩ (c_isHearth0 h1) rfl rfl rfl ?_
  refine G_if_eqN (a := 0) 20 dX4_enoughIn_9 (by decide) (by omega) (fun c9 => ?_) (fun c9 => ?_)
  · refine G_aload_n dX4_enoughIn_20 rfl ?_
    refine G_iconst (v := 1) dX4_enoughIn_21 (by decide) ?_
    refine G_callVi dX4_enoughIn_22 kX4_enoughIn_X4_fails ⟨rfl, rfl⟩ ⟨Nat.zero_le _, Nat.zero_le _⟩ (m_fails hΩ) rfl rfl ((hΩ _ _ _ _ _ _ _ _ _ _ _ _ _ _ _).1) rfl rfl ?_
    exact G_iret dX4_enoughIn_25 ⟨Nat.zero_le _, Nat.zero_le _⟩ (rfl)
  · exact (show False by omega).elim
theorem m_enoughIn (hΩ : MV mp p1 p2 p3 p5 p7 Ω) {th hs sg fi se t3 : Int32} {f sp sv sn bf : mj_S} {m ln i : Nat} {hh : Int64} {D : Nat} (ho : oA f D) (hv : vt f) (hD : D < 2147479000) {h : Nat} (hh5 : h < 5) : MC l yX4_enoughIn wsX4_enoughIn rmX4_enoughIn false [.ref mp, .int (nI (h))] (Ω th f sp sv m sn hs bf ln i sg fi se t3 hh) (some (.int (s_until f h))) (Ω 0 f f sv m sn hs bf ln i sg fi se t3 hh) := by
  refine mj_MC (cc := cX4_enoughIn) (nl := 2) (ret := (some .int)) (plainFor_of_name (by decide)) rfl (⟨_, rfl, rfl⟩) (Nat.le_of_ble_eq_true rfl) ?_
  show GG l cX4_enoughIn MX4_enoughIn false (.inl ((some (.int (s_until f h))), Ω 0 f f sv m sn hs bf ln i sg fi se t3 hh)) 0 [some (.ref mp), some (.int (nI (h)))] [] (Ω th f sp sv m sn hs bf ln i sg fi se t3 hh) 0 0
  refine G_aload_n dX4_enoughIn_0 rfl ?_
  refine G_iconst (v := 0) dX4_enoughIn_1 (by decide) ?_
  refine G_putf dX4_enoughIn_2 pX4_enoughIn_25 ((hΩ _ _ _ _ _ _ _ _ _ _ _ _ _ _ _).1) (fun _ => ⟨rfl, rfl⟩) (by simp [mfs]) ((hΩ _ _ _ _ _ _ _ _ _ _ _ _ _ _ _).2.2.2.2.2.2.1 _ _ _ _ _ _ _ _ _ _) ?_
  refine G_iload_n dX4_enoughIn_5 rfl ?_
  refine G_callSi dX4_enoughIn_6 kX4_enoughIn_X4_isHearth ⟨rfl, rfl⟩ ⟨Nat.zero_le _, Nat.zero_le _⟩ (c_isHearth1 (rng (a := 0) (b := 4) (by omega) (by omega) (by omega))) rfl rfl rfl ?_
  refine G_if_eqN (a := 1) 20 dX4_enoughIn_9 (by decide) (by omega) (fun c9 => ?_) (fun c9 => ?_)
  · exact (show False by omega).elim
  · refine G_aload_n dX4_enoughIn_12 rfl ?_
    refine G_iload_n dX4_enoughIn_13 rfl ?_
    refine G_callVi dX4_enoughIn_14 kX4_enoughIn_X4_daysUntil ⟨rfl, rfl⟩ ⟨Nat.zero_le _, Nat.zero_le _⟩ (m_daysUntil hΩ ho hv (by omega) (h := h) (by omega)) rfl rfl ((hΩ _ _ _ _ _ _ _ _ _ _ _ _ _ _ _).1) rfl rfl ?_
    refine G_goto 25 dX4_enoughIn_17 (by decide) ?_
    exact G_iret dX4_enoughIn_25 ⟨Nat.zero_le _, Nat.zero_le _⟩ (rfl)
theorem m_bestBank_1c (hΩ : MV mp p1 p2 p3 p5 p7 Ω) {th hs sg fi se t3 : Int32} {f sp sv sn bf : mj_S} {m ln i : Nat} {hh : Int64} {x : Int32} (h1 : ¬ (0 ≤ x ∧ x ≤ 5)) {y : Int32} : MC l yX4_bestBank wsX4_bestBank rmX4_bestBank false [.ref mp, .int x, .int y] (Ω th f sp sv m sn hs bf ln i sg fi se t3 hh) (some (.int 0)) (Ω 1 f sp sv m sn hs bf ln i sg fi se t3 hh) := by
  refine mj_MC (cc := cX4_bestBank) (nl := 3) (ret := (some .int)) (plainFor_of_name (by decide)) rfl (⟨_, rfl, rfl⟩) (Nat.le_of_ble_eq_true rfl) ?_
  show GG l cX4_bestBank MX4_bestBank false (.inl ((some (.int 0)), Ω 1 f sp sv m sn hs bf ln i sg fi se t3 hh)) 0 [some (.ref mp), some (.int x), some (.int y)] [] (Ω th f sp sv m sn hs bf ln i sg fi se t3 hh) 0 0
  refine G_aload_n dX4_bestBank_0 rfl ?_
  refine G_iconst (v := 0) dX4_bestBank_1 (by decide) ?_
  refine G_putf dX4_bestBank_2 pX4_bestBank_25 ((hΩ _ _ _ _ _ _ _ _ _ _ _ _ _ _ _).1) (fun _ => ⟨rfl, rfl⟩) (by simp [mfs]) ((hΩ _ _ _ _ _ _ _ _ _ _ _ _ _ _ _).2.2.2.2.2.2.1 _ _ _ _ _ _ _ _ _ _) ?_
  refine G_iload_n dX4_bestBank_5 rfl ?_
  refine G_callSi dX4_bestBank_6 kX4_bestBank_X4_isCutter ⟨rfl, rfl⟩ ⟨Nat.zero_le _, Nat.zero_le _⟩ (c_isCutter0 h1) rfl rfl rfl ?_
  refine G_if_eqN (a := 0) 28 dX4_bestBank_9 (by decide) (by omega) (fun c9 => ?_) (fun c9 => ?_)
  · refine G_aload_n dX4_bestBank_28 rfl ?_
    refine G_iconst (v := 1) dX4_bestBank_29 (by decide) ?_
    refine G_callVi dX4_bestBank_30 kX4_bestBank_X4_fails ⟨rfl, rfl⟩ ⟨Nat.zero_le _, Nat.zero_le _⟩ (m_fails hΩ) rfl rfl ((hΩ _ _ _ _ _ _ _ _ _ _ _ _ _ _ _).1) rfl rfl ?_
    exact G_iret dX4_bestBank_33 ⟨Nat.zero_le _, Nat.zero_le _⟩ (rfl)
  · exact (show False by omega).elim
theorem m_bestBank_1h (hΩ : MV mp p1 p2 p3 p5 p7 Ω) {th hs sg fi se t3 : Int32} {f sp sv sn bf : mj_S} {m ln i : Nat} {hh : Int64} {c : Nat} (hc : c < 6) {y : Int32} (h2 : ¬ (0 ≤ y ∧ y ≤ 4)) : MC l yX4_bestBank wsX4_bestBank rmX4_bestBank false [.ref mp, .int (nI (c)), .int y] (Ω th f sp sv m sn hs bf ln i sg fi se t3 hh) (some (.int 0)) (Ω 1 f sp sv m sn hs bf ln i sg fi se t3 hh) := by
  refine mj_MC (cc := cX4_bestBank) (nl := 3) (ret := (some .int)) (plainFor_of_name (by decide)) rfl (⟨_, rfl, rfl⟩) (Nat.le_of_ble_eq_true rfl) ?_
  show GG l cX4_bestBank MX4_bestBank false (.inl ((some (.int 0)), Ω 1 f sp sv m sn hs bf ln i sg fi se t3 hh)) 0 [some (.ref mp), some (.int (nI (c))), some (.int y)] [] (Ω th f sp sv m sn hs bf ln i sg fi se t3 hh) 0 0
  refine G_aload_n dX4_bestBank_0 rfl ?_
  refine G_iconst (v := 0) dX4_bestBank_1 (by decide) ?_
  refine G_putf dX4_bestBank_2 pX4_bestBank_25 ((hΩ _ _ _ _ _ _ _ _ _ _ _ _ _ _ _).1) (fun _ => ⟨rfl, rfl⟩) (by simp [mfs]) ((hΩ _ _ _ _ _ _ _ _ _ _ _ _ _ _ _).2.2.2.2.2.2.1 _ _ _ _ _ _ _ _ _ _) ?_
  refine G_iload_n dX4_bestBank_5 rfl ?_
  refine G_callSi dX4_bestBank_6 kX4_bestBank_X4_isCutter ⟨rfl, rfl⟩ ⟨Nat.zero_le _, Nat.zero_le _⟩ (c_isCutter1 (rng (a := 0) (b := 5) (by omega) (by omega) (by omega))) rfl rfl rfl ?_
  refine G_if_eqN (a := 1) 28 dX4_bestBank_9 (by decide) (by omega) (fun c9 => ?_) (fun c9 => ?_)
  · exact (show False by omega).elim
  · refine G_iload_n dX4_bestBank_12 rfl ?_
    refine G_callSi dX4_bestBank_13 kX4_bestBank_X4_isHearth ⟨rfl, rfl⟩ ⟨Nat.zero_le _, Nat.zero_le _⟩ (c_isHearth0 h2) rfl rfl rfl ?_
    refine G_if_eqN (a := 0) 28 dX4_bestBank_16 (by decide) (by omega) (fun c16 => ?_) (fun c16 => ?_)
    · refine G_aload_n dX4_bestBank_28 rfl ?_
      refine G_iconst (v := 1) dX4_bestBank_29 (by decide) ?_
      refine G_callVi dX4_bestBank_30 kX4_bestBank_X4_fails ⟨rfl, rfl⟩ ⟨Nat.zero_le _, Nat.zero_le _⟩ (m_fails hΩ) rfl rfl ((hΩ _ _ _ _ _ _ _ _ _ _ _ _ _ _ _).1) rfl rfl ?_
      exact G_iret dX4_bestBank_33 ⟨Nat.zero_le _, Nat.zero_le _⟩ (rfl)
    · exact (show False by omega).elim
theorem m_bestBank (hΩ : MV mp p1 p2 p3 p5 p7 Ω) {th hs sg fi se t3 : Int32} {f sp sv sn bf : mj_S} {m ln i : Nat} {hh : Int64} {D : Nat} (ho : oA f D) (hv : vt f) (hD : D < 2147479000) {c : Nat} (hc : c < 6) {h : Nat} (hh5 : h < 5) : MC l yX4_bestBank wsX4_bestBank rmX4_bestBank false [.ref mp, .int (nI (c)), .int (nI (h))] (Ω th f sp sv m sn hs bf ln i sg fi se t3 hh) (some (.int (s_best f c h))) (Ω 0 f (s_bsp f h sp) sv m sn hs bf ln i sg fi se t3 hh) := by
  refine mj_MC (cc := cX4_bestBank) (nl := 3) (ret := (some .int)) (plainFor_of_name (by decide)) rfl (⟨_, rfl, rfl⟩) (Nat.le_of_ble_eq_true rfl) ?_
  show GG l cX4_bestBank MX4_bestBank false (.inl ((some (.int (s_best f c h))), Ω 0 f (s_bsp f h sp) sv m sn hs bf ln i sg fi se t3 hh)) 0 [some (.ref mp), some (.int (nI (c))), some (.int (nI (h)))] [] (Ω th f sp sv m sn hs bf ln i sg fi se t3 hh) 0 0
  refine G_aload_n dX4_bestBank_0 rfl ?_
  refine G_iconst (v := 0) dX4_bestBank_1 (by decide) ?_
  refine G_putf dX4_bestBank_2 pX4_bestBank_25 ((hΩ _ _ _ _ _ _ _ _ _ _ _ _ _ _ _).1) (fun _ => ⟨rfl, rfl⟩) (by simp [mfs]) ((hΩ _ _ _ _ _ _ _ _ _ _ _ _ _ _ _).2.2.2.2.2.2.1 _ _ _ _ _ _ _ _ _ _) ?_
  refine G_iload_n dX4_bestBank_5 rfl ?_
  refine G_callSi dX4_bestBank_6 kX4_bestBank_X4_isCutter ⟨rfl, rfl⟩ ⟨Nat.zero_le _, Nat.zero_le _⟩ (c_isCutter1 (rng (a := 0) (b := 5) (by omega) (by omega) (by omega))) rfl rfl rfl ?_
  refine G_if_eqN (a := 1) 28 dX4_bestBank_9 (by decide) (by omega) (fun c9 => ?_) (fun c9 => ?_)
  · exact (show False by omega).elim
  · refine G_iload_n dX4_bestBank_12 rfl ?_
    refine G_callSi dX4_bestBank_13 kX4_bestBank_X4_isHearth ⟨rfl, rfl⟩ ⟨Nat.zero_le _, Nat.zero_le _⟩ (c_isHearth1 (rng (a := 0) (b := 4) (by omega) (by omega) (by omega))) rfl rfl rfl ?_
    refine G_if_eqN (a := 1) 28 dX4_bestBank_16 (by decide) (by omega) (fun c16 => ?_) (fun c16 => ?_)
    · exact (show False by omega).elim
    · refine G_aload_n dX4_bestBank_19 rfl ?_
      refine G_iload_n dX4_bestBank_20 rfl ?_
      refine G_iload_n dX4_bestBank_21 rfl ?_
      refine G_callVi dX4_bestBank_22 kX4_bestBank_X4_bestFor ⟨rfl, rfl⟩ ⟨Nat.zero_le _, Nat.zero_le _⟩ (m_bestFor hΩ ho hv (by omega) (k := c) (h := h) (by omega) (by omega)) rfl rfl ((hΩ _ _ _ _ _ _ _ _ _ _ _ _ _ _ _).1) rfl rfl ?_
      refine G_goto 33 dX4_bestBank_25 (by decide) ?_
      exact G_iret dX4_bestBank_33 ⟨Nat.zero_le _, Nat.zero_le _⟩ (rfl)
end RG

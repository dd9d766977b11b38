/-! REFERENCE: shares given; undo, the snapshot -/
section RH
variable {l : Launch} {mp p1 p2 p3 p5 p7 : Nat} {Ω : MT}
theorem m_give_1f (hΩ : MV mp p1 p2 p3 p5 p7 Ω) {th hs sg fi se t3 : Int32} {f sp sv sn bf : mj_S} {m ln i : Nat} {hh : Int64} {x y z u : Int32} (h1 : ¬ (-1 ≤ x ∧ x ≤ 4)) : MC l yX4_give wsX4_give rmX4_give false [.ref mp, .int x, .int y, .int z, .int u] (Ω th f sp sv m sn hs bf ln i sg fi se t3 hh) (some (.int 0)) (Ω 1 f sp sv m sn hs bf ln i sg fi se t3 hh) := by
  refine mj_MC (cc := cX4_give) (nl := 5) (ret := (some .int)) (plainFor_of_name (by decide)) rfl (⟨_, rfl, rfl⟩) (Nat.le_of_ble_eq_true rfl) ?_
  show GG l cX4_give MX4_give false (.inl ((some (.int 0)), Ω 1 f sp sv m sn hs bf ln i sg fi se t3 hh)) 0 [some (.ref mp), some (.int x), some (.int y), some (.int z), some (.int u)] [] (Ω th f sp sv m sn hs bf ln i sg fi se t3 hh) 0 0
  refine G_aload_n dX4_give_0 rfl ?_
  refine G_iconst (v := 0) dX4_give_1 (by decide) ?_
  refine G_putf dX4_give_2 pX4_give_25 ((hΩ _ _ _ _ _ _ _ _ _ _ _ _ _ _ _).1) (fun _ => ⟨rfl, rfl⟩) (by simp [mfs]) ((hΩ _ _ _ _ _ _ _ _ _ _ _ _ _ _ _).2.2.2.2.2.2.1 _ _ _ _ _ _ _ _ _ _) ?_
  refine G_iload_n dX4_give_5 rfl ?_
  refine G_iconst (v := (-1)) dX4_give_6 (by decide) ?_
  refine G_iconst (v := 4) dX4_give_7 (by decide) ?_
  refine G_callSi dX4_give_8 kX4_give_X4_within ⟨rfl, rfl⟩ ⟨Nat.zero_le _, Nat.zero_le _⟩ (c_within0 h1) rfl rfl rfl ?_
  refine G_if_eqN (a := 0) 30 dX4_give_11 (by decide) (by omega) (fun c11 => ?_) (fun c11 => ?_)
  · refine G_aload_n dX4_give_30 rfl ?_
    refine G_iconst (v := 1) dX4_give_31 (by decide) ?_
    refine G_callVi dX4_give_32 kX4_give_X4_fails ⟨rfl, rfl⟩ ⟨Nat.zero_le _, Nat.zero_le _⟩ (m_fails hΩ) rfl rfl ((hΩ _ _ _ _ _ _ _ _ _ _ _ _ _ _ _).1) rfl rfl ?_
    exact G_iret dX4_give_35 ⟨Nat.zero_le _, Nat.zero_le _⟩ (rfl)
  · exact (show False by omega).elim
theorem m_give_1t (hΩ : MV mp p1 p2 p3 p5 p7 Ω) {th hs sg fi se t3 : Int32} {f sp sv sn bf : mj_S} {m ln i : Nat} {hh : Int64} {x : Int32} (h1 : -1 ≤ x ∧ x ≤ 4) {y z u : Int32} (h2 : ¬ (-1 ≤ y ∧ y ≤ 4)) : MC l yX4_give wsX4_give rmX4_give false [.ref mp, .int x, .int y, .int z, .int u] (Ω th f sp sv m sn hs bf ln i sg fi se t3 hh) (some (.int 0)) (Ω 1 f sp sv m sn hs bf ln i sg fi se t3 hh) := by
  refine mj_MC (cc := cX4_give) (nl := 5) (ret := (some .int)) (plainFor_of_name (by decide)) rfl (⟨_, rfl, rfl⟩) (Nat.le_of_ble_eq_true rfl) ?_
  show GG l cX4_give MX4_give false (.inl ((some (.int 0)), Ω 1 f sp sv m sn hs bf ln i sg fi se t3 hh)) 0 [some (.ref mp), some (.int x), some (.int y), some (.int z), some (.int u)] [] (Ω th f sp sv m sn hs bf ln i sg fi se t3 hh) 0 0
  refine G_aload_n dX4_give_0 rfl ?_
  refine G_iconst (v := 0) dX4_give_1 (by decide) ?_
  refine G_putf dX4_give_2 pX4_give_25 ((hΩ _ _ _ _ _ _ _ _ _ _ _ _ _ _ _).1) (fun _ => ⟨rfl, rfl⟩) (by simp [mfs]) ((hΩ _ _ _ _ _ _ _ _ _ _ _ _ _ _ _).2.2.2.2.2.2.1 _ _ _ _ _ _ _ _ _ _) ?_
  refine G_iload_n dX4_give_5 rfl ?_
  refine G_iconst (v := (-1)) dX4_give_6 (by decide) ?_
  refine G_iconst (v := 4) dX4_give_7 (by decide) ?_
  refine G_callSi dX4_give_8 kX4_give_X4_within ⟨rfl, rfl⟩ ⟨Nat.zero_le _, Nat.zero_le _⟩ (c_within1 h1) rfl rfl rfl ?_
  refine G_if_eqN (a := 1) 30 dX4_give_11 (by decide) (by omega) (fun c11 => ?_) (fun c11 => ?_)
  · exact (show False by omega).elim
  · refine G_iload_n dX4_give_14 rfl ?_
    refine G_iconst (v := (-1)) dX4_give_15 (by decide) ?_
    refine G_iconst (v := 4) dX4_give_16 (by decide) ?_
    refine G_callSi dX4_give_17 kX4_give_X4_within ⟨rfl, rfl⟩ ⟨Nat.zero_le _, Nat.zero_le _⟩ (c_within0 h2) rfl rfl rfl ?_
    refine G_if_eqN (a := 0) 30 dX4_give_20 (by decide) (by omega) (fun c20 => ?_) (fun c20 => ?_)
    · refine G_aload_n dX4_give_30 rfl ?_
      refine G_iconst (v := 1) dX4_give_31 (by decide) ?_
      refine G_callVi dX4_give_32 kX4_give_X4_fails ⟨rfl, rfl⟩ ⟨Nat.zero_le _, Nat.zero_le _⟩ (m_fails hΩ) rfl rfl ((hΩ _ _ _ _ _ _ _ _ _ _ _ _ _ _ _).1) rfl rfl ?_
      exact G_iret dX4_give_35 ⟨Nat.zero_le _, Nat.zero_le _⟩ (rfl)
    · exact (show False by omega).elim
theorem m_give_1b (hΩ : MV mp p1 p2 p3 p5 p7 Ω) {th hs sg fi se t3 : Int32} {f sp sv sn bf : mj_S} {m ln i : Nat} {hh : Int64} {x : Int32} (h1 : -1 ≤ x ∧ x ≤ 4) {y : Int32} (h2 : -1 ≤ y ∧ y ≤ 4) {z u : Int32} (h3 : ¬ (0 ≤ z ∧ z ≤ 3)) : MC l yX4_give wsX4_give rmX4_give false [.ref mp, .int x, .int y, .int z, .int u] (Ω th f sp sv m sn hs bf ln i sg fi se t3 hh) (some (.int 0)) (Ω 1 f sp sv m sn hs bf ln i sg fi se t3 hh) := by
  refine mj_MC (cc := cX4_give) (nl := 5) (ret := (some .int)) (plainFor_of_name (by decide)) rfl (⟨_, rfl, rfl⟩) (Nat.le_of_ble_eq_true rfl) ?_
  show GG l cX4_give MX4_give false (.inl ((some (.int 0)), Ω 1 f sp sv m sn hs bf ln i sg fi se t3 hh)) 0 [some (.ref mp), some (.int x), some (.int y), some (.int z), some (.int u)] [] (Ω th f sp sv m sn hs bf ln i sg fi se t3 hh) 0 0
  refine G_aload_n dX4_give_0 rfl ?_
  refine G_iconst (v := 0) dX4_give_1 (by decide) ?_
  refine G_putf dX4_give_2 pX4_give_25 ((hΩ _ _ _ _ _ _ _ _ _ _ _ _ _ _ _).1) (fun _ => ⟨rfl, rfl⟩) (by simp [mfs]) ((hΩ _ _ _ _ _ _ _ _ _ _ _ _ _ _ _).2.2.2.2.2.2.1 _ _ _ _ _ _ _ _ _ _) ?_
  refine G_iload_n dX4_give_5 rfl ?_
  refine G_iconst (v := (-1)) dX4_give_6 (by decide) ?_
  refine G_iconst (v := 4) dX4_give_7 (by decide) ?_
  refine G_callSi dX4_give_8 kX4_give_X4_within ⟨rfl, rfl⟩ ⟨Nat.zero_le _, Nat.zero_le _⟩ (c_within1 h1) rfl rfl rfl ?_
  refine G_if_eqN (a := 1) 30 dX4_give_11 (by decide) (by omega) (fun c11 => ?_) (fun c11 => ?_)
  · exact (show False by omega).elim
  · refine G_iload_n dX4_give_14 rfl ?_
    refine G_iconst (v := (-1)) dX4_give_15 (by decide) ?_
    refine G_iconst (v := 4) dX4_give_16 (by decide) ?_
    refine G_callSi dX4_give_17 kX4_give_X4_within ⟨rfl, rfl⟩ ⟨Nat.zero_le _, Nat.zero_le _⟩ (c_within1 h2) rfl rfl rfl ?_
    refine G_if_eqN (a := 1) 30 dX4_give_20 (by decide) (by omega) (fun c20 => ?_) (fun c20 => ?_)
    · exact (show False by omega).elim
    · refine G_iload_n dX4_give_23 rfl ?_
      refine G_callSi dX4_give_24 kX4_give_X4_isBank ⟨rfl, rfl⟩ ⟨Nat.zero_le _, Nat.zero_le _⟩ (c_isBank0 h3) rfl rfl rfl ?_
      refine G_if_neN (a := 0) 36 dX4_give_27 (by decide) (by omega) (fun c27 => ?_) (fun c27 => ?_)
      · exact (show False by omega).elim
      · refine G_aload_n dX4_give_30 rfl ?_
        refine G_iconst (v := 1) dX4_give_31 (by decide) ?_
        refine G_callVi dX4_give_32 kX4_give_X4_fails ⟨rfl, rfl⟩ ⟨Nat.zero_le _, Nat.zero_le _⟩ (m_fails hΩ) rfl rfl ((hΩ _ _ _ _ _ _ _ _ _ _ _ _ _ _ _).1) rfl rfl ?_
        exact G_iret dX4_give_35 ⟨Nat.zero_le _, Nat.zero_le _⟩ (rfl)
theorem m_give_2e (hΩ : MV mp p1 p2 p3 p5 p7 Ω) {th hs sg fi se t3 : Int32} {f sp sv sn bf : mj_S} {m ln i : Nat} {hh : Int64} {x : Int32} (h1 : -1 ≤ x ∧ x ≤ 4) {y : Int32} (h2 : -1 ≤ y ∧ y ≤ 4) {b : Nat} (hb : b < 4) {u : Int32} (he : x = y) : MC l yX4_give wsX4_give rmX4_give false [.ref mp, .int x, .int y, .int (nI (b)), .int u] (Ω th f sp sv m sn hs bf ln i sg fi se t3 hh) (some (.int 0)) (Ω 2 f sp sv m sn hs bf ln i sg fi se t3 hh) := by
  refine mj_MC (cc := cX4_give) (nl := 5) (ret := (some .int)) (plainFor_of_name (by decide)) rfl (⟨_, rfl, rfl⟩) (Nat.le_of_ble_eq_true rfl) ?_
  show GG l cX4_give MX4_give false (.inl ((some (.int 0)), Ω 2 f sp sv m sn hs bf ln i sg fi se t3 hh)) 0 [some (.ref mp), some (.int x), some (.int y), some (.int (nI (b))), some (.int u)] [] (Ω th f sp sv m sn hs bf ln i sg fi se t3 hh) 0 0
  refine G_aload_n dX4_give_0 rfl ?_
  refine G_iconst (v := 0) dX4_give_1 (by decide) ?_
  refine G_putf dX4_give_2 pX4_give_25 ((hΩ _ _ _ _ _ _ _ _ _ _ _ _ _ _ _).1) (fun _ => ⟨rfl, rfl⟩) (by simp [mfs]) ((hΩ _ _ _ _ _ _ _ _ _ _ _ _ _ _ _).2.2.2.2.2.2.1 _ _ _ _ _ _ _ _ _ _) ?_
  refine G_iload_n dX4_give_5 rfl ?_
  refine G_iconst (v := (-1)) dX4_give_6 (by decide) ?_
  refine G_iconst (v := 4) dX4_give_7 (by decide) ?_
  refine G_callSi dX4_give_8 kX4_give_X4_within ⟨rfl, rfl⟩ ⟨Nat.zero_le _, Nat.zero_le _⟩ (c_within1 h1) rfl rfl rfl ?_
  refine G_if_eqN (a := 1) 30 dX4_give_11 (by decide) (by omega) (fun c11 => ?_) (fun c11 => ?_)
  · exact (show False by omega).elim
  · refine G_iload_n dX4_give_14 rfl ?_
    refine G_iconst (v := (-1)) dX4_give_15 (by decide) ?_
    refine G_iconst (v := 4) dX4_give_16 (by decide) ?_
    refine G_callSi dX4_give_17 kX4_give_X4_within ⟨rfl, rfl⟩ ⟨Nat.zero_le _, Nat.zero_le _⟩ (c_within1 h2) rfl rfl rfl ?_
    refine G_if_eqN (a := 1) 30 dX4_give_20 (by decide) (by omega) (fun c20 => ?_) (fun c20 => ?_)
    · exact (show False by omega).elim
    · refine G_iload_n dX4_give_23 rfl ?_
      refine G_callSi dX4_give_24 kX4_give_X4_isBank ⟨rfl, rfl⟩ ⟨Nat.zero_le _, Nat.zero_le _⟩ (c_isBank1 (rng (a := 0) (b := 3) (by omega) (by omega) (by omega))) rfl rfl rfl ?_
      refine G_if_neN (a := 1) 36 dX4_give_27 (by decide) (by omega) (fun c27 => ?_) (fun c27 => ?_)
      · refine G_iload_n dX4_give_36 rfl ?_
        refine G_iload_n dX4_give_37 rfl ?_
        refine G_icmp_eq 52 dX4_give_38 (by decide) (fun c38 => ?_) (fun c38 => ?_)
        · refine G_aload_n dX4_give_52 rfl ?_
          refine G_iconst (v := 2) dX4_give_53 (by decide) ?_
          refine G_callVi dX4_give_54 kX4_give_X4_fails ⟨rfl, rfl⟩ ⟨Nat.zero_le _, Nat.zero_le _⟩ (m_fails hΩ) rfl rfl ((hΩ _ _ _ _ _ _ _ _ _ _ _ _ _ _ _).1) rfl rfl ?_
          exact G_iret dX4_give_57 ⟨Nat.zero_le _, Nat.zero_le _⟩ (rfl)
        · exact absurd he c38
      · exact (show False by omega).elim
theorem m_give_2m (hΩ : MV mp p1 p2 p3 p5 p7 Ω) {th hs sg fi se t3 : Int32} {f sp sv sn bf : mj_S} {m ln i : Nat} {hh : Int64} {x : Int32} (h1 : -1 ≤ x ∧ x ≤ 4) {y : Int32} (h2 : -1 ≤ y ∧ y ≤ 4) {b : Nat} (hb : b < 4) {u : Int32} (he : ¬ x = y) (h4 : ¬ (1 ≤ u ∧ u ≤ 12)) : MC l yX4_give wsX4_give rmX4_give false [.ref mp, .int x, .int y, .int (nI (b)), .int u] (Ω th f sp sv m sn hs bf ln i sg fi se t3 hh) (some (.int 0)) (Ω 2 f sp sv m sn hs bf ln i sg fi se t3 hh) := by
  refine mj_MC (cc := cX4_give) (nl := 5) (ret := (some .int)) (plainFor_of_name (by decide)) rfl (⟨_, rfl, rfl⟩) (Nat.le_of_ble_eq_true rfl) ?_
  show GG l cX4_give MX4_give false (.inl ((some (.int 0)), Ω 2 f sp sv m sn hs bf ln i sg fi se t3 hh)) 0 [some (.ref mp), some (.int x), some (.int y), some (.int (nI (b))), some (.int u)] [] (Ω th f sp sv m sn hs bf ln i sg fi se t3 hh) 0 0
  refine G_aload_n dX4_give_0 rfl ?_
  refine G_iconst (v := 0) dX4_give_1 (by decide) ?_
  refine G_putf dX4_give_2 pX4_give_25 ((hΩ _ _ _ _ _ _ _ _ _ _ _ _ _ _ _).1) (fun _ => ⟨rfl, rfl⟩) (by simp [mfs]) ((hΩ _ _ _ _ _ _ _ _ _ _ _ _ _ _ _).2.2.2.2.2.2.1 _ _ _ _ _ _ _ _ _ _) ?_
  refine G_iload_n dX4_give_5 rfl ?_
  refine G_iconst (v := (-1)) dX4_give_6 (by decide) ?_
  refine G_iconst (v := 4) dX4_give_7 (by decide) ?_
  refine G_callSi dX4_give_8 kX4_give_X4_within ⟨rfl, rfl⟩ ⟨Nat.zero_le _, Nat.zero_le _⟩ (c_within1 h1) rfl rfl rfl ?_
  refine G_if_eqN (a := 1) 30 dX4_give_11 (by decide) (by omega) (fun c11 => ?_) (fun c11 => ?_)
  · exact (show False by omega).elim
  · refine G_iload_n dX4_give_14 rfl ?_
    refine G_iconst (v := (-1)) dX4_give_15 (by decide) ?_
    refine G_iconst (v := 4) dX4_give_16 (by decide) ?_
    refine G_callSi dX4_give_17 kX4_give_X4_within ⟨rfl, rfl⟩ ⟨Nat.zero_le _, Nat.zero_le _⟩ (c_within1 h2) rfl rfl rfl ?_
    refine G_if_eqN (a := 1) 30 dX4_give_20 (by decide) (by omega) (fun c20 => ?_) (fun c20 => ?_)
    · exact (show False by omega).elim
    · refine G_iload_n dX4_give_23 rfl ?_
      refine G_callSi dX4_give_24 kX4_give_X4_isBank ⟨rfl, rfl⟩ ⟨Nat.zero_le _, Nat.zero_le _⟩ (c_isBank1 (rng (a := 0) (b := 3) (by omega) (by omega) (by omega))) rfl rfl rfl ?_
      refine G_if_neN (a := 1) 36 dX4_give_27 (by decide) (by omega) (fun c27 => ?_) (fun c27 => ?_)
      · refine G_iload_n dX4_give_36 rfl ?_
        refine G_iload_n dX4_give_37 rfl ?_
        refine G_icmp_eq 52 dX4_give_38 (by decide) (fun c38 => ?_) (fun c38 => ?_)
        · exact absurd c38 he
        · refine G_iload dX4_give_41 rfl ?_
          refine G_iconst (v := 1) dX4_give_43 (by decide) ?_
          refine G_bipush (v := 12) dX4_give_44 (by decide) ?_
          refine G_callSi dX4_give_46 kX4_give_X4_within ⟨rfl, rfl⟩ ⟨Nat.zero_le _, Nat.zero_le _⟩ (c_within0 h4) rfl rfl rfl ?_
          refine G_if_neN (a := 0) 58 dX4_give_49 (by decide) (by omega) (fun c49 => ?_) (fun c49 => ?_)
          · exact (show False by omega).elim
          · refine G_aload_n dX4_give_52 rfl ?_
            refine G_iconst (v := 2) dX4_give_53 (by decide) ?_
            refine G_callVi dX4_give_54 kX4_give_X4_fails ⟨rfl, rfl⟩ ⟨Nat.zero_le _, Nat.zero_le _⟩ (m_fails hΩ) rfl rfl ((hΩ _ _ _ _ _ _ _ _ _ _ _ _ _ _ _).1) rfl rfl ?_
            exact G_iret dX4_give_57 ⟨Nat.zero_le _, Nat.zero_le _⟩ (rfl)
      · exact (show False by omega).elim
theorem m_give_3N (hΩ : MV mp p1 p2 p3 p5 p7 Ω) {th hs sg fi se t3 : Int32} {f sp sv sn bf : mj_S} {m ln i : Nat} {hh : Int64} {h : Nat} (hh5 : h < 5) {b : Nat} (hb : b < 4) {v : Nat} (hv : 1 ≤ v ∧ v ≤ 12) (hq : s_com f b < nI v) : MC l yX4_give wsX4_give rmX4_give false [.ref mp, .int (-1), .int (nI (h)), .int (nI (b)), .int (nI (v))] (Ω th f sp sv m sn hs bf ln i sg fi se t3 hh) (some (.int 0)) (Ω 3 f sp sv m sn hs bf ln i sg fi se t3 hh) := by
  refine mj_MC (cc := cX4_give) (nl := 5) (ret := (some .int)) (plainFor_of_name (by decide)) rfl (⟨_, rfl, rfl⟩) (Nat.le_of_ble_eq_true rfl) ?_
  show GG l cX4_give MX4_give false (.inl ((some (.int 0)), Ω 3 f sp sv m sn hs bf ln i sg fi se t3 hh)) 0 [some (.ref mp), some (.int (-1)), some (.int (nI (h))), some (.int (nI (b))), some (.int (nI (v)))] [] (Ω th f sp sv m sn hs bf ln i sg fi se t3 hh) 0 0
  refine G_aload_n dX4_give_0 rfl ?_
  refine G_iconst (v := 0) dX4_give_1 (by decide) ?_
  refine G_putf dX4_give_2 pX4_give_25 ((hΩ _ _ _ _ _ _ _ _ _ _ _ _ _ _ _).1) (fun _ => ⟨rfl, rfl⟩) (by simp [mfs]) ((hΩ _ _ _ _ _ _ _ _ _ _ _ _ _ _ _).2.2.2.2.2.2.1 _ _ _ _ _ _ _ _ _ _) ?_
  refine G_iload_n dX4_give_5 rfl ?_
  refine G_iconst (v := (-1)) dX4_give_6 (by decide) ?_
  refine G_iconst (v := 4) dX4_give_7 (by decide) ?_
  refine G_callSi dX4_give_8 kX4_give_X4_within ⟨rfl, rfl⟩ ⟨Nat.zero_le _, Nat.zero_le _⟩ (c_within1 (by decide)) rfl rfl rfl ?_
  refine G_if_eqN (a := 1) 30 dX4_give_11 (by decide) (by omega) (fun c11 => ?_) (fun c11 => ?_)
  · exact (show False by omega).elim
  · refine G_iload_n dX4_give_14 rfl ?_
    refine G_iconst (v := (-1)) dX4_give_15 (by decide) ?_
    refine G_iconst (v := 4) dX4_give_16 (by decide) ?_
    refine G_callSi dX4_give_17 kX4_give_X4_within ⟨rfl, rfl⟩ ⟨Nat.zero_le _, Nat.zero_le _⟩ (c_within1 (rngm h (by omega))) rfl rfl rfl ?_
    refine G_if_eqN (a := 1) 30 dX4_give_20 (by decide) (by omega) (fun c20 => ?_) (fun c20 => ?_)
    · exact (show False by omega).elim
    · refine G_iload_n dX4_give_23 rfl ?_
      refine G_callSi dX4_give_24 kX4_give_X4_isBank ⟨rfl, rfl⟩ ⟨Nat.zero_le _, Nat.zero_le _⟩ (c_isBank1 (rng (a := 0) (b := 3) (by omega) (by omega) (by omega))) rfl rfl rfl ?_
      refine G_if_neN (a := 1) 36 dX4_give_27 (by decide) (by omega) (fun c27 => ?_) (fun c27 => ?_)
      · refine G_iload_n dX4_give_36 rfl ?_
        refine G_iload_n dX4_give_37 rfl ?_
        refine G_icmp_eq 52 dX4_give_38 (by decide) (fun c38 => ?_) (fun c38 => ?_)
        · exact absurd c38.symm (nI_m1 (by omega))
        · refine G_iload dX4_give_41 rfl ?_
          refine G_iconst (v := 1) dX4_give_43 (by decide) ?_
          refine G_bipush (v := 12) dX4_give_44 (by decide) ?_
          refine G_callSi dX4_give_46 kX4_give_X4_within ⟨rfl, rfl⟩ ⟨Nat.zero_le _, Nat.zero_le _⟩ (c_within1 (rng (a := 1) (b := 12) (by omega) (by omega) (by omega))) rfl rfl rfl ?_
          refine G_if_neN (a := 1) 58 dX4_give_49 (by decide) (by omega) (fun c49 => ?_) (fun c49 => ?_)
          · refine G_aload_n dX4_give_58 rfl ?_
            refine G_iload_n dX4_give_59 rfl ?_
            refine G_iload_n dX4_give_60 rfl ?_
            refine G_callVi dX4_give_61 kX4_give_X4_sharesOf ⟨rfl, rfl⟩ ⟨Nat.zero_le _, Nat.zero_le _⟩ (m_sharesOfN (hΩ.fv 0 sp sv m sn hs bf ln i sg fi se t3 hh) (b := b) (by omega)) rfl rfl ((hΩ _ _ _ _ _ _ _ _ _ _ _ _ _ _ _).1) rfl rfl ?_
            refine G_iload dX4_give_64 rfl ?_
            refine G_icmp_ge 75 dX4_give_66 (by decide) (fun c66 => ?_) (fun c66 => ?_)
            · exact absurd hq (Int32.not_lt.mpr c66)
            · refine G_aload_n dX4_give_69 rfl ?_
              refine G_iconst (v := 3) dX4_give_70 (by decide) ?_
              refine G_callVi dX4_give_71 kX4_give_X4_fails ⟨rfl, rfl⟩ ⟨Nat.zero_le _, Nat.zero_le _⟩ (m_fails hΩ) rfl rfl ((hΩ _ _ _ _ _ _ _ _ _ _ _ _ _ _ _).1) rfl rfl ?_
              exact G_iret dX4_give_74 ⟨Nat.zero_le _, Nat.zero_le _⟩ (rfl)
          · exact (show False by omega).elim
      · exact (show False by omega).elim
theorem m_giveN (hΩ : MV mp p1 p2 p3 p5 p7 Ω) {th hs sg fi se t3 : Int32} {f sp sv sn bf : mj_S} {m ln i : Nat} {hh : Int64} (hm : m ≤ 6) {h : Nat} (hh5 : h < 5) {b : Nat} (hb : b < 4) {v : Nat} (hv : 1 ≤ v ∧ v ≤ 12) (hq : nI v ≤ s_com f b) : MC l yX4_give wsX4_give rmX4_give false [.ref mp, .int (-1), .int (nI (h)), .int (nI (b)), .int (nI (v))] (Ω th f sp sv m sn hs bf ln i sg fi se t3 hh) (some (.int ((upd f (53 + b + 4 * h) (f (53 + b + 4 * h) + nI v)) (53 + b + 4 * h)))) (Ω 0 (upd f (53 + b + 4 * h) (f (53 + b + 4 * h) + nI v)) sp (s_save f sv m) (s_svm m) sn hs bf ln i sg fi se t3 hh) := by
  refine mj_MC (cc := cX4_give) (nl := 5) (ret := (some .int)) (plainFor_of_name (by decide)) rfl (⟨_, rfl, rfl⟩) (Nat.le_of_ble_eq_true rfl) ?_
  show GG l cX4_give MX4_give false (.inl ((some (.int ((upd f (53 + b + 4 * h) (f (53 + b + 4 * h) + nI v)) (53 + b + 4 * h)))), Ω 0 (upd f (53 + b + 4 * h) (f (53 + b + 4 * h) + nI v)) sp (s_save f sv m) (s_svm m) sn hs bf ln i sg fi se t3 hh)) 0 [some (.ref mp), some (.int (-1)), some (.int (nI (h))), some (.int (nI (b))), some (.int (nI (v)))] [] (Ω th f sp sv m sn hs bf ln i sg fi se t3 hh) 0 0
  refine G_aload_n dX4_give_0 rfl ?_
  refine G_iconst (v := 0) dX4_give_1 (by decide) ?_
  refine G_putf dX4_give_2 pX4_give_25 ((hΩ _ _ _ _ _ _ _ _ _ _ _ _ _ _ _).1) (fun _ => ⟨rfl, rfl⟩) (by simp [mfs]) ((hΩ _ _ _ _ _ _ _ _ _ _ _ _ _ _ _).2.2.2.2.2.2.1 _ _ _ _ _ _ _ _ _ _) ?_
  refine G_iload_n dX4_give_5 rfl ?_
  refine G_iconst (v := (-1)) dX4_give_6 (by decide) ?_
  refine G_iconst (v := 4) dX4_give_7 (by decide) ?_
  refine G_callSi dX4_give_8 kX4_give_X4_within ⟨rfl, rfl⟩ ⟨Nat.zero_le _, Nat.zero_le _⟩ (c_within1 (by decide)) rfl rfl rfl ?_
  refine G_if_eqN (a := 1) 30 dX4_give_11 (by decide) (by omega) (fun c11 => ?_) (fun c11 => ?_)
  · exact (show False by omega).elim
  · refine G_iload_n dX4_give_14 rfl ?_
    refine G_iconst (v := (-1)) dX4_give_15 (by decide) ?_
    refine G_iconst (v := 4) dX4_give_16 (by decide) ?_
    refine G_callSi dX4_give_17 kX4_give_X4_within ⟨rfl, rfl⟩ ⟨Nat.zero_le _, Nat.zero_le _⟩ (c_within1 (rngm h (by omega))) rfl rfl rfl ?_
    refine G_if_eqN (a := 1) 30 dX4_give_20 (by decide) (by omega) (fun c20 => ?_) (fun c20 => ?_)
    · exact (show False by omega).elim
    · refine G_iload_n dX4_give_23 rfl ?_
      refine G_callSi dX4_give_24 kX4_give_X4_isBank ⟨rfl, rfl⟩ ⟨Nat.zero_le _, Nat.zero_le _⟩ (c_isBank1 (rng (a := 0) (b := 3) (by omega) (by omega) (by omega))) rfl rfl rfl ?_
      refine G_if_neN (a := 1) 36 dX4_give_27 (by decide) (by omega) (fun c27 => ?_) (fun c27 => ?_)
      · refine G_iload_n dX4_give_36 rfl ?_
        refine G_iload_n dX4_give_37 rfl ?_
        refine G_icmp_eq 52 dX4_give_38 (by decide) (fun c38 => ?_) (fun c38 => ?_)
        · exact absurd c38.symm (nI_m1 (by omega))
        · refine G_iload dX4_give_41 rfl ?_
          refine G_iconst (v := 1) dX4_give_43 (by decide) ?_
          refine G_bipush (v := 12) dX4_give_44 (by decide) ?_
          refine G_callSi dX4_give_46 kX4_give_X4_within ⟨rfl, rfl⟩ ⟨Nat.zero_le _, Nat.zero_le _⟩ (c_within1 (rng (a := 1) (b := 12) (by omega) (by omega) (by omega))) rfl rfl rfl ?_
          refine G_if_neN (a := 1) 58 dX4_give_49 (by decide) (by omega) (fun c49 => ?_) (fun c49 => ?_)
          · refine G_aload_n dX4_give_58 rfl ?_
            refine G_iload_n dX4_give_59 rfl ?_
            refine G_iload_n dX4_give_60 rfl ?_
            refine G_callVi dX4_give_61 kX4_give_X4_sharesOf ⟨rfl, rfl⟩ ⟨Nat.zero_le _, Nat.zero_le _⟩ (m_sharesOfN (hΩ.fv 0 sp sv m sn hs bf ln i sg fi se t3 hh) (b := b) (by omega)) rfl rfl ((hΩ _ _ _ _ _ _ _ _ _ _ _ _ _ _ _).1) rfl rfl ?_
            refine G_iload dX4_give_64 rfl ?_
            refine G_icmp_ge 75 dX4_give_66 (by decide) (fun c66 => ?_) (fun c66 => ?_)
            · refine G_aload_n dX4_give_75 rfl ?_
              refine G_callVv dX4_give_76 kX4_give_X4_save ⟨rfl, rfl⟩ ⟨Nat.zero_le _, Nat.zero_le _⟩ (m_save hΩ (by omega)) rfl rfl ((hΩ _ _ _ _ _ _ _ _ _ _ _ _ _ _ _).1) rfl rfl ?_
              refine G_iload_n dX4_give_79 rfl ?_
              refine G_iconst (v := (-1)) dX4_give_80 (by decide) ?_
              refine G_icmp_eq 102 dX4_give_81 (by decide) (fun c81 => ?_) (fun c81 => ?_)
              · refine G_iload_n dX4_give_102 rfl ?_
                refine G_iconst (v := (-1)) dX4_give_103 (by decide) ?_
                refine G_icmp_eq 125 dX4_give_104 (by decide) (fun c104 => ?_) (fun c104 => ?_)
                · exact absurd c104 (nI_m1 (by omega))
                · refine G_aload_n dX4_give_107 rfl ?_
                  refine G_getf dX4_give_108 fX4_give_7 ((hΩ _ _ _ _ _ _ _ _ _ _ _ _ _ _ _).1) (rfl) ?_
                  refine G_bipush (v := 53) dX4_give_111 (by decide) ?_
                  refine G_iconst (v := 4) dX4_give_113 (by decide) ?_
                  refine G_iload_n dX4_give_114 rfl ?_
                  refine G_imulN (a := 4) (c := h) (s := 4 * h) dX4_give_115 (by omega) ?_
                  refine G_iaddN (a := 53) (c := 4 * h) (s := 53 + 4 * h) dX4_give_116 (by omega) ?_
                  refine G_iload_n dX4_give_117 rfl ?_
                  refine G_iaddN (a := 53 + 4 * h) (c := b) (s := 53 + b + 4 * h) dX4_give_118 (by omega) ?_
                  refine G_dup2 dX4_give_119 rfl rfl ?_
                  refine G_ialdN (j := 53 + b + 4 * h) dX4_give_120 ((hΩ _ _ _ _ _ _ _ _ _ _ _ _ _ _ _).2.1) (by omega) ?_
                  refine G_iload dX4_give_121 rfl ?_
                  refine G_iadd dX4_give_123 ?_
                  obtain ⟨f1, ef1⟩ : ∃ z : mj_S, z = upd f (53 + b + 4 * h) ((f (53 + b + 4 * h)) + (nI (v))) := ⟨_, rfl⟩
                  refine G_iastN (j := 53 + b + 4 * h) dX4_give_124 ((hΩ _ _ _ _ _ _ _ _ _ _ _ _ _ _ _).2.1) (by omega) (((hΩ _ _ _ _ _ _ _ _ _ _ _ _ _ _ _).2.2.2.2.2.2.2.1 _).trans (congrArg (fun z => Ω 0 z sp (s_save f sv m) (s_svm m) sn hs bf ln i sg fi se t3 hh) ef1.symm)) ?_
                  refine G_aload_n dX4_give_125 rfl ?_
                  refine G_iload_n dX4_give_126 rfl ?_
                  refine G_iload_n dX4_give_127 rfl ?_
                  refine G_callVi dX4_give_128 kX4_give_X4_sharesOf ⟨rfl, rfl⟩ ⟨Nat.zero_le _, Nat.zero_le _⟩ (m_sharesOf (hΩ.fv 0 sp (s_save f sv m) (s_svm m) sn hs bf ln i sg fi se t3 hh) (h := h) (b := b) (by omega) (by omega)) rfl rfl ((hΩ _ _ _ _ _ _ _ _ _ _ _ _ _ _ _).1) rfl rfl ?_
                  exact G_iret dX4_give_131 ⟨Nat.zero_le _, Nat.zero_le _⟩ (by subst ef1; rfl)
              · exact absurd rfl c81
            · exact absurd hq c66
          · exact (show False by omega).elim
      · exact (show False by omega).elim
theorem m_give_3T (hΩ : MV mp p1 p2 p3 p5 p7 Ω) {th hs sg fi se t3 : Int32} {f sp sv sn bf : mj_S} {m ln i : Nat} {hh : Int64} {g : Nat} (hg : g < 5) {b : Nat} (hb : b < 4) {v : Nat} (hv : 1 ≤ v ∧ v ≤ 12) (hq : f (53 + b + 4 * g) < nI v) : MC l yX4_give wsX4_give rmX4_give false [.ref mp, .int (nI (g)), .int (-1), .int (nI (b)), .int (nI (v))] (Ω th f sp sv m sn hs bf ln i sg fi se t3 hh) (some (.int 0)) (Ω 3 f sp sv m sn hs bf ln i sg fi se t3 hh) := by
  refine mj_MC (cc := cX4_give) (nl := 5) (ret := (some .int)) (plainFor_of_name (by decide)) rfl (⟨_, rfl, rfl⟩) (Nat.le_of_ble_eq_true rfl) ?_
  show GG l cX4_give MX4_give false (.inl ((some (.int 0)), Ω 3 f sp sv m sn hs bf ln i sg fi se t3 hh)) 0 [some (.ref mp), some (.int (nI (g))), some (.int (-1)), some (.int (nI (b))), some (.int (nI (v)))] [] (Ω th f sp sv m sn hs bf ln i sg fi se t3 hh) 0 0
  refine G_aload_n dX4_give_0 rfl ?_
  refine G_iconst (v := 0) dX4_give_1 (by decide) ?_
  refine G_putf dX4_give_2 pX4_give_25 ((hΩ _ _ _ _ _ _ _ _ _ _ _ _ _ _ _).1) (fun _ => ⟨rfl, rfl⟩) (by simp [mfs]) ((hΩ _ _ _ _ _ _ _ _ _ _ _ _ _ _ _).2.2.2.2.2.2.1 _ _ _ _ _ _ _ _ _ _) ?_
  refine G_iload_n dX4_give_5 rfl ?_
  refine G_iconst (v := (-1)) dX4_give_6 (by decide) ?_
  refine G_iconst (v := 4) dX4_give_7 (by decide) ?_
  refine G_callSi dX4_give_8 kX4_give_X4_within ⟨rfl, rfl⟩ ⟨Nat.zero_le _, Nat.zero_le _⟩ (c_within1 (rngm g (by omega))) rfl rfl rfl ?_
  refine G_if_eqN (a := 1) 30 dX4_give_11 (by decide) (by omega) (fun c11 => ?_) (fun c11 => ?_)
  · exact (show False by omega).elim
  · refine G_iload_n dX4_give_14 rfl ?_
    refine G_iconst (v := (-1)) dX4_give_15 (by decide) ?_
    refine G_iconst (v := 4) dX4_give_16 (by decide) ?_
    refine G_callSi dX4_give_17 kX4_give_X4_within ⟨rfl, rfl⟩ ⟨Nat.zero_le _, Nat.zero_le _⟩ (c_within1 (by decide)) rfl rfl rfl ?_
    refine G_if_eqN (a := 1) 30 dX4_give_20 (by decide) (by omega) (fun c20 => ?_) (fun c20 => ?_)
    · exact (show False by omega).elim
    · refine G_iload_n dX4_give_23 rfl ?_
      refine G_callSi dX4_give_24 kX4_give_X4_isBank ⟨rfl, rfl⟩ ⟨Nat.zero_le _, Nat.zero_le _⟩ (c_isBank1 (rng (a := 0) (b := 3) (by omega) (by omega) (by omega))) rfl rfl rfl ?_
      refine G_if_neN (a := 1) 36 dX4_give_27 (by decide) (by omega) (fun c27 => ?_) (fun c27 => ?_)
      · refine G_iload_n dX4_give_36 rfl ?_
        refine G_iload_n dX4_give_37 rfl ?_
        refine G_icmp_eq 52 dX4_give_38 (by decide) (fun c38 => ?_) (fun c38 => ?_)
        · exact absurd c38 (nI_m1 (by omega))
        · refine G_iload dX4_give_41 rfl ?_
          refine G_iconst (v := 1) dX4_give_43 (by decide) ?_
          refine G_bipush (v := 12) dX4_give_44 (by decide) ?_
          refine G_callSi dX4_give_46 kX4_give_X4_within ⟨rfl, rfl⟩ ⟨Nat.zero_le _, Nat.zero_le _⟩ (c_within1 (rng (a := 1) (b := 12) (by omega) (by omega) (by omega))) rfl rfl rfl ?_
          refine G_if_neN (a := 1) 58 dX4_give_49 (by decide) (by omega) (fun c49 => ?_) (fun c49 => ?_)
          · refine G_aload_n dX4_give_58 rfl ?_
            refine G_iload_n dX4_give_59 rfl ?_
            refine G_iload_n dX4_give_60 rfl ?_
            refine G_callVi dX4_give_61 kX4_give_X4_sharesOf ⟨rfl, rfl⟩ ⟨Nat.zero_le _, Nat.zero_le _⟩ (m_sharesOf (hΩ.fv 0 sp sv m sn hs bf ln i sg fi se t3 hh) (h := g) (b := b) (by omega) (by omega)) rfl rfl ((hΩ _ _ _ _ _ _ _ _ _ _ _ _ _ _ _).1) rfl rfl ?_
            refine G_iload dX4_give_64 rfl ?_
            refine G_icmp_ge 75 dX4_give_66 (by decide) (fun c66 => ?_) (fun c66 => ?_)
            · exact absurd hq (Int32.not_lt.mpr c66)
            · refine G_aload_n dX4_give_69 rfl ?_
              refine G_iconst (v := 3) dX4_give_70 (by decide) ?_
              refine G_callVi dX4_give_71 kX4_give_X4_fails ⟨rfl, rfl⟩ ⟨Nat.zero_le _, Nat.zero_le _⟩ (m_fails hΩ) rfl rfl ((hΩ _ _ _ _ _ _ _ _ _ _ _ _ _ _ _).1) rfl rfl ?_
              exact G_iret dX4_give_74 ⟨Nat.zero_le _, Nat.zero_le _⟩ (rfl)
          · exact (show False by omega).elim
      · exact (show False by omega).elim
theorem m_giveT (hΩ : MV mp p1 p2 p3 p5 p7 Ω) {th hs sg fi se t3 : Int32} {f sp sv sn bf : mj_S} {m ln i : Nat} {hh : Int64} (hm : m ≤ 6) {g : Nat} (hg : g < 5) {b : Nat} (hb : b < 4) {v : Nat} (hv : 1 ≤ v ∧ v ≤ 12) (hq : nI v ≤ f (53 + b + 4 * g)) : MC l yX4_give wsX4_give rmX4_give false [.ref mp, .int (nI (g)), .int (-1), .int (nI (b)), .int (nI (v))] (Ω th f sp sv m sn hs bf ln i sg fi se t3 hh) (some (.int (s_com (upd f (53 + b + 4 * g) (f (53 + b + 4 * g) - nI v)) b))) (Ω 0 (upd f (53 + b + 4 * g) (f (53 + b + 4 * g) - nI v)) sp (s_save f sv m) (s_svm m) sn hs bf ln i sg fi se t3 hh) := by
  refine mj_MC (cc := cX4_give) (nl := 5) (ret := (some .int)) (plainFor_of_name (by decide)) rfl (⟨_, rfl, rfl⟩) (Nat.le_of_ble_eq_true rfl) ?_
  show GG l cX4_give MX4_give false (.inl ((some (.int (s_com (upd f (53 + b + 4 * g) (f (53 + b + 4 * g) - nI v)) b))), Ω 0 (upd f (53 + b + 4 * g) (f (53 + b + 4 * g) - nI v)) sp (s_save f sv m) (s_svm m) sn hs bf ln i sg fi se t3 hh)) 0 [some (.ref mp), some (.int (nI (g))), some (.int (-1)), some (.int (nI (b))), some (.int (nI (v)))] [] (Ω th f sp sv m sn hs bf ln i sg fi se t3 hh) 0 0
  refine G_aload_n dX4_give_0 rfl ?_
  refine G_iconst (v := 0) dX4_give_1 (by decide) ?_
  refine G_putf dX4_give_2 pX4_give_25 ((hΩ _ _ _ _ _ _ _ _ _ _ _ _ _ _ _).1) (fun _ => ⟨rfl, rfl⟩) (by simp [mfs]) ((hΩ _ _ _ _ _ _ _ _ _ _ _ _ _ _ _).2.2.2.2.2.2.1 _ _ _ _ _ _ _ _ _ _) ?_
  refine G_iload_n dX4_give_5 rfl ?_
  refine G_iconst (v := (-1)) dX4_give_6 (by decide) ?_
  refine G_iconst (v := 4) dX4_give_7 (by decide) ?_
  refine G_callSi dX4_give_8 kX4_give_X4_within ⟨rfl, rfl⟩ ⟨Nat.zero_le _, Nat.zero_le _⟩ (c_within1 (rngm g (by omega))) rfl rfl rfl ?_
  refine G_if_eqN (a := 1) 30 dX4_give_11 (by decide) (by omega) (fun c11 => ?_) (fun c11 => ?_)
  · exact (show False by omega).elim
  · refine G_iload_n dX4_give_14 rfl ?_
    refine G_iconst (v := (-1)) dX4_give_15 (by decide) ?_
    refine G_iconst (v := 4) dX4_give_16 (by decide) ?_
    refine G_callSi dX4_give_17 kX4_give_X4_within ⟨rfl, rfl⟩ ⟨Nat.zero_le _, Nat.zero_le _⟩ (c_within1 (by decide)) rfl rfl rfl ?_
    refine G_if_eqN (a := 1) 30 dX4_give_20 (by decide) (by omega) (fun c20 => ?_) (fun c20 => ?_)
    · exact (show False by omega).elim
    · refine G_iload_n dX4_give_23 rfl ?_
      refine G_callSi dX4_give_24 kX4_give_X4_isBank ⟨rfl, rfl⟩ ⟨Nat.zero_le _, Nat.zero_le _⟩ (c_isBank1 (rng (a := 0) (b := 3) (by omega) (by omega) (by omega))) rfl rfl rfl ?_
      refine G_if_neN (a := 1) 36 dX4_give_27 (by decide) (by omega) (fun c27 => ?_) (fun c27 => ?_)
      · refine G_iload_n dX4_give_36 rfl ?_
        refine G_iload_n dX4_give_37 rfl ?_
        refine G_icmp_eq 52 dX4_give_38 (by decide) (fun c38 => ?_) (fun c38 => ?_)
        · exact absurd c38 (nI_m1 (by omega))
        · refine G_iload dX4_give_41 rfl ?_
          refine G_iconst (v := 1) dX4_give_43 (by decide) ?_
          refine G_bipush (v := 12) dX4_give_44 (by decide) ?_
          refine G_callSi dX4_give_46 kX4_give_X4_within ⟨rfl, rfl⟩ ⟨Nat.zero_le _, Nat.zero_le _⟩ (c_within1 (rng (a := 1) (b := 12) (by omega) (by omega) (by omega))) rfl rfl rfl ?_
          refine G_if_neN (a := 1) 58 dX4_give_49 (by decide) (by omega) (fun c49 => ?_) (fun c49 => ?_)
          · refine G_aload_n dX4_give_58 rfl ?_
            refine G_iload_n dX4_give_59 rfl ?_
            refine G_iload_n dX4_give_60 rfl ?_
            refine G_callVi dX4_give_61 kX4_give_X4_sharesOf ⟨rfl, rfl⟩ ⟨Nat.zero_le _, Nat.zero_le _⟩ (m_sharesOf (hΩ.fv 0 sp sv m sn hs bf ln i sg fi se t3 hh) (h := g) (b := b) (by omega) (by omega)) rfl rfl ((hΩ _ _ _ _ _ _ _ _ _ _ _ _ _ _ _).1) rfl rfl ?_
            refine G_iload dX4_give_64 rfl ?_
            refine G_icmp_ge 75 dX4_give_66 (by decide) (fun c66 => ?_) (fun c66 => ?_)
            · refine G_aload_n dX4_give_75 rfl ?_
              refine G_callVv dX4_give_76 kX4_give_X4_save ⟨rfl, rfl⟩ ⟨Nat.zero_le _, Nat.zero_le _⟩ (m_save hΩ (by omega)) rfl rfl ((hΩ _ _ _ _ _ _ _ _ _ _ _ _ _ _ _).1) rfl rfl ?_
              refine G_iload_n dX4_give_79 rfl ?_
              refine G_iconst (v := (-1)) dX4_give_80 (by decide) ?_
              refine G_icmp_eq 102 dX4_give_81 (by decide) (fun c81 => ?_) (fun c81 => ?_)
              · exact absurd c81 (nI_m1 (by omega))
              · refine G_aload_n dX4_give_84 rfl ?_
                refine G_getf dX4_give_85 fX4_give_7 ((hΩ _ _ _ _ _ _ _ _ _ _ _ _ _ _ _).1) (rfl) ?_
                refine G_bipush (v := 53) dX4_give_88 (by decide) ?_
                refine G_iconst (v := 4) dX4_give_90 (by decide) ?_
                refine G_iload_n dX4_give_91 rfl ?_
                refine G_imulN (a := 4) (c := g) (s := 4 * g) dX4_give_92 (by omega) ?_
                refine G_iaddN (a := 53) (c := 4 * g) (s := 53 + 4 * g) dX4_give_93 (by omega) ?_
                refine G_iload_n dX4_give_94 rfl ?_
                refine G_iaddN (a := 53 + 4 * g) (c := b) (s := 53 + b + 4 * g) dX4_give_95 (by omega) ?_
                refine G_dup2 dX4_give_96 rfl rfl ?_
                refine G_ialdN (j := 53 + b + 4 * g) dX4_give_97 ((hΩ _ _ _ _ _ _ _ _ _ _ _ _ _ _ _).2.1) (by omega) ?_
                refine G_iload dX4_give_98 rfl ?_
                refine G_isub dX4_give_100 ?_
                obtain ⟨f1, ef1⟩ : ∃ z : mj_S, z = upd f (53 + b + 4 * g) ((f (53 + b + 4 * g)) - (nI (v))) := ⟨_, rfl⟩
                refine G_iastN (j := 53 + b + 4 * g) dX4_give_101 ((hΩ _ _ _ _ _ _ _ _ _ _ _ _ _ _ _).2.1) (by omega) (((hΩ _ _ _ _ _ _ _ _ _ _ _ _ _ _ _).2.2.2.2.2.2.2.1 _).trans (congrArg (fun z => Ω 0 z sp (s_save f sv m) (s_svm m) sn hs bf ln i sg fi se t3 hh) ef1.symm)) ?_
                refine G_iload_n dX4_give_102 rfl ?_
                refine G_iconst (v := (-1)) dX4_give_103 (by decide) ?_
                refine G_icmp_eq 125 dX4_give_104 (by decide) (fun c104 => ?_) (fun c104 => ?_)
                · refine G_aload_n dX4_give_125 rfl ?_
                  refine G_iload_n dX4_give_126 rfl ?_
                  refine G_iload_n dX4_give_127 rfl ?_
                  refine G_callVi dX4_give_128 kX4_give_X4_sharesOf ⟨rfl, rfl⟩ ⟨Nat.zero_le _, Nat.zero_le _⟩ (m_sharesOfN (hΩ.fv 0 sp (s_save f sv m) (s_svm m) sn hs bf ln i sg fi se t3 hh) (b := b) (by omega)) rfl rfl ((hΩ _ _ _ _ _ _ _ _ _ _ _ _ _ _ _).1) rfl rfl ?_
                  exact G_iret dX4_give_131 ⟨Nat.zero_le _, Nat.zero_le _⟩ (by subst ef1; rfl)
                · exact absurd rfl c104
            · exact absurd hq c66
          · exact (show False by omega).elim
      · exact (show False by omega).elim
theorem m_give_3G (hΩ : MV mp p1 p2 p3 p5 p7 Ω) {th hs sg fi se t3 : Int32} {f sp sv sn bf : mj_S} {m ln i : Nat} {hh : Int64} {g : Nat} (hg : g < 5) {h : Nat} (hh5 : h < 5) (hgh : ¬ g = h) {b : Nat} (hb : b < 4) {v : Nat} (hv : 1 ≤ v ∧ v ≤ 12) (hq : f (53 + b + 4 * g) < nI v) : MC l yX4_give wsX4_give rmX4_give false [.ref mp, .int (nI (g)), .int (nI (h)), .int (nI (b)), .int (nI (v))] (Ω th f sp sv m sn hs bf ln i sg fi se t3 hh) (some (.int 0)) (Ω 3 f sp sv m sn hs bf ln i sg fi se t3 hh) := by
  refine mj_MC (cc := cX4_give) (nl := 5) (ret := (some .int)) (plainFor_of_name (by decide)) rfl (⟨_, rfl, rfl⟩) (Nat.le_of_ble_eq_true rfl) ?_
  show GG l cX4_give MX4_give false (.inl ((some (.int 0)), Ω 3 f sp sv m sn hs bf ln i sg fi se t3 hh)) 0 [some (.ref mp), some (.int (nI (g))), some (.int (nI (h))), some (.int (nI (b))), some (.int (nI (v)))] [] (Ω th f sp sv m sn hs bf ln i sg fi se t3 hh) 0 0
  refine G_aload_n dX4_give_0 rfl ?_
  refine G_iconst (v := 0) dX4_give_1 (by decide) ?_
  refine G_putf dX4_give_2 pX4_give_25 ((hΩ _ _ _ _ _ _ _ _ _ _ _ _ _ _ _).1) (fun _ => ⟨rfl, rfl⟩) (by simp [mfs]) ((hΩ _ _ _ _ _ _ _ _ _ _ _ _ _ _ _).2.2.2.2.2.2.1 _ _ _ _ _ _ _ _ _ _) ?_
  refine G_iload_n dX4_give_5 rfl ?_
  refine G_iconst (v := (-1)) dX4_give_6 (by decide) ?_
  refine G_iconst (v := 4) dX4_give_7 (by decide) ?_
  refine G_callSi dX4_give_8 kX4_give_X4_within ⟨rfl, rfl⟩ ⟨Nat.zero_le _, Nat.zero_le _⟩ (c_within1 (rngm g (by omega))) rfl rfl rfl ?_
  refine G_if_eqN (a := 1) 30 dX4_give_11 (by decide) (by omega) (fun c11 => ?_) (fun c11 => ?_)
  · exact (show False by omega).elim
  · refine G_iload_n dX4_give_14 rfl ?_
    refine G_iconst (v := (-1)) dX4_give_15 (by decide) ?_
    refine G_iconst (v := 4) dX4_give_16 (by decide) ?_
    refine G_callSi dX4_give_17 kX4_give_X4_within ⟨rfl, rfl⟩ ⟨Nat.zero_le _, Nat.zero_le _⟩ (c_within1 (rngm h (by omega))) rfl rfl rfl ?_
    refine G_if_eqN (a := 1) 30 dX4_give_20 (by decide) (by omega) (fun c20 => ?_) (fun c20 => ?_)
    · exact (show False by omega).elim
    · refine G_iload_n dX4_give_23 rfl ?_
      refine G_callSi dX4_give_24 kX4_give_X4_isBank ⟨rfl, rfl⟩ ⟨Nat.zero_le _, Nat.zero_le _⟩ (c_isBank1 (rng (a := 0) (b := 3) (by omega) (by omega) (by omega))) rfl rfl rfl ?_
      refine G_if_neN (a := 1) 36 dX4_give_27 (by decide) (by omega) (fun c27 => ?_) (fun c27 => ?_)
      · refine G_iload_n dX4_give_36 rfl ?_
        refine G_iload_n dX4_give_37 rfl ?_
        refine G_icmp_eqN (a := g) (c := h) 52 dX4_give_38 (by decide) (by omega) (fun c38 => ?_) (fun c38 => ?_)
        · exact (show False by omega).elim
        · refine G_iload dX4_give_41 rfl ?_
          refine G_iconst (v := 1) dX4_give_43 (by decide) ?_
          refine G_bipush (v := 12) dX4_give_44 (by decide) ?_
          refine G_callSi dX4_give_46 kX4_give_X4_within ⟨rfl, rfl⟩ ⟨Nat.zero_le _, Nat.zero_le _⟩ (c_within1 (rng (a := 1) (b := 12) (by omega) (by omega) (by omega))) rfl rfl rfl ?_
          refine G_if_neN (a := 1) 58 dX4_give_49 (by decide) (by omega) (fun c49 => ?_) (fun c49 => ?_)
          · refine G_aload_n dX4_give_58 rfl ?_
            refine G_iload_n dX4_give_59 rfl ?_
            refine G_iload_n dX4_give_60 rfl ?_
            refine G_callVi dX4_give_61 kX4_give_X4_sharesOf ⟨rfl, rfl⟩ ⟨Nat.zero_le _, Nat.zero_le _⟩ (m_sharesOf (hΩ.fv 0 sp sv m sn hs bf ln i sg fi se t3 hh) (h := g) (b := b) (by omega) (by omega)) rfl rfl ((hΩ _ _ _ _ _ _ _ _ _ _ _ _ _ _ _).1) rfl rfl ?_
            refine G_iload dX4_give_64 rfl ?_
            refine G_icmp_ge 75 dX4_give_66 (by decide) (fun c66 => ?_) (fun c66 => ?_)
            · exact absurd hq (Int32.not_lt.mpr c66)
            · refine G_aload_n dX4_give_69 rfl ?_
              refine G_iconst (v := 3) dX4_give_70 (by decide) ?_
              refine G_callVi dX4_give_71 kX4_give_X4_fails ⟨rfl, rfl⟩ ⟨Nat.zero_le _, Nat.zero_le _⟩ (m_fails hΩ) rfl rfl ((hΩ _ _ _ _ _ _ _ _ _ _ _ _ _ _ _).1) rfl rfl ?_
              exact G_iret dX4_give_74 ⟨Nat.zero_le _, Nat.zero_le _⟩ (rfl)
          · exact (show False by omega).elim
      · exact (show False by omega).elim
theorem m_giveG (hΩ : MV mp p1 p2 p3 p5 p7 Ω) {th hs sg fi se t3 : Int32} {f sp sv sn bf : mj_S} {m ln i : Nat} {hh : Int64} (hm : m ≤ 6) {g : Nat} (hg : g < 5) {h : Nat} (hh5 : h < 5) (hgh : ¬ g = h) {b : Nat} (hb : b < 4) {v : Nat} (hv : 1 ≤ v ∧ v ≤ 12) (hq : nI v ≤ f (53 + b + 4 * g)) : MC l yX4_give wsX4_give rmX4_give false [.ref mp, .int (nI (g)), .int (nI (h)), .int (nI (b)), .int (nI (v))] (Ω th f sp sv m sn hs bf ln i sg fi se t3 hh) (some (.int ((upd (upd f (53 + b + 4 * g) (f (53 + b + 4 * g) - nI v)) (53 + b + 4 * h) ((upd f (53 + b + 4 * g) (f (53 + b + 4 * g) - nI v)) (53 + b + 4 * h) + nI v)) (53 + b + 4 * h)))) (Ω 0 (upd (upd f (53 + b + 4 * g) (f (53 + b + 4 * g) - nI v)) (53 + b + 4 * h) ((upd f (53 + b + 4 * g) (f (53 + b + 4 * g) - nI v)) (53 + b + 4 * h) + nI v)) sp (s_save f sv m) (s_svm m) sn hs bf ln i sg fi se t3 hh) := by
  refine mj_MC (cc := cX4_give) (nl := 5) (ret := (some .int)) (plainFor_of_name (by decide)) rfl (⟨_, rfl, rfl⟩) (Nat.le_of_ble_eq_true rfl) ?_
  show GG l cX4_give MX4_give false (.inl ((some (.int ((upd (upd f (53 + b + 4 * g) (f (53 + b + 4 * g) - nI v)) (53 + b + 4 * h) ((upd f (53 + b + 4 * g) (f (53 + b + 4 * g) - nI v)) (53 + b + 4 * h) + nI v)) (53 + b + 4 * h)))), Ω 0 (upd (upd f (53 + b + 4 * g) (f (53 + b + 4 * g) - nI v)) (53 + b + 4 * h) ((upd f (53 + b + 4 * g) (f (53 + b + 4 * g) - nI v)) (53 + b + 4 * h) + nI v)) sp (s_save f sv m) (s_svm m) sn hs bf ln i sg fi se t3 hh)) 0 [some (.ref mp), some (.int (nI (g))), some (.int (nI (h))), some (.int (nI (b))), some (.int (nI (v)))] [] (Ω th f sp sv m sn hs bf ln i sg fi se t3 hh) 0 0
  refine G_aload_n dX4_give_0 rfl ?_
  refine G_iconst (v := 0) dX4_give_1 (by decide) ?_
  refine G_putf dX4_give_2 pX4_give_25 ((hΩ _ _ _ _ _ _ _ _ _ _ _ _ _ _ _).1) (fun _ => ⟨rfl, rfl⟩) (by simp [mfs]) ((hΩ _ _ _ _ _ _ _ _ _ _ _ _ _ _ _).2.2.2.2.2.2.1 _ _ _ _ _ _ _ _ _ _) ?_
  refine G_iload_n dX4_give_5 rfl ?_
  refine G_iconst (v := (-1)) dX4_give_6 (by decide) ?_
  refine G_iconst (v := 4) dX4_give_7 (by decide) ?_
  refine G_callSi dX4_give_8 kX4_give_X4_within ⟨rfl, rfl⟩ ⟨Nat.zero_le _, Nat.zero_le _⟩ (c_within1 (rngm g (by omega))) rfl rfl rfl ?_
  refine G_if_eqN (a := 1) 30 dX4_give_11 (by decide) (by omega) (fun c11 => ?_) (fun c11 => ?_)
  · exact (show False by omega).elim
  · refine G_iload_n dX4_give_14 rfl ?_
    refine G_iconst (v := (-1)) dX4_give_15 (by decide) ?_
    refine G_iconst (v := 4) dX4_give_16 (by decide) ?_
    refine G_callSi dX4_give_17 kX4_give_X4_within ⟨rfl, rfl⟩ ⟨Nat.zero_le _, Nat.zero_le _⟩ (c_within1 (rngm h (by omega))) rfl rfl rfl ?_
    refine G_if_eqN (a := 1) 30 dX4_give_20 (by decide) (by omega) (fun c20 => ?_) (fun c20 => ?_)
    · exact (show False by omega).elim
    · refine G_iload_n dX4_give_23 rfl ?_
      refine G_callSi dX4_give_24 kX4_give_X4_isBank ⟨rfl, rfl⟩ ⟨Nat.zero_le _, Nat.zero_le _⟩ (c_isBank1 (rng (a := 0) (b := 3) (by omega) (by omega) (by omega))) rfl rfl rfl ?_
      refine G_if_neN (a := 1) 36 dX4_give_27 (by decide) (by omega) (fun c27 => ?_) (fun c27 => ?_)
      · refine G_iload_n dX4_give_36 rfl ?_
        refine G_iload_n dX4_give_37 rfl ?_
        refine G_icmp_eqN (a := g) (c := h) 52 dX4_give_38 (by decide) (by omega) (fun c38 => ?_) (fun c38 => ?_)
        · exact (show False by omega).elim
        · refine G_iload dX4_give_41 rfl ?_
          refine G_iconst (v := 1) dX4_give_43 (by decide) ?_
          refine G_bipush (v := 12) dX4_give_44 (by decide) ?_
          refine G_callSi dX4_give_46 kX4_give_X4_within ⟨rfl, rfl⟩ ⟨Nat.zero_le _, Nat.zero_le _⟩ (c_within1 (rng (a := 1) (b := 12) (by omega) (by omega) (by omega))) rfl rfl rfl ?_
          refine G_if_neN (a := 1) 58 dX4_give_49 (by decide) (by omega) (fun c49 => ?_) (fun c49 => ?_)
          · refine G_aload_n dX4_give_58 rfl ?_
            refine G_iload_n dX4_give_59 rfl ?_
            refine G_iload_n dX4_give_60 rfl ?_
            refine G_callVi dX4_give_61 kX4_give_X4_sharesOf ⟨rfl, rfl⟩ ⟨Nat.zero_le _, Nat.zero_le _⟩ (m_sharesOf (hΩ.fv 0 sp sv m sn hs bf ln i sg fi se t3 hh) (h := g) (b := b) (by omega) (by omega)) rfl rfl ((hΩ _ _ _ _ _ _ _ _ _ _ _ _ _ _ _).1) rfl rfl ?_
            refine G_iload dX4_give_64 rfl ?_
            refine G_icmp_ge 75 dX4_give_66 (by decide) (fun c66 => ?_) (fun c66 => ?_)
            · refine G_aload_n dX4_give_75 rfl ?_
              refine G_callVv dX4_give_76 kX4_give_X4_save ⟨rfl, rfl⟩ ⟨Nat.zero_le _, Nat.zero_le _⟩ (m_save hΩ (by omega)) rfl rfl ((hΩ _ _ _ _ _ _ _ _ _ _ _ _ _ _ _).1) rfl rfl ?_
              refine G_iload_n dX4_give_79 rfl ?_
              refine G_iconst (v := (-1)) dX4_give_80 (by decide) ?_
              refine G_icmp_eq 102 dX4_give_81 (by decide) (fun c81 => ?_) (fun c81 => ?_)
              · exact absurd c81 (nI_m1 (by omega))
              · refine G_aload_n dX4_give_84 rfl ?_
                refine G_getf dX4_give_85 fX4_give_7 ((hΩ _ _ _ _ _ _ _ _ _ _ _ _ _ _ _).1) (rfl) ?_
                refine G_bipush (v := 53) dX4_give_88 (by decide) ?_
                refine G_iconst (v := 4) dX4_give_90 (by decide) ?_
                refine G_iload_n dX4_give_91 rfl ?_
                refine G_imulN (a := 4) (c := g) (s := 4 * g) dX4_give_92 (by omega) ?_
                refine G_iaddN (a := 53) (c := 4 * g) (s := 53 + 4 * g) dX4_give_93 (by omega) ?_
                refine G_iload_n dX4_give_94 rfl ?_
                refine G_iaddN (a := 53 + 4 * g) (c := b) (s := 53 + b + 4 * g) dX4_give_95 (by omega) ?_
                refine G_dup2 dX4_give_96 rfl rfl ?_
                refine G_ialdN (j := 53 + b + 4 * g) dX4_give_97 ((hΩ _ _ _ _ _ _ _ _ _ _ _ _ _ _ _).2.1) (by omega) ?_
                refine G_iload dX4_give_98 rfl ?_
                refine G_isub dX4_give_100 ?_
                obtain ⟨f1, ef1⟩ : ∃ z : mj_S, z = upd f (53 + b + 4 * g) ((f (53 + b + 4 * g)) - (nI (v))) := ⟨_, rfl⟩
                refine G_iastN (j := 53 + b + 4 * g) dX4_give_101 ((hΩ _ _ _ _ _ _ _ _ _ _ _ _ _ _ _).2.1) (by omega) (((hΩ _ _ _ _ _ _ _ _ _ _ _ _ _ _ _).2.2.2.2.2.2.2.1 _).trans (congrArg (fun z => Ω 0 z sp (s_save f sv m) (s_svm m) sn hs bf ln i sg fi se t3 hh) ef1.symm)) ?_
                refine G_iload_n dX4_give_102 rfl ?_
                refine G_iconst (v := (-1)) dX4_give_103 (by decide) ?_
                refine G_icmp_eq 125 dX4_give_104 (by decide) (fun c104 => ?_) (fun c104 => ?_)
                · exact absurd c104 (nI_m1 (by omega))
                · refine G_aload_n dX4_give_107 rfl ?_
                  refine G_getf dX4_give_108 fX4_give_7 ((hΩ _ _ _ _ _ _ _ _ _ _ _ _ _ _ _).1) (rfl) ?_
                  refine G_bipush (v := 53) dX4_give_111 (by decide) ?_
                  refine G_iconst (v := 4) dX4_give_113 (by decide) ?_
                  refine G_iload_n dX4_give_114 rfl ?_
                  refine G_imulN (a := 4) (c := h) (s := 4 * h) dX4_give_115 (by omega) ?_
                  refine G_iaddN (a := 53) (c := 4 * h) (s := 53 + 4 * h) dX4_give_116 (by omega) ?_
                  refine G_iload_n dX4_give_117 rfl ?_
                  refine G_iaddN (a := 53 + 4 * h) (c := b) (s := 53 + b + 4 * h) dX4_give_118 (by omega) ?_
                  refine G_dup2 dX4_give_119 rfl rfl ?_
                  refine G_ialdN (j := 53 + b + 4 * h) dX4_give_120 ((hΩ _ _ _ _ _ _ _ _ _ _ _ _ _ _ _).2.1) (by omega) ?_
                  refine G_iload dX4_give_121 rfl ?_
                  refine G_iadd dX4_give_123 ?_
                  obtain ⟨f2, ef2⟩ : ∃ z : mj_S, z = upd f1 (53 + b + 4 * h) ((f1 (53 + b + 4 * h)) + (nI (v))) := ⟨_, rfl⟩
                  refine G_iastN (j := 53 + b + 4 * h) dX4_give_124 ((hΩ _ _ _ _ _ _ _ _ _ _ _ _ _ _ _).2.1) (by omega) (((hΩ _ _ _ _ _ _ _ _ _ _ _ _ _ _ _).2.2.2.2.2.2.2.1 _).trans (congrArg (fun z => Ω 0 z sp (s_save f sv m) (s_svm m) sn hs bf ln i sg fi se t3 hh) ef2.symm)) ?_
                  refine G_aload_n dX4_give_125 rfl ?_
                  refine G_iload_n dX4_give_126 rfl ?_
                  refine G_iload_n dX4_give_127 rfl ?_
                  refine G_callVi dX4_give_128 kX4_give_X4_sharesOf ⟨rfl, rfl⟩ ⟨Nat.zero_le _, Nat.zero_le _⟩ (m_sharesOf (hΩ.fv 0 sp (s_save f sv m) (s_svm m) sn hs bf ln i sg fi se t3 hh) (h := h) (b := b) (by omega) (by omega)) rfl rfl ((hΩ _ _ _ _ _ _ _ _ _ _ _ _ _ _ _).1) rfl rfl ?_
                  exact G_iret dX4_give_131 ⟨Nat.zero_le _, Nat.zero_le _⟩ (by subst ef2; subst ef1; rfl)
            · exact absurd hq c66
          · exact (show False by omega).elim
      · exact (show False by omega).elim
theorem m_undo_1 (hΩ : MV mp p1 p2 p3 p5 p7 Ω) {th hs sg fi se t3 : Int32} {f sp sv sn bf : mj_S} {m ln i : Nat} {hh : Int64} : MC l yX4_undo wsX4_undo rmX4_undo false [.ref mp] (Ω th f sp sv 0 sn hs bf ln i sg fi se t3 hh) (some (.int 0)) (Ω 1 f sp sv 0 sn hs bf ln i sg fi se t3 hh) := by
  refine mj_MC (cc := cX4_undo) (nl := 2) (ret := (some .int)) (plainFor_of_name (by decide)) rfl (⟨_, rfl, rfl⟩) (Nat.le_of_ble_eq_true rfl) ?_
  show GG l cX4_undo MX4_undo false (.inl ((some (.int 0)), Ω 1 f sp sv 0 sn hs bf ln i sg fi se t3 hh)) 0 [some (.ref mp), none] [] (Ω th f sp sv 0 sn hs bf ln i sg fi se t3 hh) 0 0
  refine G_aload_n dX4_undo_0 rfl ?_
  refine G_iconst (v := 0) dX4_undo_1 (by decide) ?_
  refine G_putf dX4_undo_2 pX4_undo_25 ((hΩ _ _ _ _ _ _ _ _ _ _ _ _ _ _ _).1) (fun _ => ⟨rfl, rfl⟩) (by simp [mfs]) ((hΩ _ _ _ _ _ _ _ _ _ _ _ _ _ _ _).2.2.2.2.2.2.1 _ _ _ _ _ _ _ _ _ _) ?_
  refine G_aload_n dX4_undo_5 rfl ?_
  refine G_getf dX4_undo_6 fX4_undo_33 ((hΩ _ _ _ _ _ _ _ _ _ _ _ _ _ _ _).1) (rfl) ?_
  refine G_if_neN (a := 0) 18 dX4_undo_9 (by decide) (by omega) (fun c9 => ?_) (fun c9 => ?_)
  · exact (show False by omega).elim
  · refine G_aload_n dX4_undo_12 rfl ?_
    refine G_iconst (v := 1) dX4_undo_13 (by decide) ?_
    refine G_callVi dX4_undo_14 kX4_undo_X4_fails ⟨rfl, rfl⟩ ⟨Nat.zero_le _, Nat.zero_le _⟩ (m_fails hΩ) rfl rfl ((hΩ _ _ _ _ _ _ _ _ _ _ _ _ _ _ _).1) rfl rfl ?_
    exact G_iret dX4_undo_17 ⟨Nat.zero_le _, Nat.zero_le _⟩ (rfl)
theorem ml_undo (hΩ : MV mp p1 p2 p3 p5 p7 Ω) {th hs sg fi se t3 : Int32} {sp sv sn bf : mj_S} {m ln i : Nat} {hh : Int64} {X : mj_R} {F : mj_S} (hm : m < 6) (K : ∀ y : Option Value, GG l cX4_undo MX4_undo false X 64 [some (.ref mp), y] [] (Ω th F sp sv m sn hs bf ln i sg fi se t3 hh) 0 0) : ∀ (d c : Nat) (f : mj_S), c + d = 157 → F = itr (fun i a => upd a i (sv (157 * m + i))) d c f → GG l cX4_undo MX4_undo false X 30 [some (.ref mp), some (.int (nI (c)))] [] (Ω th f sp sv m sn hs bf ln i sg fi se t3 hh) 0 0
  | 0, c, f, hc, hr => by
    refine G_iload_n dX4_undo_30 rfl ?_
    refine G_sipush (v := 157) dX4_undo_31 (by decide) ?_
    refine G_icmp_geN (a := c) (c := 157) 64 dX4_undo_34 (by decide) (by omega) (fun c34 => ?_) (fun c34 => ?_)
    · rw [itr_0] at hr
      subst hr
      exact K _
    · exact (show False by omega).elim
  | d + 1, c, f, hc, hr => by
    refine G_iload_n dX4_undo_30 rfl ?_
    refine G_sipush (v := 157) dX4_undo_31 (by decide) ?_
    refine G_icmp_geN (a := c) (c := 157) 64 dX4_undo_34 (by decide) (by omega) (fun c34 => ?_) (fun c34 => ?_)
    · exact (show False by omega).elim
    · refine G_aload_n dX4_undo_37 rfl ?_
      refine G_getf dX4_undo_38 fX4_undo_7 ((hΩ _ _ _ _ _ _ _ _ _ _ _ _ _ _ _).1) (rfl) ?_
      refine G_iload_n dX4_undo_41 rfl ?_
      refine G_aload_n dX4_undo_42 rfl ?_
      refine G_getf dX4_undo_43 fX4_undo_16 ((hΩ _ _ _ _ _ _ _ _ _ _ _ _ _ _ _).1) (rfl) ?_
      refine G_aload_n dX4_undo_46 rfl ?_
      refine G_getf dX4_undo_47 fX4_undo_33 ((hΩ _ _ _ _ _ _ _ _ _ _ _ _ _ _ _).1) (rfl) ?_
      refine G_sipush (v := 157) dX4_undo_50 (by decide) ?_
      refine G_imulN (a := m) (c := 157) (s := 157 * m) dX4_undo_53 (by omega) ?_
      refine G_iload_n dX4_undo_54 rfl ?_
      refine G_iaddN (a := 157 * m) (c := c) (s := c + 157 * m) dX4_undo_55 (by omega) ?_
      refine G_ialdN (j := c + 157 * m) dX4_undo_56 ((hΩ _ _ _ _ _ _ _ _ _ _ _ _ _ _ _).2.2.2.1) (by omega) ?_
      obtain ⟨f1, ef1⟩ : ∃ z : mj_S, z = upd f (c) (sv (c + 157 * m)) := ⟨_, rfl⟩
      refine G_iastN (j := c) dX4_undo_57 ((hΩ _ _ _ _ _ _ _ _ _ _ _ _ _ _ _).2.1) (by omega) (((hΩ _ _ _ _ _ _ _ _ _ _ _ _ _ _ _).2.2.2.2.2.2.2.1 _).trans (congrArg (fun z => Ω th z sp sv m sn hs bf ln i sg fi se t3 hh) ef1.symm)) ?_
      refine G_iincN (a := c) (s := c + 1) dX4_undo_58 rfl (by omega) (L' := [some (.ref mp), some (.int (nI (c + 1)))]) rfl ?_
      refine G_goto 30 dX4_undo_61 (by decide) ?_
      exact ml_undo hΩ hm K d (c + 1) _ (by omega) (by rw [hr, itr_s, ef1, Nat.add_comm (157 * m) c])
theorem m_undo (hΩ : MV mp p1 p2 p3 p5 p7 Ω) {th hs sg fi se t3 : Int32} {f sp sv sn bf : mj_S} {m ln i : Nat} {hh : Int64} (hm : m < 6) : MC l yX4_undo wsX4_undo rmX4_undo false [.ref mp] (Ω th f sp sv (m + 1) sn hs bf ln i sg fi se t3 hh) (some (.int (nI m))) (Ω 0 (fun j => sv (157 * m + j)) sp sv m sn hs bf ln i sg fi se t3 hh) := by
  refine mj_MC (cc := cX4_undo) (nl := 2) (ret := (some .int)) (plainFor_of_name (by decide)) rfl (⟨_, rfl, rfl⟩) (Nat.le_of_ble_eq_true rfl) ?_
  show GG l cX4_undo MX4_undo false (.inl ((some (.int (nI m))), Ω 0 (fun j => sv (157 * m + j)) sp sv m sn hs bf ln i sg fi se t3 hh)) 0 [some (.ref mp), none] [] (Ω th f sp sv (m + 1) sn hs bf ln i sg fi se t3 hh) 0 0
  refine G_aload_n dX4_undo_0 rfl ?_
  refine G_iconst (v := 0) dX4_undo_1 (by decide) ?_
  refine G_putf dX4_undo_2 pX4_undo_25 ((hΩ _ _ _ _ _ _ _ _ _ _ _ _ _ _ _).1) (fun _ => ⟨rfl, rfl⟩) (by simp [mfs]) ((hΩ _ _ _ _ _ _ _ _ _ _ _ _ _ _ _).2.2.2.2.2.2.1 _ _ _ _ _ _ _ _ _ _) ?_
  refine G_aload_n dX4_undo_5 rfl ?_
  refine G_getf dX4_undo_6 fX4_undo_33 ((hΩ _ _ _ _ _ _ _ _ _ _ _ _ _ _ _).1) (rfl) ?_
  refine G_if_neN (a := m + 1) 18 dX4_undo_9 (by decide) (by omega) (fun c9 => ?_) (fun c9 => ?_)
  · refine G_aload_n dX4_undo_18 rfl ?_
    refine G_dup dX4_undo_19 rfl ?_
    refine G_getf dX4_undo_20 fX4_undo_33 ((hΩ _ _ _ _ _ _ _ _ _ _ _ _ _ _ _).1) (rfl) ?_
    refine G_iconst (v := 1) dX4_undo_23 (by decide) ?_
    refine G_isubN (a := m + 1) (c := 1) (s := m) dX4_undo_24 (by omega) ?_
    refine G_putf dX4_undo_25 pX4_undo_33 ((hΩ _ _ _ _ _ _ _ _ _ _ _ _ _ _ _).1) (fun _ => ⟨rfl, rfl⟩) (by simp [mfs]) ((hΩ _ _ _ _ _ _ _ _ _ _ _ _ _ _ _).2.2.2.2.2.2.1 _ _ _ _ _ _ _ _ _ _) ?_
    refine G_iconst (v := 0) dX4_undo_28 (by decide) ?_
    refine G_istore_n dX4_undo_29 rfl (L' := [some (.ref mp), some (.int 0)]) rfl ?_
    refine ml_undo hΩ hm (F := itr (fun i a => upd a i (sv (157 * m + i))) 157 0 f) (fun y => ?_) 157 0 f (by omega) rfl
    refine G_aeq (f' := (fun j => sv (157 * m + j))) ((hΩ _ _ _ _ _ _ _ _ _ _ _ _ _ _ _).2.1) (fun j hj => ?_) ((hΩ _ _ _ _ _ _ _ _ _ _ _ _ _ _ _).2.2.2.2.2.2.2.1 _) ?_
    · rw [take_at, if_pos (by omega)]
    refine G_aload_n dX4_undo_64 rfl ?_
    refine G_getf dX4_undo_65 fX4_undo_33 ((hΩ _ _ _ _ _ _ _ _ _ _ _ _ _ _ _).1) (rfl) ?_
    exact G_iret dX4_undo_68 ⟨Nat.zero_le _, Nat.zero_le _⟩ (rfl)
  · exact (show False by omega).elim
theorem ml_keep (hΩ : MV mp p1 p2 p3 p5 p7 Ω) {th hs sg fi se t3 : Int32} {f sp sv bf : mj_S} {m ln i : Nat} {hh : Int64} {X : mj_R} {F : mj_S}  (K : ∀ y : Option Value, GG l cX4_keep MX4_keep false X 32 [some (.ref mp), y] [] (Ω th f sp sv m F hs bf ln i sg fi se t3 hh) 0 0) : ∀ (d c : Nat) (sn : mj_S), c + d = 157 → F = itr (fun i a => upd a i (f i)) d c sn → GG l cX4_keep MX4_keep false X 7 [some (.ref mp), some (.int (nI (c)))] [] (Ω th f sp sv m sn hs bf ln i sg fi se t3 hh) 0 0
  | 0, c, sn, hc, hr => by
    refine G_iload_n dX4_keep_7 rfl ?_
    refine G_sipush (v := 157) dX4_keep_8 (by decide) ?_
    refine G_icmp_geN (a := c) (c := 157) 32 dX4_keep_11 (by decide) (by omega) (fun c11 => ?_) (fun c11 => ?_)
    · rw [itr_0] at hr
      subst hr
      exact K _
    · exact (show False by omega).elim
  | d + 1, c, sn, hc, hr => by
    refine G_iload_n dX4_keep_7 rfl ?_
    refine G_sipush (v := 157) dX4_keep_8 (by decide) ?_
    refine G_icmp_geN (a := c) (c := 157) 32 dX4_keep_11 (by decide) (by omega) (fun c11 => ?_) (fun c11 => ?_)
    · exact (show False by omega).elim
    · refine G_aload_n dX4_keep_14 rfl ?_
      refine G_getf dX4_keep_15 fX4_keep_19 ((hΩ _ _ _ _ _ _ _ _ _ _ _ _ _ _ _).1) (rfl) ?_
      refine G_iload_n dX4_keep_18 rfl ?_
      refine G_aload_n dX4_keep_19 rfl ?_
      refine G_getf dX4_keep_20 fX4_keep_7 ((hΩ _ _ _ _ _ _ _ _ _ _ _ _ _ _ _).1) (rfl) ?_
      refine G_iload_n dX4_keep_23 rfl ?_
      refine G_ialdN (j := c) dX4_keep_24 ((hΩ _ _ _ _ _ _ _ _ _ _ _ _ _ _ _).2.1) (by omega) ?_
      obtain ⟨f1, ef1⟩ : ∃ z : mj_S, z = upd sn (c) (f (c)) := ⟨_, rfl⟩
      refine G_iastN (j := c) dX4_keep_25 ((hΩ _ _ _ _ _ _ _ _ _ _ _ _ _ _ _).2.2.2.2.1) (by omega) (((hΩ _ _ _ _ _ _ _ _ _ _ _ _ _ _ _).2.2.2.2.2.2.2.2.2.2.1 _).trans (congrArg (fun z => Ω th f sp sv m z hs bf ln i sg fi se t3 hh) ef1.symm)) ?_
      refine G_iincN (a := c) (s := c + 1) dX4_keep_26 rfl (by omega) (L' := [some (.ref mp), some (.int (nI (c + 1)))]) rfl ?_
      refine G_goto 7 dX4_keep_29 (by decide) ?_
      exact ml_keep hΩ K d (c + 1) _ (by omega) (by rw [hr, itr_s, ef1])
theorem m_keep (hΩ : MV mp p1 p2 p3 p5 p7 Ω) {th hs sg fi se t3 : Int32} {f sp sv sn bf : mj_S} {m ln i : Nat} {hh : Int64} : MC l yX4_keep wsX4_keep rmX4_keep false [.ref mp] (Ω th f sp sv m sn hs bf ln i sg fi se t3 hh) (some (.int (f 0))) (Ω 0 f sp sv m f 1 bf ln i sg fi se t3 hh) := by
  refine mj_MC (cc := cX4_keep) (nl := 2) (ret := (some .int)) (plainFor_of_name (by decide)) rfl (⟨_, rfl, rfl⟩) (Nat.le_of_ble_eq_true rfl) ?_
  show GG l cX4_keep MX4_keep false (.inl ((some (.int (f 0))), Ω 0 f sp sv m f 1 bf ln i sg fi se t3 hh)) 0 [some (.ref mp), none] [] (Ω th f sp sv m sn hs bf ln i sg fi se t3 hh) 0 0
  refine G_aload_n dX4_keep_0 rfl ?_
  refine G_iconst (v := 0) dX4_keep_1 (by decide) ?_
  refine G_putf dX4_keep_2 pX4_keep_25 ((hΩ _ _ _ _ _ _ _ _ _ _ _ _ _ _ _).1) (fun _ => ⟨rfl, rfl⟩) (by simp [mfs]) ((hΩ _ _ _ _ _ _ _ _ _ _ _ _ _ _ _).2.2.2.2.2.2.1 _ _ _ _ _ _ _ _ _ _) ?_
  refine G_iconst (v := 0) dX4_keep_5 (by decide) ?_
  refine G_istore_n dX4_keep_6 rfl (L' := [some (.ref mp), some (.int 0)]) rfl ?_
  refine ml_keep hΩ (F := itr (fun i a => upd a i (f i)) 157 0 sn) (fun y => ?_) 157 0 sn (by omega) rfl
  refine G_aeq (f' := f) ((hΩ _ _ _ _ _ _ _ _ _ _ _ _ _ _ _).2.2.2.2.1) (fun j hj => ?_) ((hΩ _ _ _ _ _ _ _ _ _ _ _ _ _ _ _).2.2.2.2.2.2.2.2.2.2.1 _) ?_
  · rw [copy_at, if_pos (by omega)]
  refine G_aload_n dX4_keep_32 rfl ?_
  refine G_iconst (v := 1) dX4_keep_33 (by decide) ?_
  refine G_putf dX4_keep_34 pX4_keep_40 ((hΩ _ _ _ _ _ _ _ _ _ _ _ _ _ _ _).1) (fun _ => ⟨rfl, rfl⟩) (by simp [mfs]) ((hΩ _ _ _ _ _ _ _ _ _ _ _ _ _ _ _).2.2.2.2.2.2.1 _ _ _ _ _ _ _ _ _ _) ?_
  refine G_aload_n dX4_keep_37 rfl ?_
  refine G_getf dX4_keep_38 fX4_keep_7 ((hΩ _ _ _ _ _ _ _ _ _ _ _ _ _ _ _).1) (rfl) ?_
  refine G_iconst (v := 0) dX4_keep_41 (by decide) ?_
  refine G_ialdN (j := 0) dX4_keep_42 ((hΩ _ _ _ _ _ _ _ _ _ _ _ _ _ _ _).2.1) (by omega) ?_
  exact G_iret dX4_keep_43 ⟨Nat.zero_le _, Nat.zero_le _⟩ (rfl)
theorem m_restore_1 (hΩ : MV mp p1 p2 p3 p5 p7 Ω) {th hs sg fi se t3 : Int32} {f sp sv sn bf : mj_S} {m ln i : Nat} {hh : Int64} : MC l yX4_restore wsX4_restore rmX4_restore false [.ref mp] (Ω th f sp sv m sn 0 bf ln i sg fi se t3 hh) (some (.int 0)) (Ω 1 f sp sv m sn 0 bf ln i sg fi se t3 hh) := by
  refine mj_MC (cc := cX4_restore) (nl := 2) (ret := (some .int)) (plainFor_of_name (by decide)) rfl (⟨_, rfl, rfl⟩) (Nat.le_of_ble_eq_true rfl) ?_
  show GG l cX4_restore MX4_restore false (.inl ((some (.int 0)), Ω 1 f sp sv m sn 0 bf ln i sg fi se t3 hh)) 0 [some (.ref mp), none] [] (Ω th f sp sv m sn 0 bf ln i sg fi se t3 hh) 0 0
  refine G_aload_n dX4_restore_0 rfl ?_
  refine G_iconst (v := 0) dX4_restore_1 (by decide) ?_
  refine G_putf dX4_restore_2 pX4_restore_25 ((hΩ _ _ _ _ _ _ _ _ _ _ _ _ _ _ _).1) (fun _ => ⟨rfl, rfl⟩) (by simp [mfs]) ((hΩ _ _ _ _ _ _ _ _ _ _ _ _ _ _ _).2.2.2.2.2.2.1 _ _ _ _ _ _ _ _ _ _) ?_
  refine G_aload_n dX4_restore_5 rfl ?_
  refine G_getf dX4_restore_6 fX4_restore_40 ((hΩ _ _ _ _ _ _ _ _ _ _ _ _ _ _ _).1) (rfl) ?_
  refine G_if_neN (a := 0) 18 dX4_restore_9 (by decide) (by omega) (fun c9 => ?_) (fun c9 => ?_)
  · exact (show False by omega).elim
  · refine G_aload_n dX4_restore_12 rfl ?_
    refine G_iconst (v := 1) dX4_restore_13 (by decide) ?_
    refine G_callVi dX4_restore_14 kX4_restore_X4_fails ⟨rfl, rfl⟩ ⟨Nat.zero_le _, Nat.zero_le _⟩ (m_fails hΩ) rfl rfl ((hΩ _ _ _ _ _ _ _ _ _ _ _ _ _ _ _).1) rfl rfl ?_
    exact G_iret dX4_restore_17 ⟨Nat.zero_le _, Nat.zero_le _⟩ (rfl)
theorem ml_restore (hΩ : MV mp p1 p2 p3 p5 p7 Ω) {th hs sg fi se t3 : Int32} {sp sv sn bf : mj_S} {m ln i : Nat} {hh : Int64} {X : mj_R} {F : mj_S}  (K : ∀ y : Option Value, GG l cX4_restore MX4_restore false X 49 [some (.ref mp), y] [] (Ω th F sp sv m sn hs bf ln i sg fi se t3 hh) 0 0) : ∀ (d c : Nat) (f : mj_S), c + d = 157 → F = itr (fun i a => upd a i (sn i)) d c f → GG l cX4_restore MX4_restore false X 24 [some (.ref mp), some (.int (nI (c)))] [] (Ω th f sp sv m sn hs bf ln i sg fi se t3 hh) 0 0
  | 0, c, f, hc, hr => by
    refine G_iload_n dX4_restore_24 rfl ?_
    refine G_sipush (v := 157) dX4_restore_25 (by decide) ?_
    refine G_icmp_geN (a := c) (c := 157) 49 dX4_restore_28 (by decide) (by omega) (fun c28 => ?_) (fun c28 => ?_)
    · rw [itr_0] at hr
      subst hr
      exact K _
    · exact (show False by omega).elim
  | d + 1, c, f, hc, hr => by
    refine G_iload_n dX4_restore_24 rfl ?_
    refine G_sipush (v := 157) dX4_restore_25 (by decide) ?_
    refine G_icmp_geN (a := c) (c := 157) 49 dX4_restore_28 (by decide) (by omega) (fun c28 => ?_) (fun c28 => ?_)
    · exact (show False by omega).elim
    · refine G_aload_n dX4_restore_31 rfl ?_
      refine G_getf dX4_restore_32 fX4_restore_7 ((hΩ _ _ _ _ _ _ _ _ _ _ _ _ _ _ _).1) (rfl) ?_
      refine G_iload_n dX4_restore_35 rfl ?_
      refine G_aload_n dX4_restore_36 rfl ?_
      refine G_getf dX4_restore_37 fX4_restore_19 ((hΩ _ _ _ _ _ _ _ _ _ _ _ _ _ _ _).1) (rfl) ?_
      refine G_iload_n dX4_restore_40 rfl ?_
      refine G_ialdN (j := c) dX4_restore_41 ((hΩ _ _ _ _ _ _ _ _ _ _ _ _ _ _ _).2.2.2.2.1) (by omega) ?_
      obtain ⟨f1, ef1⟩ : ∃ z : mj_S, z = upd f (c) (sn (c)) := ⟨_, rfl⟩
      refine G_iastN (j := c) dX4_restore_42 ((hΩ _ _ _ _ _ _ _ _ _ _ _ _ _ _ _).2.1) (by omega) (((hΩ _ _ _ _ _ _ _ _ _ _ _ _ _ _ _).2.2.2.2.2.2.2.1 _).trans (congrArg (fun z => Ω th z sp sv m sn hs bf ln i sg fi se t3 hh) ef1.symm)) ?_
      refine G_iincN (a := c) (s := c + 1) dX4_restore_43 rfl (by omega) (L' := [some (.ref mp), some (.int (nI (c + 1)))]) rfl ?_
      refine G_goto 24 dX4_restore_46 (by decide) ?_
      exact ml_restore hΩ K d (c + 1) _ (by omega) (by rw [hr, itr_s, ef1])
theorem m_restore (hΩ : MV mp p1 p2 p3 p5 p7 Ω) {th hs sg fi se t3 : Int32} {f sp sv sn bf : mj_S} {m ln i : Nat} {hh : Int64} (hm : m ≤ 6) : MC l yX4_restore wsX4_restore rmX4_restore false [.ref mp] (Ω th f sp sv m sn 1 bf ln i sg fi se t3 hh) (some (.int (sn 0))) (Ω 0 sn sp (s_save f sv m) (s_svm m) sn 1 bf ln i sg fi se t3 hh) := by
  refine mj_MC (cc := cX4_restore) (nl := 2) (ret := (some .int)) (plainFor_of_name (by decide)) rfl (⟨_, rfl, rfl⟩) (Nat.le_of_ble_eq_true rfl) ?_
  show GG l cX4_restore MX4_restore false (.inl ((some (.int (sn 0))), Ω 0 sn sp (s_save f sv m) (s_svm m) sn 1 bf ln i sg fi se t3 hh)) 0 [some (.ref mp), none] [] (Ω th f sp sv m sn 1 bf ln i sg fi se t3 hh) 0 0
  refine G_aload_n dX4_restore_0 rfl ?_
  refine G_iconst (v := 0) dX4_restore_1 (by decide) ?_
  refine G_putf dX4_restore_2 pX4_restore_25 ((hΩ _ _ _ _ _ _ _ _ _ _ _ _ _ _ _).1) (fun _ => ⟨rfl, rfl⟩) (by simp [mfs]) ((hΩ _ _ _ _ _ _ _ _ _ _ _ _ _ _ _).2.2.2.2.2.2.1 _ _ _ _ _ _ _ _ _ _) ?_
  refine G_aload_n dX4_restore_5 rfl ?_
  refine G_getf dX4_restore_6 fX4_restore_40 ((hΩ _ _ _ _ _ _ _ _ _ _ _ _ _ _ _).1) (rfl) ?_
  refine G_if_neN (a := 1) 18 dX4_restore_9 (by decide) (by omega) (fun c9 => ?_) (fun c9 => ?_)
  · refine G_aload_n dX4_restore_18 rfl ?_
    refine G_callVv dX4_restore_19 kX4_restore_X4_save ⟨rfl, rfl⟩ ⟨Nat.zero_le _, Nat.zero_le _⟩ (m_save hΩ (by omega)) rfl rfl ((hΩ _ _ _ _ _ _ _ _ _ _ _ _ _ _ _).1) rfl rfl ?_
    refine G_iconst (v := 0) dX4_restore_22 (by decide) ?_
    refine G_istore_n dX4_restore_23 rfl (L' := [some (.ref mp), some (.int 0)]) rfl ?_
    refine ml_restore hΩ (F := itr (fun i a => upd a i (sn i)) 157 0 f) (fun y => ?_) 157 0 f (by omega) rfl
    refine G_aeq (f' := sn) ((hΩ _ _ _ _ _ _ _ _ _ _ _ _ _ _ _).2.1) (fun j hj => ?_) ((hΩ _ _ _ _ _ _ _ _ _ _ _ _ _ _ _).2.2.2.2.2.2.2.1 _) ?_
    · rw [copy_at, if_pos (by omega)]
    refine G_aload_n dX4_restore_49 rfl ?_
    refine G_getf dX4_restore_50 fX4_restore_7 ((hΩ _ _ _ _ _ _ _ _ _ _ _ _ _ _ _).1) (rfl) ?_
    refine G_iconst (v := 0) dX4_restore_53 (by decide) ?_
    refine G_ialdN (j := 0) dX4_restore_54 ((hΩ _ _ _ _ _ _ _ _ _ _ _ _ _ _ _).2.1) (by omega) ?_
    exact G_iret dX4_restore_55 ⟨Nat.zero_le _, Nat.zero_le _⟩ (rfl)
  · exact (show False by omega).elim
end RH

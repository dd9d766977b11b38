/-! REFERENCE: its text -/
def nx (t : Nat → Nat) (n i : Nat) : Nat := if i < n then t i else 0
theorem nx_in {g : mj_S} {n : Nat} {t : Nat → Nat} (h : TX g n t) (i : Nat) : nx t n i < 127 := by
  unfold nx; split
  · rename_i hi; have := h.2 i hi; omega
  · omega
theorem td_no : ∀ x, x < 127 → ∀ h, h < 10 → ¬ (48 ≤ x ∧ x ≤ 48 + h) → ¬ ((0 : Int32) ≤ nI x - 48 ∧ nI x - 48 ≤ nI h) := by decide +kernel
def td (t : Nat → Nat) (n i h : Nat) : Int32 := if 48 ≤ nx t n i ∧ nx t n i ≤ 48 + h then nI (nx t n i - 48) else -1
def ti (t : Nat → Nat) (n i h : Nat) : Nat := if 48 ≤ nx t n i ∧ nx t n i ≤ 48 + h then i + 1 else i
def tk (t : Nat → Nat) (n i c : Nat) : Nat := if nx t n i = c then 1 else 0
def tj (t : Nat → Nat) (n i c : Nat) : Nat := if nx t n i = c then i + 1 else i
theorem ti_le (t : Nat → Nat) (n i h : Nat) : ti t n i h ≤ i + 1 := by unfold ti; split <;> omega
theorem tj_le (t : Nat → Nat) (n i c : Nat) : tj t n i c ≤ i + 1 ∧ tk t n i c ≤ 1 := by unfold tj tk; split <;> omega
def r_work (t : Nat → Nat) (n i : Nat) (se t3 : Int32) : Nat × Nat × Int32 × Int32 × Int32 :=
  if td t n i 5 = -1 then (0, ti t n i 5, td t n i 5, se, t3) else
  if tk t n (ti t n i 5) 62 = 0 then (0, tj t n (ti t n i 5) 62, td t n i 5, se, t3) else
  if td t n (tj t n (ti t n i 5) 62) 4 = -1 then (0, ti t n (tj t n (ti t n i 5) 62) 4, td t n i 5, td t n (tj t n (ti t n i 5) 62) 4, t3) else
  if tk t n (ti t n (tj t n (ti t n i 5) 62) 4) 47 = 0 then (0, tj t n (ti t n (tj t n (ti t n i 5) 62) 4) 47, td t n i 5, td t n (tj t n (ti t n i 5) 62) 4, t3) else
  if td t n (tj t n (ti t n (tj t n (ti t n i 5) 62) 4) 47) 3 = -1 then (0, ti t n (tj t n (ti t n (tj t n (ti t n i 5) 62) 4) 47) 3, td t n i 5, td t n (tj t n (ti t n i 5) 62) 4, td t n (tj t n (ti t n (tj t n (ti t n i 5) 62) 4) 47) 3) else
  (1, ti t n (tj t n (ti t n (tj t n (ti t n i 5) 62) 4) 47) 3, td t n i 5, td t n (tj t n (ti t n i 5) 62) 4, td t n (tj t n (ti t n (tj t n (ti t n i 5) 62) 4) 47) 3)
def r_days (t : Nat → Nat) (n i : Nat) (fi : Int32) : Nat × Nat × Int32 :=
  if 49 ≤ nx t n i ∧ nx t n i ≤ 57 then
    (if (48 ≤ nx t n (i + 1) ∧ nx t n (i + 1) ≤ 57) ∧ 10 * (nx t n i - 48) + (nx t n (i + 1) - 48) ≤ 60 then (1, i + 2, nI ((nx t n (i + 1) - 48) + 10 * (nx t n i - 48))) else (1, i + 1, nI (nx t n i - 48)))
  else (0, i, fi)
def r_part (t : Nat → Nat) (n i : Nat) (fi se t3 : Int32) : Nat × Nat × Int32 × Int32 × Int32 × Int32 :=
  if nx t n i = 99 then ((r_work t n (i + 1) se t3).1, (r_work t n (i + 1) se t3).2.1, 99, (r_work t n (i + 1) se t3).2.2.1, (r_work t n (i + 1) se t3).2.2.2.1, (r_work t n (i + 1) se t3).2.2.2.2) else
  if nx t n i = 114 then (if td t n (i + 1) 5 = -1 then 0 else 1, ti t n (i + 1) 5, 114, td t n (i + 1) 5, se, t3) else
  if nx t n i = 43 then ((r_days t n (i + 1) fi).1, (r_days t n (i + 1) fi).2.1, 43, (r_days t n (i + 1) fi).2.2, se, t3) else
  if nx t n i = 42 then (1, i + 1, 42, fi, se, t3) else (0, i, nI (nx t n i), fi, se, t3)
theorem nb1 {x : Nat} (h : x ≤ 1) : narrow .boolean (.int (nI x)) = .int (nI x) := by
  rcases (show x = 0 ∨ x = 1 by omega) with rfl | rfl <;> rfl
theorem r_work_le (t : Nat → Nat) (n i : Nat) (se t3 : Int32) : (r_work t n i se t3).1 ≤ 1 := by
  unfold r_work; repeat' split
  all_goals simp
theorem r_days_le (t : Nat → Nat) (n i : Nat) (fi : Int32) : (r_days t n i fi).1 ≤ 1 := by
  unfold r_days; repeat' split
  all_goals simp
theorem r_part_le (t : Nat → Nat) (n i : Nat) (fi se t3 : Int32) : (r_part t n i fi se t3).1 ≤ 1 := by
  unfold r_part; repeat' split
  all_goals first | exact r_work_le _ _ _ _ _ | exact r_days_le _ _ _ _ | simp
section RE
variable {l : Launch} {mp p1 p2 p3 p5 p7 : Nat} {Ω : MT}
theorem m_next1 (hΩ : MV mp p1 p2 p3 p5 p7 Ω) {th hs sg fi se t3 : Int32} {f sp sv sn bf : mj_S} {m ln i : Nat} {hh : Int64} {t : Nat → Nat} (hX : TX bf ln t) (hi : i < 1000) (hin : i < ln) : MC l yX4_next wsX4_next rmX4_next false [.ref mp] (Ω th f sp sv m sn hs bf ln i sg fi se t3 hh) (some (.int (nI (nx t ln i)))) (Ω th f sp sv m sn hs bf ln i sg fi se t3 hh) := by
  refine mj_MC (cc := cX4_next) (nl := 1) (ret := (some .int)) (plainFor_of_name (by decide)) rfl (⟨_, rfl, rfl⟩) (Nat.le_of_ble_eq_true rfl) ?_
  show GG l cX4_next MX4_next false (.inl ((some (.int (nI (nx t ln i)))), Ω th f sp sv m sn hs bf ln i sg fi se t3 hh)) 0 [some (.ref mp)] [] (Ω th f sp sv m sn hs bf ln i sg fi se t3 hh) 0 0
  have hlen := hX.1
  refine G_aload_n dX4_next_0 rfl ?_
  refine G_getf dX4_next_1 fX4_next_140 ((hΩ _ _ _ _ _ _ _ _ _ _ _ _ _ _ _).1) (rfl) ?_
  refine G_aload_n dX4_next_4 rfl ?_
  refine G_getf dX4_next_5 fX4_next_137 ((hΩ _ _ _ _ _ _ _ _ _ _ _ _ _ _ _).1) (rfl) ?_
  refine G_icmp_geN (a := i) (c := ln) 23 dX4_next_8 (by decide) (by omega) (fun c8 => ?_) (fun c8 => ?_)
  · exact (show False by omega).elim
  · refine G_aload_n dX4_next_11 rfl ?_
    refine G_getf dX4_next_12 fX4_next_22 ((hΩ _ _ _ _ _ _ _ _ _ _ _ _ _ _ _).1) (rfl) ?_
    refine G_aload_n dX4_next_15 rfl ?_
    refine G_getf dX4_next_16 fX4_next_140 ((hΩ _ _ _ _ _ _ _ _ _ _ _ _ _ _ _).1) (rfl) ?_
    refine G_ialdN (j := i) dX4_next_19 ((hΩ _ _ _ _ _ _ _ _ _ _ _ _ _ _ _).2.2.2.2.2.1) (by omega) ?_
    refine G_goto 24 dX4_next_20 (by decide) ?_
    exact G_iret dX4_next_24 ⟨Nat.zero_le _, Nat.zero_le _⟩ (X_i (by rw [nx, if_pos hin]; exact (hX.2 i hin).1.symm))
theorem m_next0 (hΩ : MV mp p1 p2 p3 p5 p7 Ω) {th hs sg fi se t3 : Int32} {f sp sv sn bf : mj_S} {m ln i : Nat} {hh : Int64} {t : Nat → Nat} (hX : TX bf ln t) (hi : i < 1000) (hin : ¬ i < ln) : MC l yX4_next wsX4_next rmX4_next false [.ref mp] (Ω th f sp sv m sn hs bf ln i sg fi se t3 hh) (some (.int (nI (nx t ln i)))) (Ω th f sp sv m sn hs bf ln i sg fi se t3 hh) := by
  refine mj_MC (cc := cX4_next) (nl := 1) (ret := (some .int)) (plainFor_of_name (by decide)) rfl (⟨_, rfl, rfl⟩) (Nat.le_of_ble_eq_true rfl) ?_
  show GG l cX4_next MX4_next false (.inl ((some (.int (nI (nx t ln i)))), Ω th f sp sv m sn hs bf ln i sg fi se t3 hh)) 0 [some (.ref mp)] [] (Ω th f sp sv m sn hs bf ln i sg fi se t3 hh) 0 0
  have hlen := hX.1
  refine G_aload_n dX4_next_0 rfl ?_
  refine G_getf dX4_next_1 fX4_next_140 ((hΩ _ _ _ _ _ _ _ _ _ _ _ _ _ _ _).1) (rfl) ?_
  refine G_aload_n dX4_next_4 rfl ?_
  refine G_getf dX4_next_5 fX4_next_137 ((hΩ _ _ _ _ _ _ _ _ _ _ _ _ _ _ _).1) (rfl) ?_
  refine G_icmp_geN (a := i) (c := ln) 23 dX4_next_8 (by decide) (by omega) (fun c8 => ?_) (fun c8 => ?_)
  · refine G_iconst (v := 0) dX4_next_23 (by decide) ?_
    exact G_iret dX4_next_24 ⟨Nat.zero_le _, Nat.zero_le _⟩ (X_i (by rw [nx, if_neg hin]; rfl))
  · exact (show False by omega).elim
theorem m_next (hΩ : MV mp p1 p2 p3 p5 p7 Ω) {th hs sg fi se t3 : Int32} {f sp sv sn bf : mj_S} {m ln i : Nat} {hh : Int64} {t : Nat → Nat} (hX : TX bf ln t) (hi : i < 1000) : MC l yX4_next wsX4_next rmX4_next false [.ref mp] (Ω th f sp sv m sn hs bf ln i sg fi se t3 hh) (some (.int (nI (nx t ln i)))) (Ω th f sp sv m sn hs bf ln i sg fi se t3 hh) := by
  by_cases hin : i < ln
  · exact m_next1 hΩ hX hi hin
  · exact m_next0 hΩ hX hi hin
theorem m_takes (hΩ : MV mp p1 p2 p3 p5 p7 Ω) {th hs sg fi se t3 : Int32} {f sp sv sn bf : mj_S} {m ln i : Nat} {hh : Int64} {t : Nat → Nat} (hX : TX bf ln t) (hi : i < 1000) {c : Nat} (hc : c < 1000) : MC l yX4_takes wsX4_takes rmX4_takes false [.ref mp, .int (nI (c))] (Ω th f sp sv m sn hs bf ln i sg fi se t3 hh) (some (.int (nI (tk t ln i c)))) (Ω th f sp sv m sn hs bf ln (tj t ln i c) sg fi se t3 hh) := by
  refine mj_MC (cc := cX4_takes) (nl := 3) (ret := (some .boolean)) (plainFor_of_name (by decide)) rfl (⟨_, rfl, nb1 (tj_le t ln i c).2⟩) (Nat.le_of_ble_eq_true rfl) ?_
  show GG l cX4_takes MX4_takes false (.inl ((some (.int (nI (tk t ln i c)))), Ω th f sp sv m sn hs bf ln (tj t ln i c) sg fi se t3 hh)) 0 [some (.ref mp), some (.int (nI (c))), none] [] (Ω th f sp sv m sn hs bf ln i sg fi se t3 hh) 0 0
  refine G_aload_n dX4_takes_0 rfl ?_
  have := nx_in hX (i)
  refine G_callVi dX4_takes_1 kX4_takes_X4_next ⟨rfl, rfl⟩ ⟨Nat.zero_le _, Nat.zero_le _⟩ (m_next hΩ hX (i := i) (by omega)) rfl rfl ((hΩ _ _ _ _ _ _ _ _ _ _ _ _ _ _ _).1) rfl rfl ?_
  refine G_iload_n dX4_takes_4 rfl ?_
  refine G_icmp_neN (a := (nx t ln (i))) (c := c) 12 dX4_takes_5 (by decide) (by omega) (fun c5 => ?_) (fun c5 => ?_)
  · refine G_iconst (v := 0) dX4_takes_12 (by decide) ?_
    refine G_istore_n dX4_takes_13 rfl (L' := [some (.ref mp), some (.int (nI (c))), some (.int 0)]) rfl ?_
    refine G_aload_n dX4_takes_14 rfl ?_
    refine G_dup dX4_takes_15 rfl ?_
    refine G_getf dX4_takes_16 fX4_takes_140 ((hΩ _ _ _ _ _ _ _ _ _ _ _ _ _ _ _).1) (rfl) ?_
    refine G_iload_n dX4_takes_19 rfl ?_
    refine G_if_eqN (a := 0) 27 dX4_takes_20 (by decide) (by omega) (fun c20 => ?_) (fun c20 => ?_)
    · refine G_iconst (v := 0) dX4_takes_27 (by decide) ?_
      refine G_iaddN (a := i) (c := 0) (s := i) dX4_takes_28 (by omega) ?_
      refine G_putf dX4_takes_29 pX4_takes_140 ((hΩ _ _ _ _ _ _ _ _ _ _ _ _ _ _ _).1) (fun _ => ⟨rfl, rfl⟩) (by simp [mfs]) ((hΩ _ _ _ _ _ _ _ _ _ _ _ _ _ _ _).2.2.2.2.2.2.1 _ _ _ _ _ _ _ _ _ _) ?_
      refine G_iload_n dX4_takes_32 rfl ?_
      exact G_iret dX4_takes_33 ⟨Nat.zero_le _, Nat.zero_le _⟩ (by rw [tk, tj, if_neg c5, if_neg c5]; rfl)
    · exact (show False by omega).elim
  · refine G_iconst (v := 1) dX4_takes_8 (by decide) ?_
    refine G_goto 13 dX4_takes_9 (by decide) ?_
    refine G_istore_n dX4_takes_13 rfl (L' := [some (.ref mp), some (.int (nI (c))), some (.int 1)]) rfl ?_
    refine G_aload_n dX4_takes_14 rfl ?_
    refine G_dup dX4_takes_15 rfl ?_
    refine G_getf dX4_takes_16 fX4_takes_140 ((hΩ _ _ _ _ _ _ _ _ _ _ _ _ _ _ _).1) (rfl) ?_
    refine G_iload_n dX4_takes_19 rfl ?_
    refine G_if_eqN (a := 1) 27 dX4_takes_20 (by decide) (by omega) (fun c20 => ?_) (fun c20 => ?_)
    · exact (show False by omega).elim
    · refine G_iconst (v := 1) dX4_takes_23 (by decide) ?_
      refine G_goto 28 dX4_takes_24 (by decide) ?_
      refine G_iaddN (a := i) (c := 1) (s := i + 1) dX4_takes_28 (by omega) ?_
      refine G_putf dX4_takes_29 pX4_takes_140 ((hΩ _ _ _ _ _ _ _ _ _ _ _ _ _ _ _).1) (fun _ => ⟨rfl, rfl⟩) (by simp [mfs]) ((hΩ _ _ _ _ _ _ _ _ _ _ _ _ _ _ _).2.2.2.2.2.2.1 _ _ _ _ _ _ _ _ _ _) ?_
      refine G_iload_n dX4_takes_32 rfl ?_
      exact G_iret dX4_takes_33 ⟨Nat.zero_le _, Nat.zero_le _⟩ (by rw [tk, tj, if_pos c5, if_pos c5]; rfl)
theorem m_takeDigit1 (hΩ : MV mp p1 p2 p3 p5 p7 Ω) {th hs sg fi se t3 : Int32} {f sp sv sn bf : mj_S} {m ln i : Nat} {hh : Int64} {t : Nat → Nat} (hX : TX bf ln t) (hi : i < 1000) {h : Nat} (hh9 : h < 10) (hd : 48 ≤ nx t ln i ∧ nx t ln i ≤ 48 + h) : MC l yX4_takeDigit wsX4_takeDigit rmX4_takeDigit false [.ref mp, .int (nI (h))] (Ω th f sp sv m sn hs bf ln i sg fi se t3 hh) (some (.int (nI (nx t ln i - 48)))) (Ω th f sp sv m sn hs bf ln (i + 1) sg fi se t3 hh) := by
  refine mj_MC (cc := cX4_takeDigit) (nl := 4) (ret := (some .int)) (plainFor_of_name (by decide)) rfl (⟨_, rfl, rfl⟩) (Nat.le_of_ble_eq_true rfl) ?_
  show GG l cX4_takeDigit MX4_takeDigit false (.inl ((some (.int (nI (nx t ln i - 48)))), Ω th f sp sv m sn hs bf ln (i + 1) sg fi se t3 hh)) 0 [some (.ref mp), some (.int (nI (h))), none, none] [] (Ω th f sp sv m sn hs bf ln i sg fi se t3 hh) 0 0
  refine G_aload_n dX4_takeDigit_0 rfl ?_
  have := nx_in hX (i)
  refine G_callVi dX4_takeDigit_1 kX4_takeDigit_X4_next ⟨rfl, rfl⟩ ⟨Nat.zero_le _, Nat.zero_le _⟩ (m_next hΩ hX (i := i) (by omega)) rfl rfl ((hΩ _ _ _ _ _ _ _ _ _ _ _ _ _ _ _).1) rfl rfl ?_
  refine G_bipush (v := 48) dX4_takeDigit_4 (by decide) ?_
  refine G_isubN (a := (nx t ln (i))) (c := 48) (s := (((nx t ln (i))) - 48)) dX4_takeDigit_6 (by omega) ?_
  refine G_istore_n dX4_takeDigit_7 rfl (L' := [some (.ref mp), some (.int (nI (h))), some (.int (nI ((((nx t ln (i))) - 48)))), none]) rfl ?_
  refine G_iload_n dX4_takeDigit_8 rfl ?_
  refine G_iconst (v := 0) dX4_takeDigit_9 (by decide) ?_
  refine G_iload_n dX4_takeDigit_10 rfl ?_
  refine G_callSi dX4_takeDigit_11 kX4_takeDigit_X4_within ⟨rfl, rfl⟩ ⟨Nat.zero_le _, Nat.zero_le _⟩ (c_within1 ⟨(nI_leI (a := 0) (by omega) (by omega)).mpr (by omega), (nI_leI (by omega) (by omega)).mpr (by omega)⟩) rfl rfl rfl ?_
  refine G_istore_n dX4_takeDigit_14 rfl (L' := [some (.ref mp), some (.int (nI (h))), some (.int (nI ((((nx t ln (i))) - 48)))), some (.int 1)]) rfl ?_
  refine G_aload_n dX4_takeDigit_15 rfl ?_
  refine G_dup dX4_takeDigit_16 rfl ?_
  refine G_getf dX4_takeDigit_17 fX4_takeDigit_140 ((hΩ _ _ _ _ _ _ _ _ _ _ _ _ _ _ _).1) (rfl) ?_
  refine G_iload_n dX4_takeDigit_20 rfl ?_
  refine G_if_eqN (a := 1) 28 dX4_takeDigit_21 (by decide) (by omega) (fun c21 => ?_) (fun c21 => ?_)
  · exact (show False by omega).elim
  · refine G_iconst (v := 1) dX4_takeDigit_24 (by decide) ?_
    refine G_goto 29 dX4_takeDigit_25 (by decide) ?_
    refine G_iaddN (a := i) (c := 1) (s := i + 1) dX4_takeDigit_29 (by omega) ?_
    refine G_putf dX4_takeDigit_30 pX4_takeDigit_140 ((hΩ _ _ _ _ _ _ _ _ _ _ _ _ _ _ _).1) (fun _ => ⟨rfl, rfl⟩) (by simp [mfs]) ((hΩ _ _ _ _ _ _ _ _ _ _ _ _ _ _ _).2.2.2.2.2.2.1 _ _ _ _ _ _ _ _ _ _) ?_
    refine G_iload_n dX4_takeDigit_33 rfl ?_
    refine G_if_eqN (a := 1) 41 dX4_takeDigit_34 (by decide) (by omega) (fun c34 => ?_) (fun c34 => ?_)
    · exact (show False by omega).elim
    · refine G_iload_n dX4_takeDigit_37 rfl ?_
      refine G_goto 42 dX4_takeDigit_38 (by decide) ?_
      exact G_iret dX4_takeDigit_42 ⟨Nat.zero_le _, Nat.zero_le _⟩ (rfl)
theorem m_takeDigit0 (hΩ : MV mp p1 p2 p3 p5 p7 Ω) {th hs sg fi se t3 : Int32} {f sp sv sn bf : mj_S} {m ln i : Nat} {hh : Int64} {t : Nat → Nat} (hX : TX bf ln t) (hi : i < 1000) {h : Nat} (hh9 : h < 10) (hd : ¬ (48 ≤ nx t ln i ∧ nx t ln i ≤ 48 + h)) : MC l yX4_takeDigit wsX4_takeDigit rmX4_takeDigit false [.ref mp, .int (nI (h))] (Ω th f sp sv m sn hs bf ln i sg fi se t3 hh) (some (.int (-1))) (Ω th f sp sv m sn hs bf ln i sg fi se t3 hh) := by
  refine mj_MC (cc := cX4_takeDigit) (nl := 4) (ret := (some .int)) (plainFor_of_name (by decide)) rfl (⟨_, rfl, rfl⟩) (Nat.le_of_ble_eq_true rfl) ?_
  show GG l cX4_takeDigit MX4_takeDigit false (.inl ((some (.int (-1))), Ω th f sp sv m sn hs bf ln i sg fi se t3 hh)) 0 [some (.ref mp), some (.int (nI (h))), none, none] [] (Ω th f sp sv m sn hs bf ln i sg fi se t3 hh) 0 0
  refine G_aload_n dX4_takeDigit_0 rfl ?_
  have := nx_in hX (i)
  refine G_callVi dX4_takeDigit_1 kX4_takeDigit_X4_next ⟨rfl, rfl⟩ ⟨Nat.zero_le _, Nat.zero_le _⟩ (m_next hΩ hX (i := i) (by omega)) rfl rfl ((hΩ _ _ _ _ _ _ _ _ _ _ _ _ _ _ _).1) rfl rfl ?_
  refine G_bipush (v := 48) dX4_takeDigit_4 (by decide) ?_
  refine G_isub dX4_takeDigit_6 ?_
  refine G_istore_n dX4_takeDigit_7 rfl (L' := [some (.ref mp), some (.int (nI (h))), some (.int ((nI ((nx t ln (i)))) - 48)), none]) rfl ?_
  refine G_iload_n dX4_takeDigit_8 rfl ?_
  refine G_iconst (v := 0) dX4_takeDigit_9 (by decide) ?_
  refine G_iload_n dX4_takeDigit_10 rfl ?_
  refine G_callSi dX4_takeDigit_11 kX4_takeDigit_X4_within ⟨rfl, rfl⟩ ⟨Nat.zero_le _, Nat.zero_le _⟩ (c_within0 (td_no _ (nx_in hX i) h hh9 hd)) rfl rfl rfl ?_
  refine G_istore_n dX4_takeDigit_14 rfl (L' := [some (.ref mp), some (.int (nI (h))), some (.int ((nI ((nx t ln (i)))) - 48)), some (.int 0)]) rfl ?_
  refine G_aload_n dX4_takeDigit_15 rfl ?_
  refine G_dup dX4_takeDigit_16 rfl ?_
  refine G_getf dX4_takeDigit_17 fX4_takeDigit_140 ((hΩ _ _ _ _ _ _ _ _ _ _ _ _ _ _ _).1) (rfl) ?_
  refine G_iload_n dX4_takeDigit_20 rfl ?_
  refine G_if_eqN (a := 0) 28 dX4_takeDigit_21 (by decide) (by omega) (fun c21 => ?_) (fun c21 => ?_)
  · refine G_iconst (v := 0) dX4_takeDigit_28 (by decide) ?_
    refine G_iaddN (a := i) (c := 0) (s := i) dX4_takeDigit_29 (by omega) ?_
    refine G_putf dX4_takeDigit_30 pX4_takeDigit_140 ((hΩ _ _ _ _ _ _ _ _ _ _ _ _ _ _ _).1) (fun _ => ⟨rfl, rfl⟩) (by simp [mfs]) ((hΩ _ _ _ _ _ _ _ _ _ _ _ _ _ _ _).2.2.2.2.2.2.1 _ _ _ _ _ _ _ _ _ _) ?_
    refine G_iload_n dX4_takeDigit_33 rfl ?_
    refine G_if_eqN (a := 0) 41 dX4_takeDigit_34 (by decide) (by omega) (fun c34 => ?_) (fun c34 => ?_)
    · refine G_iconst (v := (-1)) dX4_takeDigit_41 (by decide) ?_
      exact G_iret dX4_takeDigit_42 ⟨Nat.zero_le _, Nat.zero_le _⟩ (rfl)
    · exact (show False by omega).elim
  · exact (show False by omega).elim
theorem m_takeDigit (hΩ : MV mp p1 p2 p3 p5 p7 Ω) {th hs sg fi se t3 : Int32} {f sp sv sn bf : mj_S} {m ln i : Nat} {hh : Int64} {t : Nat → Nat} (hX : TX bf ln t) (hi : i < 1000)  {h : Nat} (hh9 : h < 10) : MC l yX4_takeDigit wsX4_takeDigit rmX4_takeDigit false [.ref mp, .int (nI (h))] (Ω th f sp sv m sn hs bf ln i sg fi se t3 hh) (some (.int (td t ln i h))) (Ω th f sp sv m sn hs bf ln (ti t ln i h) sg fi se t3 hh) := by
  unfold td ti
  by_cases hd : 48 ≤ nx t ln i ∧ nx t ln i ≤ 48 + h
  · rw [if_pos hd, if_pos hd]; exact m_takeDigit1 hΩ hX hi hh9 hd
  · rw [if_neg hd, if_neg hd]; exact m_takeDigit0 hΩ hX hi hh9 hd
theorem m_readsWork (hΩ : MV mp p1 p2 p3 p5 p7 Ω) {th hs sg fi se t3 : Int32} {f sp sv sn bf : mj_S} {m ln i : Nat} {hh : Int64} {t : Nat → Nat} (hX : TX bf ln t) (hi : i < 990) : MC l yX4_readsWork wsX4_readsWork rmX4_readsWork false [.ref mp] (Ω th f sp sv m sn hs bf ln i sg fi se t3 hh) (some (.int (nI (r_work t ln i se t3).1))) (Ω th f sp sv m sn hs bf ln ((r_work t ln i se t3).2.1) sg ((r_work t ln i se t3).2.2.1) ((r_work t ln i se t3).2.2.2.1) ((r_work t ln i se t3).2.2.2.2) hh) := by
  refine mj_MC (cc := cX4_readsWork) (nl := 1) (ret := (some .boolean)) (plainFor_of_name (by decide)) rfl (⟨_, rfl, nb1 (r_work_le _ _ _ _ _)⟩) (Nat.le_of_ble_eq_true rfl) ?_
  show GG l cX4_readsWork MX4_readsWork false (.inl ((some (.int (nI (r_work t ln i se t3).1))), Ω th f sp sv m sn hs bf ln ((r_work t ln i se t3).2.1) sg ((r_work t ln i se t3).2.2.1) ((r_work t ln i se t3).2.2.2.1) ((r_work t ln i se t3).2.2.2.2) hh)) 0 [some (.ref mp)] [] (Ω th f sp sv m sn hs bf ln i sg fi se t3 hh) 0 0
  refine G_aload_n dX4_readsWork_0 rfl ?_
  refine G_aload_n dX4_readsWork_1 rfl ?_
  refine G_iconst (v := 5) dX4_readsWork_2 (by decide) ?_
  have := ti_le t ln (i) 5
  refine G_callVi dX4_readsWork_3 kX4_readsWork_X4_takeDigit ⟨rfl, rfl⟩ ⟨Nat.zero_le _, Nat.zero_le _⟩ (m_takeDigit hΩ hX (i := i) (h := 5) (by omega) (by omega)) rfl rfl ((hΩ _ _ _ _ _ _ _ _ _ _ _ _ _ _ _).1) rfl rfl ?_
  refine G_putf dX4_readsWork_6 pX4_readsWork_149 ((hΩ _ _ _ _ _ _ _ _ _ _ _ _ _ _ _).1) (fun _ => ⟨rfl, rfl⟩) (by simp [mfs]) ((hΩ _ _ _ _ _ _ _ _ _ _ _ _ _ _ _).2.2.2.2.2.2.1 _ _ _ _ _ _ _ _ _ _) ?_
  refine G_aload_n dX4_readsWork_9 rfl ?_
  refine G_getf dX4_readsWork_10 fX4_readsWork_149 ((hΩ _ _ _ _ _ _ _ _ _ _ _ _ _ _ _).1) (rfl) ?_
  refine G_iconst (v := (-1)) dX4_readsWork_13 (by decide) ?_
  refine G_icmp_eq 26 dX4_readsWork_14 (by decide) (fun c14 => ?_) (fun c14 => ?_)
  · refine G_iconst (v := 0) dX4_readsWork_26 (by decide) ?_
    exact G_iret dX4_readsWork_27 ⟨Nat.zero_le _, Nat.zero_le _⟩ (by rw [show r_work t ln i se t3 = (0, ti t ln i 5, (td t ln i 5), se, t3) from by rw [r_work, if_pos c14]]; rfl)
  · refine G_aload_n dX4_readsWork_17 rfl ?_
    refine G_bipush (v := 62) dX4_readsWork_18 (by decide) ?_
    have := tj_le t ln (ti t ln i 5) 62
    refine G_callVi dX4_readsWork_20 kX4_readsWork_X4_takes ⟨rfl, rfl⟩ ⟨Nat.zero_le _, Nat.zero_le _⟩ (m_takes hΩ hX (i := ti t ln i 5) (c := 62) (by omega) (by omega)) rfl rfl ((hΩ _ _ _ _ _ _ _ _ _ _ _ _ _ _ _).1) rfl rfl ?_
    refine G_if_neN (a := (tk t ln (ti t ln i 5) 62)) 28 dX4_readsWork_23 (by decide) (by omega) (fun c23 => ?_) (fun c23 => ?_)
    · refine G_aload_n dX4_readsWork_28 rfl ?_
      refine G_aload_n dX4_readsWork_29 rfl ?_
      refine G_iconst (v := 4) dX4_readsWork_30 (by decide) ?_
      have := ti_le t ln (tj t ln (ti t ln i 5) 62) 4
      refine G_callVi dX4_readsWork_31 kX4_readsWork_X4_takeDigit ⟨rfl, rfl⟩ ⟨Nat.zero_le _, Nat.zero_le _⟩ (m_takeDigit hΩ hX (i := tj t ln (ti t ln i 5) 62) (h := 4) (by omega) (by omega)) rfl rfl ((hΩ _ _ _ _ _ _ _ _ _ _ _ _ _ _ _).1) rfl rfl ?_
      refine G_putf dX4_readsWork_34 pX4_readsWork_155 ((hΩ _ _ _ _ _ _ _ _ _ _ _ _ _ _ _).1) (fun _ => ⟨rfl, rfl⟩) (by simp [mfs]) ((hΩ _ _ _ _ _ _ _ _ _ _ _ _ _ _ _).2.2.2.2.2.2.1 _ _ _ _ _ _ _ _ _ _) ?_
      refine G_aload_n dX4_readsWork_37 rfl ?_
      refine G_getf dX4_readsWork_38 fX4_readsWork_155 ((hΩ _ _ _ _ _ _ _ _ _ _ _ _ _ _ _).1) (rfl) ?_
      refine G_iconst (v := (-1)) dX4_readsWork_41 (by decide) ?_
      refine G_icmp_eq 54 dX4_readsWork_42 (by decide) (fun c42 => ?_) (fun c42 => ?_)
      · refine G_iconst (v := 0) dX4_readsWork_54 (by decide) ?_
        exact G_iret dX4_readsWork_55 ⟨Nat.zero_le _, Nat.zero_le _⟩ (by rw [show r_work t ln i se t3 = (0, ti t ln (tj t ln (ti t ln i 5) 62) 4, (td t ln i 5), (td t ln (tj t ln (ti t ln i 5) 62) 4), t3) from by rw [r_work, if_neg c14, if_neg (by omega), if_pos c42]]; rfl)
      · refine G_aload_n dX4_readsWork_45 rfl ?_
        refine G_bipush (v := 47) dX4_readsWork_46 (by decide) ?_
        have := tj_le t ln (ti t ln (tj t ln (ti t ln i 5) 62) 4) 47
        refine G_callVi dX4_readsWork_48 kX4_readsWork_X4_takes ⟨rfl, rfl⟩ ⟨Nat.zero_le _, Nat.zero_le _⟩ (m_takes hΩ hX (i := ti t ln (tj t ln (ti t ln i 5) 62) 4) (c := 47) (by omega) (by omega)) rfl rfl ((hΩ _ _ _ _ _ _ _ _ _ _ _ _ _ _ _).1) rfl rfl ?_
        refine G_if_neN (a := (tk t ln (ti t ln (tj t ln (ti t ln i 5) 62) 4) 47)) 56 dX4_readsWork_51 (by decide) (by omega) (fun c51 => ?_) (fun c51 => ?_)
        · refine G_aload_n dX4_readsWork_56 rfl ?_
          refine G_aload_n dX4_readsWork_57 rfl ?_
          refine G_iconst (v := 3) dX4_readsWork_58 (by decide) ?_
          have := ti_le t ln (tj t ln (ti t ln (tj t ln (ti t ln i 5) 62) 4) 47) 3
          refine G_callVi dX4_readsWork_59 kX4_readsWork_X4_takeDigit ⟨rfl, rfl⟩ ⟨Nat.zero_le _, Nat.zero_le _⟩ (m_takeDigit hΩ hX (i := tj t ln (ti t ln (tj t ln (ti t ln i 5) 62) 4) 47) (h := 3) (by omega) (by omega)) rfl rfl ((hΩ _ _ _ _ _ _ _ _ _ _ _ _ _ _ _).1) rfl rfl ?_
          refine G_putf dX4_readsWork_62 pX4_readsWork_158 ((hΩ _ _ _ _ _ _ _ _ _ _ _ _ _ _ _).1) (fun _ => ⟨rfl, rfl⟩) (by simp [mfs]) ((hΩ _ _ _ _ _ _ _ _ _ _ _ _ _ _ _).2.2.2.2.2.2.1 _ _ _ _ _ _ _ _ _ _) ?_
          refine G_aload_n dX4_readsWork_65 rfl ?_
          refine G_getf dX4_readsWork_66 fX4_readsWork_158 ((hΩ _ _ _ _ _ _ _ _ _ _ _ _ _ _ _).1) (rfl) ?_
          refine G_iconst (v := (-1)) dX4_readsWork_69 (by decide) ?_
          refine G_icmp_eq 77 dX4_readsWork_70 (by decide) (fun c70 => ?_) (fun c70 => ?_)
          · refine G_iconst (v := 0) dX4_readsWork_77 (by decide) ?_
            exact G_iret dX4_readsWork_78 ⟨Nat.zero_le _, Nat.zero_le _⟩ (by rw [show r_work t ln i se t3 = (0, ti t ln (tj t ln (ti t ln (tj t ln (ti t ln i 5) 62) 4) 47) 3, (td t ln i 5), (td t ln (tj t ln (ti t ln i 5) 62) 4), (td t ln (tj t ln (ti t ln (tj t ln (ti t ln i 5) 62) 4) 47) 3)) from by rw [r_work, if_neg c14, if_neg (by omega), if_neg c42, if_neg (by omega), if_pos c70]]; rfl)
          · refine G_iconst (v := 1) dX4_readsWork_73 (by decide) ?_
            refine G_goto 78 dX4_readsWork_74 (by decide) ?_
            exact G_iret dX4_readsWork_78 ⟨Nat.zero_le _, Nat.zero_le _⟩ (by rw [show r_work t ln i se t3 = (1, ti t ln (tj t ln (ti t ln (tj t ln (ti t ln i 5) 62) 4) 47) 3, (td t ln i 5), (td t ln (tj t ln (ti t ln i 5) 62) 4), (td t ln (tj t ln (ti t ln (tj t ln (ti t ln i 5) 62) 4) 47) 3)) from by rw [r_work, if_neg c14, if_neg (by omega), if_neg c42, if_neg (by omega), if_neg c70]]; rfl)
        · refine G_iconst (v := 0) dX4_readsWork_54 (by decide) ?_
          exact G_iret dX4_readsWork_55 ⟨Nat.zero_le _, Nat.zero_le _⟩ (by rw [show r_work t ln i se t3 = (0, tj t ln (ti t ln (tj t ln (ti t ln i 5) 62) 4) 47, (td t ln i 5), (td t ln (tj t ln (ti t ln i 5) 62) 4), t3) from by rw [r_work, if_neg c14, if_neg (by omega), if_neg c42, if_pos c51]]; rfl)
    · refine G_iconst (v := 0) dX4_readsWork_26 (by decide) ?_
      exact G_iret dX4_readsWork_27 ⟨Nat.zero_le _, Nat.zero_le _⟩ (by rw [show r_work t ln i se t3 = (0, tj t ln (ti t ln i 5) 62, (td t ln i 5), se, t3) from by rw [r_work, if_neg c14, if_pos c23]]; rfl)
theorem m_readsDays0 (hΩ : MV mp p1 p2 p3 p5 p7 Ω) {th hs sg fi se t3 : Int32} {f sp sv sn bf : mj_S} {m ln i : Nat} {hh : Int64} {t : Nat → Nat} (hX : TX bf ln t) (hi : i < 990) (h1 : ¬ (49 ≤ nx t ln i ∧ nx t ln i ≤ 57)) : MC l yX4_readsDays wsX4_readsDays rmX4_readsDays false [.ref mp] (Ω th f sp sv m sn hs bf ln i sg fi se t3 hh) (some (.int (nI (r_days t ln i fi).1))) (Ω th f sp sv m sn hs bf ln ((r_days t ln i fi).2.1) sg ((r_days t ln i fi).2.2) se t3 hh) := by
  refine mj_MC (cc := cX4_readsDays) (nl := 2) (ret := (some .boolean)) (plainFor_of_name (by decide)) rfl (⟨_, rfl, nb1 (r_days_le _ _ _ _)⟩) (Nat.le_of_ble_eq_true rfl) ?_
  show GG l cX4_readsDays MX4_readsDays false (.inl ((some (.int (nI (r_days t ln i fi).1))), Ω th f sp sv m sn hs bf ln ((r_days t ln i fi).2.1) sg ((r_days t ln i fi).2.2) se t3 hh)) 0 [some (.ref mp), none] [] (Ω th f sp sv m sn hs bf ln i sg fi se t3 hh) 0 0
  have := nx_in hX i
  have := nx_in hX (i + 1)
  refine G_aload_n dX4_readsDays_0 rfl ?_
  have := nx_in hX (i)
  refine G_callVi dX4_readsDays_1 kX4_readsDays_X4_next ⟨rfl, rfl⟩ ⟨Nat.zero_le _, Nat.zero_le _⟩ (m_next hΩ hX (i := i) (by omega)) rfl rfl ((hΩ _ _ _ _ _ _ _ _ _ _ _ _ _ _ _).1) rfl rfl ?_
  refine G_bipush (v := 49) dX4_readsDays_4 (by decide) ?_
  refine G_bipush (v := 57) dX4_readsDays_6 (by decide) ?_
  refine G_callSi dX4_readsDays_8 kX4_readsDays_X4_within ⟨rfl, rfl⟩ ⟨Nat.zero_le _, Nat.zero_le _⟩ (c_within0 (fun z => h1 ⟨(nI_leI (a := 49) (by omega) (by omega)).mp z.1, (nI_leI (by omega) (by omega)).mp z.2⟩)) rfl rfl rfl ?_
  refine G_if_neN (a := 0) 16 dX4_readsDays_11 (by decide) (by omega) (fun c11 => ?_) (fun c11 => ?_)
  · exact (show False by omega).elim
  · refine G_iconst (v := 0) dX4_readsDays_14 (by decide) ?_
    exact G_iret dX4_readsDays_15 ⟨Nat.zero_le _, Nat.zero_le _⟩ (by rw [show r_days t ln i fi = (0, i, fi) from by rw [r_days, if_neg h1]]; rfl)
theorem m_readsDays1 (hΩ : MV mp p1 p2 p3 p5 p7 Ω) {th hs sg fi se t3 : Int32} {f sp sv sn bf : mj_S} {m ln i : Nat} {hh : Int64} {t : Nat → Nat} (hX : TX bf ln t) (hi : i < 990) (h1 : 49 ≤ nx t ln i ∧ nx t ln i ≤ 57) (h2 : ¬ (48 ≤ nx t ln (i + 1) ∧ nx t ln (i + 1) ≤ 57)) : MC l yX4_readsDays wsX4_readsDays rmX4_readsDays false [.ref mp] (Ω th f sp sv m sn hs bf ln i sg fi se t3 hh) (some (.int (nI (r_days t ln i fi).1))) (Ω th f sp sv m sn hs bf ln ((r_days t ln i fi).2.1) sg ((r_days t ln i fi).2.2) se t3 hh) := by
  refine mj_MC (cc := cX4_readsDays) (nl := 2) (ret := (some .boolean)) (plainFor_of_name (by decide)) rfl (⟨_, rfl, nb1 (r_days_le _ _ _ _)⟩) (Nat.le_of_ble_eq_true rfl) ?_
  show GG l cX4_readsDays MX4_readsDays false (.inl ((some (.int (nI (r_days t ln i fi).1))), Ω th f sp sv m sn hs bf ln ((r_days t ln i fi).2.1) sg ((r_days t ln i fi).2.2) se t3 hh)) 0 [some (.ref mp), none] [] (Ω th f sp sv m sn hs bf ln i sg fi se t3 hh) 0 0
  have := nx_in hX i
  have := nx_in hX (i + 1)
  refine G_aload_n dX4_readsDays_0 rfl ?_
  have := nx_in hX (i)
  refine G_callVi dX4_readsDays_1 kX4_readsDays_X4_next ⟨rfl, rfl⟩ ⟨Nat.zero_le _, Nat.zero_le _⟩ (m_next hΩ hX (i := i) (by omega)) rfl rfl ((hΩ _ _ _ _ _ _ _ _ _ _ _ _ _ _ _).1) rfl rfl ?_
  refine G_bipush (v := 49) dX4_readsDays_4 (by decide) ?_
  refine G_bipush (v := 57) dX4_readsDays_6 (by decide) ?_
  refine G_callSi dX4_readsDays_8 kX4_readsDays_X4_within ⟨rfl, rfl⟩ ⟨Nat.zero_le _, Nat.zero_le _⟩ (c_within1 ⟨(nI_leI (a := 49) (by omega) (by omega)).mpr (by omega), (nI_leI (b := 57) (by omega) (by omega)).mpr (by omega)⟩) rfl rfl rfl ?_
  refine G_if_neN (a := 1) 16 dX4_readsDays_11 (by decide) (by omega) (fun c11 => ?_) (fun c11 => ?_)
  · refine G_aload_n dX4_readsDays_16 rfl ?_
    refine G_aload_n dX4_readsDays_17 rfl ?_
    refine G_bipush (v := 9) dX4_readsDays_18 (by decide) ?_
    refine G_callVi dX4_readsDays_20 kX4_readsDays_X4_takeDigit ⟨rfl, rfl⟩ ⟨Nat.zero_le _, Nat.zero_le _⟩ (m_takeDigit1 hΩ hX (i := i) (h := 9) (by omega) (by omega) (by omega)) rfl rfl ((hΩ _ _ _ _ _ _ _ _ _ _ _ _ _ _ _).1) rfl rfl ?_
    refine G_putf dX4_readsDays_23 pX4_readsDays_149 ((hΩ _ _ _ _ _ _ _ _ _ _ _ _ _ _ _).1) (fun _ => ⟨rfl, rfl⟩) (by simp [mfs]) ((hΩ _ _ _ _ _ _ _ _ _ _ _ _ _ _ _).2.2.2.2.2.2.1 _ _ _ _ _ _ _ _ _ _) ?_
    refine G_aload_n dX4_readsDays_26 rfl ?_
    have := nx_in hX (i + 1)
    refine G_callVi dX4_readsDays_27 kX4_readsDays_X4_next ⟨rfl, rfl⟩ ⟨Nat.zero_le _, Nat.zero_le _⟩ (m_next hΩ hX (i := i + 1) (by omega)) rfl rfl ((hΩ _ _ _ _ _ _ _ _ _ _ _ _ _ _ _).1) rfl rfl ?_
    refine G_bipush (v := 48) dX4_readsDays_30 (by decide) ?_
    refine G_isub dX4_readsDays_32 ?_
    refine G_istore_n dX4_readsDays_33 rfl (L' := [some (.ref mp), some (.int ((nI ((nx t ln (i + 1)))) - 48))]) rfl ?_
    refine G_iload_n dX4_readsDays_34 rfl ?_
    refine G_iconst (v := 0) dX4_readsDays_35 (by decide) ?_
    refine G_bipush (v := 9) dX4_readsDays_36 (by decide) ?_
    refine G_callSi dX4_readsDays_38 kX4_readsDays_X4_within ⟨rfl, rfl⟩ ⟨Nat.zero_le _, Nat.zero_le _⟩ (c_within0 (td_no _ (nx_in hX (i + 1)) 9 (by omega) h2)) rfl rfl rfl ?_
    refine G_if_eqN (a := 0) 76 dX4_readsDays_41 (by decide) (by omega) (fun c41 => ?_) (fun c41 => ?_)
    · refine G_iconst (v := 1) dX4_readsDays_76 (by decide) ?_
      exact G_iret dX4_readsDays_77 ⟨Nat.zero_le _, Nat.zero_le _⟩ (by rw [show r_days t ln i fi = (1, i + 1, nI (nx t ln i - 48)) from by rw [r_days, if_pos h1, if_neg (fun z => h2 z.1)]]; rfl)
    · exact (show False by omega).elim
  · exact (show False by omega).elim
theorem m_readsDays2 (hΩ : MV mp p1 p2 p3 p5 p7 Ω) {th hs sg fi se t3 : Int32} {f sp sv sn bf : mj_S} {m ln i : Nat} {hh : Int64} {t : Nat → Nat} (hX : TX bf ln t) (hi : i < 990) (h1 : 49 ≤ nx t ln i ∧ nx t ln i ≤ 57) (h2 : (48 ≤ nx t ln (i + 1) ∧ nx t ln (i + 1) ≤ 57)) (h3 : ¬ 10 * (nx t ln i - 48) + (nx t ln (i + 1) - 48) ≤ 60) : MC l yX4_readsDays wsX4_readsDays rmX4_readsDays false [.ref mp] (Ω th f sp sv m sn hs bf ln i sg fi se t3 hh) (some (.int (nI (r_days t ln i fi).1))) (Ω th f sp sv m sn hs bf ln ((r_days t ln i fi).2.1) sg ((r_days t ln i fi).2.2) se t3 hh) := by
  refine mj_MC (cc := cX4_readsDays) (nl := 2) (ret := (some .boolean)) (plainFor_of_name (by decide)) rfl (⟨_, rfl, nb1 (r_days_le _ _ _ _)⟩) (Nat.le_of_ble_eq_true rfl) ?_
  show GG l cX4_readsDays MX4_readsDays false (.inl ((some (.int (nI (r_days t ln i fi).1))), Ω th f sp sv m sn hs bf ln ((r_days t ln i fi).2.1) sg ((r_days t ln i fi).2.2) se t3 hh)) 0 [some (.ref mp), none] [] (Ω th f sp sv m sn hs bf ln i sg fi se t3 hh) 0 0
  have := nx_in hX i
  have := nx_in hX (i + 1)
  refine G_aload_n dX4_readsDays_0 rfl ?_
  have := nx_in hX (i)
  refine G_callVi dX4_readsDays_1 kX4_readsDays_X4_next ⟨rfl, rfl⟩ ⟨Nat.zero_le _, Nat.zero_le _⟩ (m_next hΩ hX (i := i) (by omega)) rfl rfl ((hΩ _ _ _ _ _ _ _ _ _ _ _ _ _ _ _).1) rfl rfl ?_
  refine G_bipush (v := 49) dX4_readsDays_4 (by decide) ?_
  refine G_bipush (v := 57) dX4_readsDays_6 (by decide) ?_
  refine G_callSi dX4_readsDays_8 kX4_readsDays_X4_within ⟨rfl, rfl⟩ ⟨Nat.zero_le _, Nat.zero_le _⟩ (c_within1 ⟨(nI_leI (a := 49) (by omega) (by omega)).mpr (by omega), (nI_leI (b := 57) (by omega) (by omega)).mpr (by omega)⟩) rfl rfl rfl ?_
  refine G_if_neN (a := 1) 16 dX4_readsDays_11 (by decide) (by omega) (fun c11 => ?_) (fun c11 => ?_)
  · refine G_aload_n dX4_readsDays_16 rfl ?_
    refine G_aload_n dX4_readsDays_17 rfl ?_
    refine G_bipush (v := 9) dX4_readsDays_18 (by decide) ?_
    refine G_callVi dX4_readsDays_20 kX4_readsDays_X4_takeDigit ⟨rfl, rfl⟩ ⟨Nat.zero_le _, Nat.zero_le _⟩ (m_takeDigit1 hΩ hX (i := i) (h := 9) (by omega) (by omega) (by omega)) rfl rfl ((hΩ _ _ _ _ _ _ _ _ _ _ _ _ _ _ _).1) rfl rfl ?_
    refine G_putf dX4_readsDays_23 pX4_readsDays_149 ((hΩ _ _ _ _ _ _ _ _ _ _ _ _ _ _ _).1) (fun _ => ⟨rfl, rfl⟩) (by simp [mfs]) ((hΩ _ _ _ _ _ _ _ _ _ _ _ _ _ _ _).2.2.2.2.2.2.1 _ _ _ _ _ _ _ _ _ _) ?_
    refine G_aload_n dX4_readsDays_26 rfl ?_
    have := nx_in hX (i + 1)
    refine G_callVi dX4_readsDays_27 kX4_readsDays_X4_next ⟨rfl, rfl⟩ ⟨Nat.zero_le _, Nat.zero_le _⟩ (m_next hΩ hX (i := i + 1) (by omega)) rfl rfl ((hΩ _ _ _ _ _ _ _ _ _ _ _ _ _ _ _).1) rfl rfl ?_
    refine G_bipush (v := 48) dX4_readsDays_30 (by decide) ?_
    refine G_isubN (a := (nx t ln (i + 1))) (c := 48) (s := (((nx t ln (i + 1))) - 48)) dX4_readsDays_32 (by omega) ?_
    refine G_istore_n dX4_readsDays_33 rfl (L' := [some (.ref mp), some (.int (nI ((((nx t ln (i + 1))) - 48))))]) rfl ?_
    refine G_iload_n dX4_readsDays_34 rfl ?_
    refine G_iconst (v := 0) dX4_readsDays_35 (by decide) ?_
    refine G_bipush (v := 9) dX4_readsDays_36 (by decide) ?_
    refine G_callSi dX4_readsDays_38 kX4_readsDays_X4_within ⟨rfl, rfl⟩ ⟨Nat.zero_le _, Nat.zero_le _⟩ (c_within1 ⟨(nI_leI (a := 0) (by omega) (by omega)).mpr (by omega), (nI_leI (b := 9) (by omega) (by omega)).mpr (by omega)⟩) rfl rfl rfl ?_
    refine G_if_eqN (a := 1) 76 dX4_readsDays_41 (by decide) (by omega) (fun c41 => ?_) (fun c41 => ?_)
    · exact (show False by omega).elim
    · refine G_bipush (v := 10) dX4_readsDays_44 (by decide) ?_
      refine G_aload_n dX4_readsDays_46 rfl ?_
      refine G_getf dX4_readsDays_47 fX4_readsDays_149 ((hΩ _ _ _ _ _ _ _ _ _ _ _ _ _ _ _).1) (rfl) ?_
      refine G_imulN (a := 10) (c := ((nx t ln (i)) - 48)) (s := 10 * ((nx t ln (i)) - 48)) dX4_readsDays_50 (by omega) ?_
      refine G_iload_n dX4_readsDays_51 rfl ?_
      refine G_iaddN (a := 10 * ((nx t ln (i)) - 48)) (c := (((nx t ln (i + 1))) - 48)) (s := (((nx t ln (i + 1))) - 48) + 10 * ((nx t ln (i)) - 48)) dX4_readsDays_52 (by omega) ?_
      refine G_bipush (v := 60) dX4_readsDays_53 (by decide) ?_
      refine G_icmp_gtN (a := (((nx t ln (i + 1))) - 48) + 10 * ((nx t ln (i)) - 48)) (c := 60) 76 dX4_readsDays_55 (by decide) (by omega) (fun c55 => ?_) (fun c55 => ?_)
      · refine G_iconst (v := 1) dX4_readsDays_76 (by decide) ?_
        exact G_iret dX4_readsDays_77 ⟨Nat.zero_le _, Nat.zero_le _⟩ (by rw [show r_days t ln i fi = (1, i + 1, nI (nx t ln i - 48)) from by rw [r_days, if_pos h1, if_neg (fun z => h3 z.2)]]; rfl)
      · exact (show False by omega).elim
  · exact (show False by omega).elim
theorem m_readsDays3 (hΩ : MV mp p1 p2 p3 p5 p7 Ω) {th hs sg fi se t3 : Int32} {f sp sv sn bf : mj_S} {m ln i : Nat} {hh : Int64} {t : Nat → Nat} (hX : TX bf ln t) (hi : i < 990) (h1 : 49 ≤ nx t ln i ∧ nx t ln i ≤ 57) (h2 : (48 ≤ nx t ln (i + 1) ∧ nx t ln (i + 1) ≤ 57)) (h3 : 10 * (nx t ln i - 48) + (nx t ln (i + 1) - 48) ≤ 60) : MC l yX4_readsDays wsX4_readsDays rmX4_readsDays false [.ref mp] (Ω th f sp sv m sn hs bf ln i sg fi se t3 hh) (some (.int (nI (r_days t ln i fi).1))) (Ω th f sp sv m sn hs bf ln ((r_days t ln i fi).2.1) sg ((r_days t ln i fi).2.2) se t3 hh) := by
  refine mj_MC (cc := cX4_readsDays) (nl := 2) (ret := (some .boolean)) (plainFor_of_name (by decide)) rfl (⟨_, rfl, nb1 (r_days_le _ _ _ _)⟩) (Nat.le_of_ble_eq_true rfl) ?_
  show GG l cX4_readsDays MX4_readsDays false (.inl ((some (.int (nI (r_days t ln i fi).1))), Ω th f sp sv m sn hs bf ln ((r_days t ln i fi).2.1) sg ((r_days t ln i fi).2.2) se t3 hh)) 0 [some (.ref mp), none] [] (Ω th f sp sv m sn hs bf ln i sg fi se t3 hh) 0 0
  have := nx_in hX i
  have := nx_in hX (i + 1)
  refine G_aload_n dX4_readsDays_0 rfl ?_
  have := nx_in hX (i)
  refine G_callVi dX4_readsDays_1 kX4_readsDays_X4_next ⟨rfl, rfl⟩ ⟨Nat.zero_le _, Nat.zero_le _⟩ (m_next hΩ hX (i := i) (by omega)) rfl rfl ((hΩ _ _ _ _ _ _ _ _ _ _ _ _ _ _ _).1) rfl rfl ?_
  refine G_bipush (v := 49) dX4_readsDays_4 (by decide) ?_
  refine G_bipush (v := 57) dX4_readsDays_6 (by decide) ?_
  refine G_callSi dX4_readsDays_8 kX4_readsDays_X4_within ⟨rfl, rfl⟩ ⟨Nat.zero_le _, Nat.zero_le _⟩ (c_within1 ⟨(nI_leI (a := 49) (by omega) (by omega)).mpr (by omega), (nI_leI (b := 57) (by omega) (by omega)).mpr (by omega)⟩) rfl rfl rfl ?_
  refine G_if_neN (a := 1) 16 dX4_readsDays_11 (by decide) (by omega) (fun c11 => ?_) (fun c11 => ?_)
  · refine G_aload_n dX4_readsDays_16 rfl ?_
    refine G_aload_n dX4_readsDays_17 rfl ?_
    refine G_bipush (v := 9) dX4_readsDays_18 (by decide) ?_
    refine G_callVi dX4_readsDays_20 kX4_readsDays_X4_takeDigit ⟨rfl, rfl⟩ ⟨Nat.zero_le _, Nat.zero_le _⟩ (m_takeDigit1 hΩ hX (i := i) (h := 9) (by omega) (by omega) (by omega)) rfl rfl ((hΩ _ _ _ _ _ _ _ _ _ _ _ _ _ _ _).1) rfl rfl ?_
    refine G_putf dX4_readsDays_23 pX4_readsDays_149 ((hΩ _ _ _ _ _ _ _ _ _ _ _ _ _ _ _).1) (fun _ => ⟨rfl, rfl⟩) (by simp [mfs]) ((hΩ _ _ _ _ _ _ _ _ _ _ _ _ _ _ _).2.2.2.2.2.2.1 _ _ _ _ _ _ _ _ _ _) ?_
    refine G_aload_n dX4_readsDays_26 rfl ?_
    have := nx_in hX (i + 1)
    refine G_callVi dX4_readsDays_27 kX4_readsDays_X4_next ⟨rfl, rfl⟩ ⟨Nat.zero_le _, Nat.zero_le _⟩ (m_next hΩ hX (i := i + 1) (by omega)) rfl rfl ((hΩ _ _ _ _ _ _ _ _ _ _ _ _ _ _ _).1) rfl rfl ?_
    refine G_bipush (v := 48) dX4_readsDays_30 (by decide) ?_
    refine G_isubN (a := (nx t ln (i + 1))) (c := 48) (s := (((nx t ln (i + 1))) - 48)) dX4_readsDays_32 (by omega) ?_
    refine G_istore_n dX4_readsDays_33 rfl (L' := [some (.ref mp), some (.int (nI ((((nx t ln (i + 1))) - 48))))]) rfl ?_
    refine G_iload_n dX4_readsDays_34 rfl ?_
    refine G_iconst (v := 0) dX4_readsDays_35 (by decide) ?_
    refine G_bipush (v := 9) dX4_readsDays_36 (by decide) ?_
    refine G_callSi dX4_readsDays_38 kX4_readsDays_X4_within ⟨rfl, rfl⟩ ⟨Nat.zero_le _, Nat.zero_le _⟩ (c_within1 ⟨(nI_leI (a := 0) (by omega) (by omega)).mpr (by omega), (nI_leI (b := 9) (by omega) (by omega)).mpr (by omega)⟩) rfl rfl rfl ?_
    refine G_if_eqN (a := 1) 76 dX4_readsDays_41 (by decide) (by omega) (fun c41 => ?_) (fun c41 => ?_)
    · exact (show False by omega).elim
    · refine G_bipush (v := 10) dX4_readsDays_44 (by decide) ?_
      refine G_aload_n dX4_readsDays_46 rfl ?_
      refine G_getf dX4_readsDays_47 fX4_readsDays_149 ((hΩ _ _ _ _ _ _ _ _ _ _ _ _ _ _ _).1) (rfl) ?_
      refine G_imulN (a := 10) (c := ((nx t ln (i)) - 48)) (s := 10 * ((nx t ln (i)) - 48)) dX4_readsDays_50 (by omega) ?_
      refine G_iload_n dX4_readsDays_51 rfl ?_
      refine G_iaddN (a := 10 * ((nx t ln (i)) - 48)) (c := (((nx t ln (i + 1))) - 48)) (s := (((nx t ln (i + 1))) - 48) + 10 * ((nx t ln (i)) - 48)) dX4_readsDays_52 (by omega) ?_
      refine G_bipush (v := 60) dX4_readsDays_53 (by decide) ?_
      refine G_icmp_gtN (a := (((nx t ln (i + 1))) - 48) + 10 * ((nx t ln (i)) - 48)) (c := 60) 76 dX4_readsDays_55 (by decide) (by omega) (fun c55 => ?_) (fun c55 => ?_)
      · exact (show False by omega).elim
      · refine G_aload_n dX4_readsDays_58 rfl ?_
        refine G_bipush (v := 10) dX4_readsDays_59 (by decide) ?_
        refine G_aload_n dX4_readsDays_61 rfl ?_
        refine G_getf dX4_readsDays_62 fX4_readsDays_149 ((hΩ _ _ _ _ _ _ _ _ _ _ _ _ _ _ _).1) (rfl) ?_
        refine G_imulN (a := 10) (c := ((nx t ln (i)) - 48)) (s := 10 * ((nx t ln (i)) - 48)) dX4_readsDays_65 (by omega) ?_
        refine G_aload_n dX4_readsDays_66 rfl ?_
        refine G_bipush (v := 9) dX4_readsDays_67 (by decide) ?_
        refine G_callVi dX4_readsDays_69 kX4_readsDays_X4_takeDigit ⟨rfl, rfl⟩ ⟨Nat.zero_le _, Nat.zero_le _⟩ (m_takeDigit1 hΩ hX (i := i + 1) (h := 9) (by omega) (by omega) (by omega)) rfl rfl ((hΩ _ _ _ _ _ _ _ _ _ _ _ _ _ _ _).1) rfl rfl ?_
        refine G_iaddN (a := 10 * ((nx t ln (i)) - 48)) (c := ((nx t ln (i + 1)) - 48)) (s := ((nx t ln (i + 1)) - 48) + 10 * ((nx t ln (i)) - 48)) dX4_readsDays_72 (by omega) ?_
        refine G_putf dX4_readsDays_73 pX4_readsDays_149 ((hΩ _ _ _ _ _ _ _ _ _ _ _ _ _ _ _).1) (fun _ => ⟨rfl, rfl⟩) (by simp [mfs]) ((hΩ _ _ _ _ _ _ _ _ _ _ _ _ _ _ _).2.2.2.2.2.2.1 _ _ _ _ _ _ _ _ _ _) ?_
        refine G_iconst (v := 1) dX4_readsDays_76 (by decide) ?_
        exact G_iret dX4_readsDays_77 ⟨Nat.zero_le _, Nat.zero_le _⟩ (by rw [show r_days t ln i fi = (1, i + 2, nI ((nx t ln (i + 1) - 48) + 10 * (nx t ln i - 48))) from by rw [r_days, if_pos h1, if_pos ⟨h2, h3⟩]]; rfl)
  · exact (show False by omega).elim
theorem m_readsDays (hΩ : MV mp p1 p2 p3 p5 p7 Ω) {th hs sg fi se t3 : Int32} {f sp sv sn bf : mj_S} {m ln i : Nat} {hh : Int64} {t : Nat → Nat} (hX : TX bf ln t) (hi : i < 990) : MC l yX4_readsDays wsX4_readsDays rmX4_readsDays false [.ref mp] (Ω th f sp sv m sn hs bf ln i sg fi se t3 hh) (some (.int (nI (r_days t ln i fi).1))) (Ω th f sp sv m sn hs bf ln ((r_days t ln i fi).2.1) sg ((r_days t ln i fi).2.2) se t3 hh) := by
  by_cases h1 : 49 ≤ nx t ln i ∧ nx t ln i ≤ 57
  · by_cases h2 : (48 ≤ nx t ln (i + 1) ∧ nx t ln (i + 1) ≤ 57)
    · by_cases h3 : 10 * (nx t ln i - 48) + (nx t ln (i + 1) - 48) ≤ 60
      · exact m_readsDays3 hΩ hX hi h1 h2 h3
      · exact m_readsDays2 hΩ hX hi h1 h2 h3
    · exact m_readsDays1 hΩ hX hi h1 h2
  · exact m_readsDays0 hΩ hX hi h1
theorem m_readsPart99 (hΩ : MV mp p1 p2 p3 p5 p7 Ω) {th hs sg fi se t3 : Int32} {f sp sv sn bf : mj_S} {m ln i : Nat} {hh : Int64} {t : Nat → Nat} (hX : TX bf ln t) (hi : i < 980)  (hs1 : nx t ln i = 99) : MC l yX4_readsPart wsX4_readsPart rmX4_readsPart false [.ref mp] (Ω th f sp sv m sn hs bf ln i sg fi se t3 hh) (some (.int (nI (r_part t ln i fi se t3).1))) (Ω th f sp sv m sn hs bf ln ((r_part t ln i fi se t3).2.1) ((r_part t ln i fi se t3).2.2.1) ((r_part t ln i fi se t3).2.2.2.1) ((r_part t ln i fi se t3).2.2.2.2.1) ((r_part t ln i fi se t3).2.2.2.2.2) hh) := by
  refine mj_MC (cc := cX4_readsPart) (nl := 1) (ret := (some .boolean)) (plainFor_of_name (by decide)) rfl (⟨_, rfl, nb1 (r_part_le _ _ _ _ _ _)⟩) (Nat.le_of_ble_eq_true rfl) ?_
  show GG l cX4_readsPart MX4_readsPart false (.inl ((some (.int (nI (r_part t ln i fi se t3).1))), Ω th f sp sv m sn hs bf ln ((r_part t ln i fi se t3).2.1) ((r_part t ln i fi se t3).2.2.1) ((r_part t ln i fi se t3).2.2.2.1) ((r_part t ln i fi se t3).2.2.2.2.1) ((r_part t ln i fi se t3).2.2.2.2.2) hh)) 0 [some (.ref mp)] [] (Ω th f sp sv m sn hs bf ln i sg fi se t3 hh) 0 0
  refine G_aload_n dX4_readsPart_0 rfl ?_
  refine G_aload_n dX4_readsPart_1 rfl ?_
  have := nx_in hX (i)
  refine G_callVi dX4_readsPart_2 kX4_readsPart_X4_next ⟨rfl, rfl⟩ ⟨Nat.zero_le _, Nat.zero_le _⟩ (m_next hΩ hX (i := i) (by omega)) rfl rfl ((hΩ _ _ _ _ _ _ _ _ _ _ _ _ _ _ _).1) rfl rfl ?_
  refine G_eqi (congrArg nI hs1) ?_
  refine G_putf dX4_readsPart_5 pX4_readsPart_161 ((hΩ _ _ _ _ _ _ _ _ _ _ _ _ _ _ _).1) (fun _ => ⟨rfl, rfl⟩) (by simp [mfs]) ((hΩ _ _ _ _ _ _ _ _ _ _ _ _ _ _ _).2.2.2.2.2.2.1 _ _ _ _ _ _ _ _ _ _) ?_
  refine G_aload_n dX4_readsPart_8 rfl ?_
  refine G_getf dX4_readsPart_9 fX4_readsPart_161 ((hΩ _ _ _ _ _ _ _ _ _ _ _ _ _ _ _).1) (rfl) ?_
  refine G_bipush (v := 99) dX4_readsPart_12 (by decide) ?_
  refine G_icmp_eqN (a := 99) (c := 99) 46 dX4_readsPart_14 (by decide) (by omega) (fun c14 => ?_) (fun c14 => ?_)
  · refine G_aload_n dX4_readsPart_46 rfl ?_
    refine G_dup dX4_readsPart_47 rfl ?_
    refine G_getf dX4_readsPart_48 fX4_readsPart_140 ((hΩ _ _ _ _ _ _ _ _ _ _ _ _ _ _ _).1) (rfl) ?_
    refine G_iconst (v := 1) dX4_readsPart_51 (by decide) ?_
    refine G_iaddN (a := i) (c := 1) (s := i + 1) dX4_readsPart_52 (by omega) ?_
    refine G_putf dX4_readsPart_53 pX4_readsPart_140 ((hΩ _ _ _ _ _ _ _ _ _ _ _ _ _ _ _).1) (fun _ => ⟨rfl, rfl⟩) (by simp [mfs]) ((hΩ _ _ _ _ _ _ _ _ _ _ _ _ _ _ _).2.2.2.2.2.2.1 _ _ _ _ _ _ _ _ _ _) ?_
    refine G_aload_n dX4_readsPart_56 rfl ?_
    refine G_getf dX4_readsPart_57 fX4_readsPart_161 ((hΩ _ _ _ _ _ _ _ _ _ _ _ _ _ _ _).1) (rfl) ?_
    refine G_bipush (v := 114) dX4_readsPart_60 (by decide) ?_
    refine G_icmp_neN (a := 99) (c := 114) 88 dX4_readsPart_62 (by decide) (by omega) (fun c62 => ?_) (fun c62 => ?_)
    · refine G_aload_n dX4_readsPart_88 rfl ?_
      refine G_getf dX4_readsPart_89 fX4_readsPart_161 ((hΩ _ _ _ _ _ _ _ _ _ _ _ _ _ _ _).1) (rfl) ?_
      refine G_bipush (v := 99) dX4_readsPart_92 (by decide) ?_
      refine G_icmp_neN (a := 99) (c := 99) 104 dX4_readsPart_94 (by decide) (by omega) (fun c94 => ?_) (fun c94 => ?_)
      · exact (show False by omega).elim
      · refine G_aload_n dX4_readsPart_97 rfl ?_
        refine G_callVi dX4_readsPart_98 kX4_readsPart_X4_readsWork ⟨rfl, rfl⟩ ⟨Nat.zero_le _, Nat.zero_le _⟩ (m_readsWork hΩ hX (i := i + 1) (by omega)) rfl rfl ((hΩ _ _ _ _ _ _ _ _ _ _ _ _ _ _ _).1) rfl rfl ?_
        refine G_goto 125 dX4_readsPart_101 (by decide) ?_
        exact G_iret dX4_readsPart_125 ⟨Nat.zero_le _, Nat.zero_le _⟩ (by rw [r_part, if_pos hs1]; rfl)
    · exact (show False by omega).elim
  · exact (show False by omega).elim
theorem m_readsPart114 (hΩ : MV mp p1 p2 p3 p5 p7 Ω) {th hs sg fi se t3 : Int32} {f sp sv sn bf : mj_S} {m ln i : Nat} {hh : Int64} {t : Nat → Nat} (hX : TX bf ln t) (hi : i < 980)  (hs1 : nx t ln i = 114) : MC l yX4_readsPart wsX4_readsPart rmX4_readsPart false [.ref mp] (Ω th f sp sv m sn hs bf ln i sg fi se t3 hh) (some (.int (nI (r_part t ln i fi se t3).1))) (Ω th f sp sv m sn hs bf ln ((r_part t ln i fi se t3).2.1) ((r_part t ln i fi se t3).2.2.1) ((r_part t ln i fi se t3).2.2.2.1) ((r_part t ln i fi se t3).2.2.2.2.1) ((r_part t ln i fi se t3).2.2.2.2.2) hh) := by
  refine mj_MC (cc := cX4_readsPart) (nl := 1) (ret := (some .boolean)) (plainFor_of_name (by decide)) rfl (⟨_, rfl, nb1 (r_part_le _ _ _ _ _ _)⟩) (Nat.le_of_ble_eq_true rfl) ?_
  show GG l cX4_readsPart MX4_readsPart false (.inl ((some (.int (nI (r_part t ln i fi se t3).1))), Ω th f sp sv m sn hs bf ln ((r_part t ln i fi se t3).2.1) ((r_part t ln i fi se t3).2.2.1) ((r_part t ln i fi se t3).2.2.2.1) ((r_part t ln i fi se t3).2.2.2.2.1) ((r_part t ln i fi se t3).2.2.2.2.2) hh)) 0 [some (.ref mp)] [] (Ω th f sp sv m sn hs bf ln i sg fi se t3 hh) 0 0
  refine G_aload_n dX4_readsPart_0 rfl ?_
  refine G_aload_n dX4_readsPart_1 rfl ?_
  have := nx_in hX (i)
  refine G_callVi dX4_readsPart_2 kX4_readsPart_X4_next ⟨rfl, rfl⟩ ⟨Nat.zero_le _, Nat.zero_le _⟩ (m_next hΩ hX (i := i) (by omega)) rfl rfl ((hΩ _ _ _ _ _ _ _ _ _ _ _ _ _ _ _).1) rfl rfl ?_
  refine G_eqi (congrArg nI hs1) ?_
  refine G_putf dX4_readsPart_5 pX4_readsPart_161 ((hΩ _ _ _ _ _ _ _ _ _ _ _ _ _ _ _).1) (fun _ => ⟨rfl, rfl⟩) (by simp [mfs]) ((hΩ _ _ _ _ _ _ _ _ _ _ _ _ _ _ _).2.2.2.2.2.2.1 _ _ _ _ _ _ _ _ _ _) ?_
  refine G_aload_n dX4_readsPart_8 rfl ?_
  refine G_getf dX4_readsPart_9 fX4_readsPart_161 ((hΩ _ _ _ _ _ _ _ _ _ _ _ _ _ _ _).1) (rfl) ?_
  refine G_bipush (v := 99) dX4_readsPart_12 (by decide) ?_
  refine G_icmp_eqN (a := 114) (c := 99) 46 dX4_readsPart_14 (by decide) (by omega) (fun c14 => ?_) (fun c14 => ?_)
  · exact (show False by omega).elim
  · refine G_aload_n dX4_readsPart_17 rfl ?_
    refine G_getf dX4_readsPart_18 fX4_readsPart_161 ((hΩ _ _ _ _ _ _ _ _ _ _ _ _ _ _ _).1) (rfl) ?_
    refine G_bipush (v := 114) dX4_readsPart_21 (by decide) ?_
    refine G_icmp_eqN (a := 114) (c := 114) 46 dX4_readsPart_23 (by decide) (by omega) (fun c23 => ?_) (fun c23 => ?_)
    · refine G_aload_n dX4_readsPart_46 rfl ?_
      refine G_dup dX4_readsPart_47 rfl ?_
      refine G_getf dX4_readsPart_48 fX4_readsPart_140 ((hΩ _ _ _ _ _ _ _ _ _ _ _ _ _ _ _).1) (rfl) ?_
      refine G_iconst (v := 1) dX4_readsPart_51 (by decide) ?_
      refine G_iaddN (a := i) (c := 1) (s := i + 1) dX4_readsPart_52 (by omega) ?_
      refine G_putf dX4_readsPart_53 pX4_readsPart_140 ((hΩ _ _ _ _ _ _ _ _ _ _ _ _ _ _ _).1) (fun _ => ⟨rfl, rfl⟩) (by simp [mfs]) ((hΩ _ _ _ _ _ _ _ _ _ _ _ _ _ _ _).2.2.2.2.2.2.1 _ _ _ _ _ _ _ _ _ _) ?_
      refine G_aload_n dX4_readsPart_56 rfl ?_
      refine G_getf dX4_readsPart_57 fX4_readsPart_161 ((hΩ _ _ _ _ _ _ _ _ _ _ _ _ _ _ _).1) (rfl) ?_
      refine G_bipush (v := 114) dX4_readsPart_60 (by decide) ?_
      refine G_icmp_neN (a := 114) (c := 114) 88 dX4_readsPart_62 (by decide) (by omega) (fun c62 => ?_) (fun c62 => ?_)
      · exact (show False by omega).elim
      · refine G_aload_n dX4_readsPart_65 rfl ?_
        refine G_aload_n dX4_readsPart_66 rfl ?_
        refine G_iconst (v := 5) dX4_readsPart_67 (by decide) ?_
        have := ti_le t ln (i + 1) 5
        refine G_callVi dX4_readsPart_68 kX4_readsPart_X4_takeDigit ⟨rfl, rfl⟩ ⟨Nat.zero_le _, Nat.zero_le _⟩ (m_takeDigit hΩ hX (i := i + 1) (h := 5) (by omega) (by omega)) rfl rfl ((hΩ _ _ _ _ _ _ _ _ _ _ _ _ _ _ _).1) rfl rfl ?_
        refine G_putf dX4_readsPart_71 pX4_readsPart_149 ((hΩ _ _ _ _ _ _ _ _ _ _ _ _ _ _ _).1) (fun _ => ⟨rfl, rfl⟩) (by simp [mfs]) ((hΩ _ _ _ _ _ _ _ _ _ _ _ _ _ _ _).2.2.2.2.2.2.1 _ _ _ _ _ _ _ _ _ _) ?_
        refine G_aload_n dX4_readsPart_74 rfl ?_
        refine G_getf dX4_readsPart_75 fX4_readsPart_149 ((hΩ _ _ _ _ _ _ _ _ _ _ _ _ _ _ _).1) (rfl) ?_
        refine G_iconst (v := (-1)) dX4_readsPart_78 (by decide) ?_
        refine G_icmp_eq 86 dX4_readsPart_79 (by decide) (fun c79 => ?_) (fun c79 => ?_)
        · refine G_iconst (v := 0) dX4_readsPart_86 (by decide) ?_
          exact G_iret dX4_readsPart_87 ⟨Nat.zero_le _, Nat.zero_le _⟩ (by rw [r_part, if_neg (by omega), if_pos hs1]; simp only [if_pos c79]; rfl)
        · refine G_iconst (v := 1) dX4_readsPart_82 (by decide) ?_
          refine G_goto 87 dX4_readsPart_83 (by decide) ?_
          exact G_iret dX4_readsPart_87 ⟨Nat.zero_le _, Nat.zero_le _⟩ (by rw [r_part, if_neg (by omega), if_pos hs1]; simp only [if_neg c79]; rfl)
    · exact (show False by omega).elim
theorem m_readsPart43 (hΩ : MV mp p1 p2 p3 p5 p7 Ω) {th hs sg fi se t3 : Int32} {f sp sv sn bf : mj_S} {m ln i : Nat} {hh : Int64} {t : Nat → Nat} (hX : TX bf ln t) (hi : i < 980)  (hs1 : nx t ln i = 43) : MC l yX4_readsPart wsX4_readsPart rmX4_readsPart false [.ref mp] (Ω th f sp sv m sn hs bf ln i sg fi se t3 hh) (some (.int (nI (r_part t ln i fi se t3).1))) (Ω th f sp sv m sn hs bf ln ((r_part t ln i fi se t3).2.1) ((r_part t ln i fi se t3).2.2.1) ((r_part t ln i fi se t3).2.2.2.1) ((r_part t ln i fi se t3).2.2.2.2.1) ((r_part t ln i fi se t3).2.2.2.2.2) hh) := by
  refine mj_MC (cc := cX4_readsPart) (nl := 1) (ret := (some .boolean)) (plainFor_of_name (by decide)) rfl (⟨_, rfl, nb1 (r_part_le _ _ _ _ _ _)⟩) (Nat.le_of_ble_eq_true rfl) ?_
  show GG l cX4_readsPart MX4_readsPart false (.inl ((some (.int (nI (r_part t ln i fi se t3).1))), Ω th f sp sv m sn hs bf ln ((r_part t ln i fi se t3).2.1) ((r_part t ln i fi se t3).2.2.1) ((r_part t ln i fi se t3).2.2.2.1) ((r_part t ln i fi se t3).2.2.2.2.1) ((r_part t ln i fi se t3).2.2.2.2.2) hh)) 0 [some (.ref mp)] [] (Ω th f sp sv m sn hs bf ln i sg fi se t3 hh) 0 0
  refine G_aload_n dX4_readsPart_0 rfl ?_
  refine G_aload_n dX4_readsPart_1 rfl ?_
  have := nx_in hX (i)
  refine G_callVi dX4_readsPart_2 kX4_readsPart_X4_next ⟨rfl, rfl⟩ ⟨Nat.zero_le _, Nat.zero_le _⟩ (m_next hΩ hX (i := i) (by omega)) rfl rfl ((hΩ _ _ _ _ _ _ _ _ _ _ _ _ _ _ _).1) rfl rfl ?_
  refine G_eqi (congrArg nI hs1) ?_
  refine G_putf dX4_readsPart_5 pX4_readsPart_161 ((hΩ _ _ _ _ _ _ _ _ _ _ _ _ _ _ _).1) (fun _ => ⟨rfl, rfl⟩) (by simp [mfs]) ((hΩ _ _ _ _ _ _ _ _ _ _ _ _ _ _ _).2.2.2.2.2.2.1 _ _ _ _ _ _ _ _ _ _) ?_
  refine G_aload_n dX4_readsPart_8 rfl ?_
  refine G_getf dX4_readsPart_9 fX4_readsPart_161 ((hΩ _ _ _ _ _ _ _ _ _ _ _ _ _ _ _).1) (rfl) ?_
  refine G_bipush (v := 99) dX4_readsPart_12 (by decide) ?_
  refine G_icmp_eqN (a := 43) (c := 99) 46 dX4_readsPart_14 (by decide) (by omega) (fun c14 => ?_) (fun c14 => ?_)
  · exact (show False by omega).elim
  · refine G_aload_n dX4_readsPart_17 rfl ?_
    refine G_getf dX4_readsPart_18 fX4_readsPart_161 ((hΩ _ _ _ _ _ _ _ _ _ _ _ _ _ _ _).1) (rfl) ?_
    refine G_bipush (v := 114) dX4_readsPart_21 (by decide) ?_
    refine G_icmp_eqN (a := 43) (c := 114) 46 dX4_readsPart_23 (by decide) (by omega) (fun c23 => ?_) (fun c23 => ?_)
    · exact (show False by omega).elim
    · refine G_aload_n dX4_readsPart_26 rfl ?_
      refine G_getf dX4_readsPart_27 fX4_readsPart_161 ((hΩ _ _ _ _ _ _ _ _ _ _ _ _ _ _ _).1) (rfl) ?_
      refine G_bipush (v := 43) dX4_readsPart_30 (by decide) ?_
      refine G_icmp_eqN (a := 43) (c := 43) 46 dX4_readsPart_32 (by decide) (by omega) (fun c32 => ?_) (fun c32 => ?_)
      · refine G_aload_n dX4_readsPart_46 rfl ?_
        refine G_dup dX4_readsPart_47 rfl ?_
        refine G_getf dX4_readsPart_48 fX4_readsPart_140 ((hΩ _ _ _ _ _ _ _ _ _ _ _ _ _ _ _).1) (rfl) ?_
        refine G_iconst (v := 1) dX4_readsPart_51 (by decide) ?_
        refine G_iaddN (a := i) (c := 1) (s := i + 1) dX4_readsPart_52 (by omega) ?_
        refine G_putf dX4_readsPart_53 pX4_readsPart_140 ((hΩ _ _ _ _ _ _ _ _ _ _ _ _ _ _ _).1) (fun _ => ⟨rfl, rfl⟩) (by simp [mfs]) ((hΩ _ _ _ _ _ _ _ _ _ _ _ _ _ _ _).2.2.2.2.2.2.1 _ _ _ _ _ _ _ _ _ _) ?_
        refine G_aload_n dX4_readsPart_56 rfl ?_
        refine G_getf dX4_readsPart_57 fX4_readsPart_161 ((hΩ _ _ _ _ _ _ _ _ _ _ _ _ _ _ _).1) (rfl) ?_
        refine G_bipush (v := 114) dX4_readsPart_60 (by decide) ?_
        refine G_icmp_neN (a := 43) (c := 114) 88 dX4_readsPart_62 (by decide) (by omega) (fun c62 => ?_) (fun c62 => ?_)
        · refine G_aload_n dX4_readsPart_88 rfl ?_
          refine G_getf dX4_readsPart_89 fX4_readsPart_161 ((hΩ _ _ _ _ _ _ _ _ _ _ _ _ _ _ _).1) (rfl) ?_
          refine G_bipush (v := 99) dX4_readsPart_92 (by decide) ?_
          refine G_icmp_neN (a := 43) (c := 99) 104 dX4_readsPart_94 (by decide) (by omega) (fun c94 => ?_) (fun c94 => ?_)
          · refine G_aload_n dX4_readsPart_104 rfl ?_
            refine G_getf dX4_readsPart_105 fX4_readsPart_161 ((hΩ _ _ _ _ _ _ _ _ _ _ _ _ _ _ _).1) (rfl) ?_
            refine G_bipush (v := 42) dX4_readsPart_108 (by decide) ?_
            refine G_icmp_eqN (a := 43) (c := 42) 120 dX4_readsPart_110 (by decide) (by omega) (fun c110 => ?_) (fun c110 => ?_)
            · exact (show False by omega).elim
            · refine G_aload_n dX4_readsPart_113 rfl ?_
              have := r_days_le t ln (i + 1) fi
              refine G_callVi dX4_readsPart_114 kX4_readsPart_X4_readsDays ⟨rfl, rfl⟩ ⟨Nat.zero_le _, Nat.zero_le _⟩ (m_readsDays hΩ hX (i := i + 1) (by omega)) rfl rfl ((hΩ _ _ _ _ _ _ _ _ _ _ _ _ _ _ _).1) rfl rfl ?_
              refine G_if_eqN (a := (r_days t ln (i + 1) fi).1) 124 dX4_readsPart_117 (by decide) (by omega) (fun c117 => ?_) (fun c117 => ?_)
              · refine G_iconst (v := 0) dX4_readsPart_124 (by decide) ?_
                exact G_iret dX4_readsPart_125 ⟨Nat.zero_le _, Nat.zero_le _⟩ (by rw [r_part, if_neg (by omega), if_neg (by omega), if_pos hs1]; simp only [show (r_days t ln (i + 1) fi).1 = 0 by omega]; rfl)
              · refine G_iconst (v := 1) dX4_readsPart_120 (by decide) ?_
                refine G_goto 125 dX4_readsPart_121 (by decide) ?_
                exact G_iret dX4_readsPart_125 ⟨Nat.zero_le _, Nat.zero_le _⟩ (by rw [r_part, if_neg (by omega), if_neg (by omega), if_pos hs1]; simp only [show (r_days t ln (i + 1) fi).1 = 1 by omega]; rfl)
          · exact (show False by omega).elim
        · exact (show False by omega).elim
      · exact (show False by omega).elim
theorem m_readsPart42 (hΩ : MV mp p1 p2 p3 p5 p7 Ω) {th hs sg fi se t3 : Int32} {f sp sv sn bf : mj_S} {m ln i : Nat} {hh : Int64} {t : Nat → Nat} (hX : TX bf ln t) (hi : i < 980)  (hs1 : nx t ln i = 42) : MC l yX4_readsPart wsX4_readsPart rmX4_readsPart false [.ref mp] (Ω th f sp sv m sn hs bf ln i sg fi se t3 hh) (some (.int (nI (r_part t ln i fi se t3).1))) (Ω th f sp sv m sn hs bf ln ((r_part t ln i fi se t3).2.1) ((r_part t ln i fi se t3).2.2.1) ((r_part t ln i fi se t3).2.2.2.1) ((r_part t ln i fi se t3).2.2.2.2.1) ((r_part t ln i fi se t3).2.2.2.2.2) hh) := by
  refine mj_MC (cc := cX4_readsPart) (nl := 1) (ret := (some .boolean)) (plainFor_of_name (by decide)) rfl (⟨_, rfl, nb1 (r_part_le _ _ _ _ _ _)⟩) (Nat.le_of_ble_eq_true rfl) ?_
  show GG l cX4_readsPart MX4_readsPart false (.inl ((some (.int (nI (r_part t ln i fi se t3).1))), Ω th f sp sv m sn hs bf ln ((r_part t ln i fi se t3).2.1) ((r_part t ln i fi se t3).2.2.1) ((r_part t ln i fi se t3).2.2.2.1) ((r_part t ln i fi se t3).2.2.2.2.1) ((r_part t ln i fi se t3).2.2.2.2.2) hh)) 0 [some (.ref mp)] [] (Ω th f sp sv m sn hs bf ln i sg fi se t3 hh) 0 0
  refine G_aload_n dX4_readsPart_0 rfl ?_
  refine G_aload_n dX4_readsPart_1 rfl ?_
  have := nx_in hX (i)
  refine G_callVi dX4_readsPart_2 kX4_readsPart_X4_next ⟨rfl, rfl⟩ ⟨Nat.zero_le _, Nat.zero_le _⟩ (m_next hΩ hX (i := i) (by omega)) rfl rfl ((hΩ _ _ _ _ _ _ _ _ _ _ _ _ _ _ _).1) rfl rfl ?_
  refine G_eqi (congrArg nI hs1) ?_
  refine G_putf dX4_readsPart_5 pX4_readsPart_161 ((hΩ _ _ _ _ _ _ _ _ _ _ _ _ _ _ _).1) (fun _ => ⟨rfl, rfl⟩) (by simp [mfs]) ((hΩ _ _ _ _ _ _ _ _ _ _ _ _ _ _ _).2.2.2.2.2.2.1 _ _ _ _ _ _ _ _ _ _) ?_
  refine G_aload_n dX4_readsPart_8 rfl ?_
  refine G_getf dX4_readsPart_9 fX4_readsPart_161 ((hΩ _ _ _ _ _ _ _ _ _ _ _ _ _ _ _).1) (rfl) ?_
  refine G_bipush (v := 99) dX4_readsPart_12 (by decide) ?_
  refine G_icmp_eqN (a := 42) (c := 99) 46 dX4_readsPart_14 (by decide) (by omega) (fun c14 => ?_) (fun c14 => ?_)
  · exact (show False by omega).elim
  · refine G_aload_n dX4_readsPart_17 rfl ?_
    refine G_getf dX4_readsPart_18 fX4_readsPart_161 ((hΩ _ _ _ _ _ _ _ _ _ _ _ _ _ _ _).1) (rfl) ?_
    refine G_bipush (v := 114) dX4_readsPart_21 (by decide) ?_
    refine G_icmp_eqN (a := 42) (c := 114) 46 dX4_readsPart_23 (by decide) (by omega) (fun c23 => ?_) (fun c23 => ?_)
    · exact (show False by omega).elim
    · refine G_aload_n dX4_readsPart_26 rfl ?_
      refine G_getf dX4_readsPart_27 fX4_readsPart_161 ((hΩ _ _ _ _ _ _ _ _ _ _ _ _ _ _ _).1) (rfl) ?_
      refine G_bipush (v := 43) dX4_readsPart_30 (by decide) ?_
      refine G_icmp_eqN (a := 42) (c := 43) 46 dX4_readsPart_32 (by decide) (by omega) (fun c32 => ?_) (fun c32 => ?_)
      · exact (show False by omega).elim
      · refine G_aload_n dX4_readsPart_35 rfl ?_
        refine G_getf dX4_readsPart_36 fX4_readsPart_161 ((hΩ _ _ _ _ _ _ _ _ _ _ _ _ _ _ _).1) (rfl) ?_
        refine G_bipush (v := 42) dX4_readsPart_39 (by decide) ?_
        refine G_icmp_eqN (a := 42) (c := 42) 46 dX4_readsPart_41 (by decide) (by omega) (fun c41 => ?_) (fun c41 => ?_)
        · refine G_aload_n dX4_readsPart_46 rfl ?_
          refine G_dup dX4_readsPart_47 rfl ?_
          refine G_getf dX4_readsPart_48 fX4_readsPart_140 ((hΩ _ _ _ _ _ _ _ _ _ _ _ _ _ _ _).1) (rfl) ?_
          refine G_iconst (v := 1) dX4_readsPart_51 (by decide) ?_
          refine G_iaddN (a := i) (c := 1) (s := i + 1) dX4_readsPart_52 (by omega) ?_
          refine G_putf dX4_readsPart_53 pX4_readsPart_140 ((hΩ _ _ _ _ _ _ _ _ _ _ _ _ _ _ _).1) (fun _ => ⟨rfl, rfl⟩) (by simp [mfs]) ((hΩ _ _ _ _ _ _ _ _ _ _ _ _ _ _ _).2.2.2.2.2.2.1 _ _ _ _ _ _ _ _ _ _) ?_
          refine G_aload_n dX4_readsPart_56 rfl ?_
          refine G_getf dX4_readsPart_57 fX4_readsPart_161 ((hΩ _ _ _ _ _ _ _ _ _ _ _ _ _ _ _).1) (rfl) ?_
          refine G_bipush (v := 114) dX4_readsPart_60 (by decide) ?_
          refine G_icmp_neN (a := 42) (c := 114) 88 dX4_readsPart_62 (by decide) (by omega) (fun c62 => ?_) (fun c62 => ?_)
          · refine G_aload_n dX4_readsPart_88 rfl ?_
            refine G_getf dX4_readsPart_89 fX4_readsPart_161 ((hΩ _ _ _ _ _ _ _ _ _ _ _ _ _ _ _).1) (rfl) ?_
            refine G_bipush (v := 99) dX4_readsPart_92 (by decide) ?_
            refine G_icmp_neN (a := 42) (c := 99) 104 dX4_readsPart_94 (by decide) (by omega) (fun c94 => ?_) (fun c94 => ?_)
            · refine G_aload_n dX4_readsPart_104 rfl ?_
              refine G_getf dX4_readsPart_105 fX4_readsPart_161 ((hΩ _ _ _ _ _ _ _ _ _ _ _ _ _ _ _).1) (rfl) ?_
              refine G_bipush (v := 42) dX4_readsPart_108 (by decide) ?_
              refine G_icmp_eqN (a := 42) (c := 42) 120 dX4_readsPart_110 (by decide) (by omega) (fun c110 => ?_) (fun c110 => ?_)
              · refine G_iconst (v := 1) dX4_readsPart_120 (by decide) ?_
                refine G_goto 125 dX4_readsPart_121 (by decide) ?_
                exact G_iret dX4_readsPart_125 ⟨Nat.zero_le _, Nat.zero_le _⟩ (by rw [r_part, if_neg (by omega), if_neg (by omega), if_neg (by omega), if_pos hs1]; rfl)
              · exact (show False by omega).elim
            · exact (show False by omega).elim
          · exact (show False by omega).elim
        · exact (show False by omega).elim
theorem m_readsPart_ (hΩ : MV mp p1 p2 p3 p5 p7 Ω) {th hs sg fi se t3 : Int32} {f sp sv sn bf : mj_S} {m ln i : Nat} {hh : Int64} {t : Nat → Nat} (hX : TX bf ln t) (hi : i < 980)  (hs1 : nx t ln i ≠ 99 ∧ nx t ln i ≠ 114 ∧ nx t ln i ≠ 43 ∧ nx t ln i ≠ 42) : MC l yX4_readsPart wsX4_readsPart rmX4_readsPart false [.ref mp] (Ω th f sp sv m sn hs bf ln i sg fi se t3 hh) (some (.int (nI (r_part t ln i fi se t3).1))) (Ω th f sp sv m sn hs bf ln ((r_part t ln i fi se t3).2.1) ((r_part t ln i fi se t3).2.2.1) ((r_part t ln i fi se t3).2.2.2.1) ((r_part t ln i fi se t3).2.2.2.2.1) ((r_part t ln i fi se t3).2.2.2.2.2) hh) := by
  refine mj_MC (cc := cX4_readsPart) (nl := 1) (ret := (some .boolean)) (plainFor_of_name (by decide)) rfl (⟨_, rfl, nb1 (r_part_le _ _ _ _ _ _)⟩) (Nat.le_of_ble_eq_true rfl) ?_
  show GG l cX4_readsPart MX4_readsPart false (.inl ((some (.int (nI (r_part t ln i fi se t3).1))), Ω th f sp sv m sn hs bf ln ((r_part t ln i fi se t3).2.1) ((r_part t ln i fi se t3).2.2.1) ((r_part t ln i fi se t3).2.2.2.1) ((r_part t ln i fi se t3).2.2.2.2.1) ((r_part t ln i fi se t3).2.2.2.2.2) hh)) 0 [some (.ref mp)] [] (Ω th f sp sv m sn hs bf ln i sg fi se t3 hh) 0 0
  refine G_aload_n dX4_readsPart_0 rfl ?_
  refine G_aload_n dX4_readsPart_1 rfl ?_
  have := nx_in hX (i)
  refine G_callVi dX4_readsPart_2 kX4_readsPart_X4_next ⟨rfl, rfl⟩ ⟨Nat.zero_le _, Nat.zero_le _⟩ (m_next hΩ hX (i := i) (by omega)) rfl rfl ((hΩ _ _ _ _ _ _ _ _ _ _ _ _ _ _ _).1) rfl rfl ?_
  refine G_putf dX4_readsPart_5 pX4_readsPart_161 ((hΩ _ _ _ _ _ _ _ _ _ _ _ _ _ _ _).1) (fun _ => ⟨rfl, rfl⟩) (by simp [mfs]) ((hΩ _ _ _ _ _ _ _ _ _ _ _ _ _ _ _).2.2.2.2.2.2.1 _ _ _ _ _ _ _ _ _ _) ?_
  refine G_aload_n dX4_readsPart_8 rfl ?_
  refine G_getf dX4_readsPart_9 fX4_readsPart_161 ((hΩ _ _ _ _ _ _ _ _ _ _ _ _ _ _ _).1) (rfl) ?_
  refine G_bipush (v := 99) dX4_readsPart_12 (by decide) ?_
  refine G_icmp_eqN (a := (nx t ln (i))) (c := 99) 46 dX4_readsPart_14 (by decide) (by omega) (fun c14 => ?_) (fun c14 => ?_)
  · exact (show False by omega).elim
  · refine G_aload_n dX4_readsPart_17 rfl ?_
    refine G_getf dX4_readsPart_18 fX4_readsPart_161 ((hΩ _ _ _ _ _ _ _ _ _ _ _ _ _ _ _).1) (rfl) ?_
    refine G_bipush (v := 114) dX4_readsPart_21 (by decide) ?_
    refine G_icmp_eqN (a := (nx t ln (i))) (c := 114) 46 dX4_readsPart_23 (by decide) (by omega) (fun c23 => ?_) (fun c23 => ?_)
    · exact (show False by omega).elim
    · refine G_aload_n dX4_readsPart_26 rfl ?_
      refine G_getf dX4_readsPart_27 fX4_readsPart_161 ((hΩ _ _ _ _ _ _ _ _ _ _ _ _ _ _ _).1) (rfl) ?_
      refine G_bipush (v := 43) dX4_readsPart_30 (by decide) ?_
      refine G_icmp_eqN (a := (nx t ln (i))) (c := 43) 46 dX4_readsPart_32 (by decide) (by omega) (fun c32 => ?_) (fun c32 => ?_)
      · exact (show False by omega).elim
      · refine G_aload_n dX4_readsPart_35 rfl ?_
        refine G_getf dX4_readsPart_36 fX4_readsPart_161 ((hΩ _ _ _ _ _ _ _ _ _ _ _ _ _ _ _).1) (rfl) ?_
        refine G_bipush (v := 42) dX4_readsPart_39 (by decide) ?_
        refine G_icmp_eqN (a := (nx t ln (i))) (c := 42) 46 dX4_readsPart_41 (by decide) (by omega) (fun c41 => ?_) (fun c41 => ?_)
        · exact (show False by omega).elim
        · refine G_iconst (v := 0) dX4_readsPart_44 (by decide) ?_
          exact G_iret dX4_readsPart_45 ⟨Nat.zero_le _, Nat.zero_le _⟩ (by rw [r_part, if_neg hs1.1, if_neg hs1.2.1, if_neg hs1.2.2.1, if_neg hs1.2.2.2]; rfl)
theorem m_readsPart (hΩ : MV mp p1 p2 p3 p5 p7 Ω) {th hs sg fi se t3 : Int32} {f sp sv sn bf : mj_S} {m ln i : Nat} {hh : Int64} {t : Nat → Nat} (hX : TX bf ln t) (hi : i < 980) : MC l yX4_readsPart wsX4_readsPart rmX4_readsPart false [.ref mp] (Ω th f sp sv m sn hs bf ln i sg fi se t3 hh) (some (.int (nI (r_part t ln i fi se t3).1))) (Ω th f sp sv m sn hs bf ln ((r_part t ln i fi se t3).2.1) ((r_part t ln i fi se t3).2.2.1) ((r_part t ln i fi se t3).2.2.2.1) ((r_part t ln i fi se t3).2.2.2.2.1) ((r_part t ln i fi se t3).2.2.2.2.2) hh) := by
  by_cases h1 : nx t ln i = 99
  · exact m_readsPart99 hΩ hX hi h1
  by_cases h2 : nx t ln i = 114
  · exact m_readsPart114 hΩ hX hi h2
  by_cases h3 : nx t ln i = 43
  · exact m_readsPart43 hΩ hX hi h3
  by_cases h4 : nx t ln i = 42
  · exact m_readsPart42 hΩ hX hi h4
  exact m_readsPart_ hΩ hX hi ⟨h1, h2, h3, h4⟩
end RE

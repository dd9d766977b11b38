/-! LAND: looks and small changes -/
theorem X_i {x y : Int32} {w : mj_W} (h : x = y) : (Sum.inl (some (Value.int x), w) : mj_R) = .inl (some (.int y), w) := by rw [h]
theorem X_iw {x y : Int32} {w w' : mj_W} (h : x = y) (hw : w = w') : (Sum.inl (some (Value.int x), w) : mj_R) = .inl (some (.int y), w') := by rw [h, hw]
theorem X_w {w w' : mj_W} (hw : w = w') : (Sum.inl (none, w) : mj_R) = .inl (none, w') := by rw [hw]
theorem mx0_max (v : Int32) : (if 0 < v then v else 0) = mx0 v := by
  unfold mx0
  by_cases h1 : 0 < v <;> by_cases h2 : v < 0 <;> simp only [h1, h2, if_true, if_false]
  · exact absurd (Int32.lt_trans h1 h2) Int32.lt_irrefl
  · exact Int32.le_antisymm (Int32.not_lt.mp h2) (Int32.not_lt.mp h1)
theorem nI_m1 {a : Nat} (h : a < 2147483648) : ¬ nI a = -1 := by
  intro e
  have h1 := nI_pos' h
  rw [e] at h1
  exact absurd h1 (by decide)
section LB
variable {l : Launch} {lp ap : Nat} {Ω : mj_S → mj_W}
theorem lp_cuttersAt (hΩ : LV lp ap Ω) {q f : mj_S} {h b res : Int32} : ∀ (d c : Nat) (x : Int32), c + d = 6 → res = itr (fun c a => if f (139 + c) = h ∧ f (145 + c) = b then a + 1 else a) d c x → GG l cX0_cuttersAt MX0_cuttersAt false (.inl (some (.int res), Ω (row q f))) 5 [some (.ref lp), some (.int h), some (.int b), some (.int x), some (.int (nI (c)))] [] (Ω (row q f)) 0 0
  | 0, c, x, hc, hr => by
    refine G_iload dX0_cuttersAt_5 rfl ?_
    refine G_bipush (v := 6) dX0_cuttersAt_7 (by decide) ?_
    refine G_icmp_geN (a := c) (c := 6) 49 dX0_cuttersAt_9 (by decide) (by omega) (fun c9 => ?_) (fun c9 => ?_)
    · refine G_iload_n dX0_cuttersAt_49 rfl ?_
      exact G_iret dX0_cuttersAt_50 ⟨Nat.zero_le _, Nat.zero_le _⟩ (by rw [hr, itr_0])
    · exact (show False by omega).elim
  | d + 1, c, x, hc, hr => by
    refine G_iload dX0_cuttersAt_5 rfl ?_
    refine G_bipush (v := 6) dX0_cuttersAt_7 (by decide) ?_
    refine G_icmp_geN (a := c) (c := 6) 49 dX0_cuttersAt_9 (by decide) (by omega) (fun c9 => ?_) (fun c9 => ?_)
    · exact (show False by omega).elim
    · refine G_aload_n dX0_cuttersAt_12 rfl ?_
      refine G_sipush (v := 143) dX0_cuttersAt_13 (by decide) ?_
      refine G_iload dX0_cuttersAt_16 rfl ?_
      refine G_iaddN (a := 143) (c := c) (s := 143 + c) dX0_cuttersAt_18 (by omega) ?_
      refine G_callVi dX0_cuttersAt_19 kX0_cuttersAt_X0_at ⟨rfl, rfl⟩ ⟨Nat.zero_le _, Nat.zero_le _⟩ (c_atH hΩ (j := 143 + c) (j' := 139 + c) (by omega) (by omega)) rfl rfl ((hΩ _).1) rfl rfl ?_
      refine G_iload_n dX0_cuttersAt_22 rfl ?_
      refine G_icmp_ne 43 dX0_cuttersAt_23 (by decide) (fun c23 => ?_) (fun c23 => ?_)
      · refine G_iincN (a := c) (s := c + 1) dX0_cuttersAt_43 rfl (by omega) (L' := [some (.ref lp), some (.int h), some (.int b), some (.int x), some (.int (nI (c + 1)))]) rfl ?_
        refine G_goto 5 dX0_cuttersAt_46 (by decide) ?_
        exact lp_cuttersAt hΩ d (c + 1) x (by omega) (by rw [hr, itr_s]; congr 1; simp [c23])
      · refine G_aload_n dX0_cuttersAt_26 rfl ?_
        refine G_sipush (v := 149) dX0_cuttersAt_27 (by decide) ?_
        refine G_iload dX0_cuttersAt_30 rfl ?_
        refine G_iaddN (a := 149) (c := c) (s := 149 + c) dX0_cuttersAt_32 (by omega) ?_
        refine G_callVi dX0_cuttersAt_33 kX0_cuttersAt_X0_at ⟨rfl, rfl⟩ ⟨Nat.zero_le _, Nat.zero_le _⟩ (c_atH hΩ (j := 149 + c) (j' := 145 + c) (by omega) (by omega)) rfl rfl ((hΩ _).1) rfl rfl ?_
        refine G_iload_n dX0_cuttersAt_36 rfl ?_
        refine G_icmp_ne 43 dX0_cuttersAt_37 (by decide) (fun c37 => ?_) (fun c37 => ?_)
        · refine G_iincN (a := c) (s := c + 1) dX0_cuttersAt_43 rfl (by omega) (L' := [some (.ref lp), some (.int h), some (.int b), some (.int x), some (.int (nI (c + 1)))]) rfl ?_
          refine G_goto 5 dX0_cuttersAt_46 (by decide) ?_
          exact lp_cuttersAt hΩ d (c + 1) x (by omega) (by rw [hr, itr_s]; congr 1; simp [c23, c37])
        · refine G_iinc (v := (x + 1)) dX0_cuttersAt_40 rfl rfl (L' := [some (.ref lp), some (.int h), some (.int b), some (.int (x + 1)), some (.int (nI (c)))]) rfl ?_
          refine G_iincN (a := c) (s := c + 1) dX0_cuttersAt_43 rfl (by omega) (L' := [some (.ref lp), some (.int h), some (.int b), some (.int (x + 1)), some (.int (nI (c + 1)))]) rfl ?_
          refine G_goto 5 dX0_cuttersAt_46 (by decide) ?_
          exact lp_cuttersAt hΩ d (c + 1) (x + 1) (by omega) (by rw [hr, itr_s]; congr 1; simp [c23, c37])
theorem c_cuttersAt (hΩ : LV lp ap Ω) {q f : mj_S} {h b : Int32} : MC l yX0_cuttersAt wsX0_cuttersAt rmX0_cuttersAt false [.ref lp, .int h, .int b] (Ω (row q f)) (some (.int (s_cnt f h b))) (Ω (row q f)) := by
  refine mj_MC (cc := cX0_cuttersAt) (nl := 5) (ret := (some .int)) (plainFor_of_name (by decide)) rfl (⟨_, rfl, rfl⟩) (Nat.le_of_ble_eq_true rfl) ?_
  show GG l cX0_cuttersAt MX0_cuttersAt false (.inl ((some (.int (s_cnt f h b))), Ω (row q f))) 0 [some (.ref lp), some (.int h), some (.int b), none, none] [] (Ω (row q f)) 0 0
  refine G_iconst (v := 0) dX0_cuttersAt_0 (by decide) ?_
  refine G_istore_n dX0_cuttersAt_1 rfl (L' := [some (.ref lp), some (.int h), some (.int b), some (.int 0), none]) rfl ?_
  refine G_iconst (v := 0) dX0_cuttersAt_2 (by decide) ?_
  refine G_istore dX0_cuttersAt_3 rfl (L' := [some (.ref lp), some (.int h), some (.int b), some (.int 0), some (.int 0)]) rfl ?_
  exact lp_cuttersAt hΩ 6 0 0 rfl rfl
theorem lp_cuttersOnBank (hΩ : LV lp ap Ω) {q f : mj_S} {b res : Int32} : ∀ (d c : Nat) (x : Int32), c + d = 5 → res = itr (fun h a => a + s_cnt f (nI h) b) d c x → GG l cX0_cuttersOnBank MX0_cuttersOnBank false (.inl (some (.int res), Ω (row q f))) 4 [some (.ref lp), some (.int b), some (.int x), some (.int (nI (c)))] [] (Ω (row q f)) 0 0
  | 0, c, x, hc, hr => by
    refine G_iload_n dX0_cuttersOnBank_4 rfl ?_
    refine G_iconst (v := 5) dX0_cuttersOnBank_5 (by decide) ?_
    refine G_icmp_geN (a := c) (c := 5) 24 dX0_cuttersOnBank_6 (by decide) (by omega) (fun c6 => ?_) (fun c6 => ?_)
    · refine G_iload_n dX0_cuttersOnBank_24 rfl ?_
      exact G_iret dX0_cuttersOnBank_25 ⟨Nat.zero_le _, Nat.zero_le _⟩ (by rw [hr, itr_0])
    · exact (show False by omega).elim
  | d + 1, c, x, hc, hr => by
    refine G_iload_n dX0_cuttersOnBank_4 rfl ?_
    refine G_iconst (v := 5) dX0_cuttersOnBank_5 (by decide) ?_
    refine G_icmp_geN (a := c) (c := 5) 24 dX0_cuttersOnBank_6 (by decide) (by omega) (fun c6 => ?_) (fun c6 => ?_)
    · exact (show False by omega).elim
    · refine G_iload_n dX0_cuttersOnBank_9 rfl ?_
      refine G_aload_n dX0_cuttersOnBank_10 rfl ?_
      refine G_iload_n dX0_cuttersOnBank_11 rfl ?_
      refine G_iload_n dX0_cuttersOnBank_12 rfl ?_
      refine G_callVi dX0_cuttersOnBank_13 kX0_cuttersOnBank_X0_cuttersAt ⟨rfl, rfl⟩ ⟨Nat.zero_le _, Nat.zero_le _⟩ (c_cuttersAt hΩ) rfl rfl ((hΩ _).1) rfl rfl ?_
      refine G_iadd dX0_cuttersOnBank_16 ?_
      refine G_istore_n dX0_cuttersOnBank_17 rfl (L' := [some (.ref lp), some (.int b), some (.int (x + (s_cnt f (nI (c)) b))), some (.int (nI (c)))]) rfl ?_
      refine G_iincN (a := c) (s := c + 1) dX0_cuttersOnBank_18 rfl (by omega) (L' := [some (.ref lp), some (.int b), some (.int (x + (s_cnt f (nI (c)) b))), some (.int (nI (c + 1)))]) rfl ?_
      refine G_goto 4 dX0_cuttersOnBank_21 (by decide) ?_
      exact lp_cuttersOnBank hΩ d (c + 1) (x + (s_cnt f (nI (c)) b)) (by omega) hr
theorem c_cuttersOnBank (hΩ : LV lp ap Ω) {q f : mj_S} {b : Int32} : MC l yX0_cuttersOnBank wsX0_cuttersOnBank rmX0_cuttersOnBank false [.ref lp, .int b] (Ω (row q f)) (some (.int (s_cntB f b))) (Ω (row q f)) := by
  refine mj_MC (cc := cX0_cuttersOnBank) (nl := 4) (ret := (some .int)) (plainFor_of_name (by decide)) rfl (⟨_, rfl, rfl⟩) (Nat.le_of_ble_eq_true rfl) ?_
  show GG l cX0_cuttersOnBank MX0_cuttersOnBank false (.inl ((some (.int (s_cntB f b))), Ω (row q f))) 0 [some (.ref lp), some (.int b), none, none] [] (Ω (row q f)) 0 0
  refine G_iconst (v := 0) dX0_cuttersOnBank_0 (by decide) ?_
  refine G_istore_n dX0_cuttersOnBank_1 rfl (L' := [some (.ref lp), some (.int b), some (.int 0), none]) rfl ?_
  refine G_iconst (v := 0) dX0_cuttersOnBank_2 (by decide) ?_
  refine G_istore_n dX0_cuttersOnBank_3 rfl (L' := [some (.ref lp), some (.int b), some (.int 0), some (.int 0)]) rfl ?_
  exact lp_cuttersOnBank hΩ 5 0 0 rfl rfl
theorem lp_cuttersAtWork (hΩ : LV lp ap Ω) {q f : mj_S} {res : Int32} : ∀ (d c : Nat) (x : Int32), c + d = 4 → res = itr (fun b a => a + s_cntB f (nI b)) d c x → GG l cX0_cuttersAtWork MX0_cuttersAtWork false (.inl (some (.int res), Ω (row q f))) 4 [some (.ref lp), some (.int x), some (.int (nI (c)))] [] (Ω (row q f)) 0 0
  | 0, c, x, hc, hr => by
    refine G_iload_n dX0_cuttersAtWork_4 rfl ?_
    refine G_iconst (v := 4) dX0_cuttersAtWork_5 (by decide) ?_
    refine G_icmp_geN (a := c) (c := 4) 23 dX0_cuttersAtWork_6 (by decide) (by omega) (fun c6 => ?_) (fun c6 => ?_)
    · refine G_iload_n dX0_cuttersAtWork_23 rfl ?_
      exact G_iret dX0_cuttersAtWork_24 ⟨Nat.zero_le _, Nat.zero_le _⟩ (by rw [hr, itr_0])
    · exact (show False by omega).elim
  | d + 1, c, x, hc, hr => by
    refine G_iload_n dX0_cuttersAtWork_4 rfl ?_
    refine G_iconst (v := 4) dX0_cuttersAtWork_5 (by decide) ?_
    refine G_icmp_geN (a := c) (c := 4) 23 dX0_cuttersAtWork_6 (by decide) (by omega) (fun c6 => ?_) (fun c6 => ?_)
    · exact (show False by omega).elim
    · refine G_iload_n dX0_cuttersAtWork_9 rfl ?_
      refine G_aload_n dX0_cuttersAtWork_10 rfl ?_
      refine G_iload_n dX0_cuttersAtWork_11 rfl ?_
      refine G_callVi dX0_cuttersAtWork_12 kX0_cuttersAtWork_X0_cuttersOnBank ⟨rfl, rfl⟩ ⟨Nat.zero_le _, Nat.zero_le _⟩ (c_cuttersOnBank hΩ) rfl rfl ((hΩ _).1) rfl rfl ?_
      refine G_iadd dX0_cuttersAtWork_15 ?_
      refine G_istore_n dX0_cuttersAtWork_16 rfl (L' := [some (.ref lp), some (.int (x + (s_cntB f (nI (c))))), some (.int (nI (c)))]) rfl ?_
      refine G_iincN (a := c) (s := c + 1) dX0_cuttersAtWork_17 rfl (by omega) (L' := [some (.ref lp), some (.int (x + (s_cntB f (nI (c))))), some (.int (nI (c + 1)))]) rfl ?_
      refine G_goto 4 dX0_cuttersAtWork_20 (by decide) ?_
      exact lp_cuttersAtWork hΩ d (c + 1) (x + (s_cntB f (nI (c)))) (by omega) hr
theorem c_cuttersAtWork (hΩ : LV lp ap Ω) {q f : mj_S} : MC l yX0_cuttersAtWork wsX0_cuttersAtWork rmX0_cuttersAtWork false [.ref lp] (Ω (row q f)) (some (.int (s_cntA f))) (Ω (row q f)) := by
  refine mj_MC (cc := cX0_cuttersAtWork) (nl := 3) (ret := (some .int)) (plainFor_of_name (by decide)) rfl (⟨_, rfl, rfl⟩) (Nat.le_of_ble_eq_true rfl) ?_
  show GG l cX0_cuttersAtWork MX0_cuttersAtWork false (.inl ((some (.int (s_cntA f))), Ω (row q f))) 0 [some (.ref lp), none, none] [] (Ω (row q f)) 0 0
  refine G_iconst (v := 0) dX0_cuttersAtWork_0 (by decide) ?_
  refine G_istore_n dX0_cuttersAtWork_1 rfl (L' := [some (.ref lp), some (.int 0), none]) rfl ?_
  refine G_iconst (v := 0) dX0_cuttersAtWork_2 (by decide) ?_
  refine G_istore_n dX0_cuttersAtWork_3 rfl (L' := [some (.ref lp), some (.int 0), some (.int 0)]) rfl ?_
  exact lp_cuttersAtWork hΩ 4 0 0 rfl rfl
theorem c_reasonAgainst (hΩ : LV lp ap Ω) {q f : mj_S} {h b : Nat} (hh : h < 5) (hb : b < 4) : MC l yX0_reasonAgainst wsX0_reasonAgainst rmX0_reasonAgainst false [.ref lp, .int (nI (h)), .int (nI (b))] (Ω (row q f)) (some (.int (s_why f h b))) (Ω (row q f)) := by
  refine mj_MC (cc := cX0_reasonAgainst) (nl := 4) (ret := (some .int)) (plainFor_of_name (by decide)) rfl (⟨_, rfl, rfl⟩) (Nat.le_of_ble_eq_true rfl) ?_
  show GG l cX0_reasonAgainst MX0_reasonAgainst false (.inl ((some (.int (s_why f h b))), Ω (row q f))) 0 [some (.ref lp), some (.int (nI (h))), some (.int (nI (b))), none] [] (Ω (row q f)) 0 0
  refine G_aload_n dX0_reasonAgainst_0 rfl ?_
  refine G_bipush (v := 57) dX0_reasonAgainst_1 (by decide) ?_
  refine G_iload_n dX0_reasonAgainst_3 rfl ?_
  refine G_iload_n dX0_reasonAgainst_4 rfl ?_
  refine G_callSi dX0_reasonAgainst_5 kX0_reasonAgainst_X0_plotOf ⟨rfl, rfl⟩ ⟨Nat.zero_le _, Nat.zero_le _⟩ (c_plotOfN (h := h) (b := b) (s := b + 4 * h) (by omega)) rfl rfl rfl ?_
  refine G_iaddN (a := 57) (c := b + 4 * h) (s := 57 + b + 4 * h) dX0_reasonAgainst_8 (by omega) ?_
  refine G_callVi dX0_reasonAgainst_9 kX0_reasonAgainst_X0_at ⟨rfl, rfl⟩ ⟨Nat.zero_le _, Nat.zero_le _⟩ (c_atH hΩ (j := 57 + b + 4 * h) (j' := 53 + b + 4 * h) (by omega) (by omega)) rfl rfl ((hΩ _).1) rfl rfl ?_
  refine G_istore_n dX0_reasonAgainst_12 rfl (L' := [some (.ref lp), some (.int (nI (h))), some (.int (nI (b))), some (.int (f (53 + b + 4 * h)))]) rfl ?_
  refine G_iload_n dX0_reasonAgainst_13 rfl ?_
  refine G_if_ne 19 dX0_reasonAgainst_14 (by decide) (fun c14 => ?_) (fun c14 => ?_)
  · refine G_aload_n dX0_reasonAgainst_19 rfl ?_
    refine G_iload_n dX0_reasonAgainst_20 rfl ?_
    refine G_iload_n dX0_reasonAgainst_21 rfl ?_
    refine G_callVi dX0_reasonAgainst_22 kX0_reasonAgainst_X0_cuttersAt ⟨rfl, rfl⟩ ⟨Nat.zero_le _, Nat.zero_le _⟩ (c_cuttersAt hΩ) rfl rfl ((hΩ _).1) rfl rfl ?_
    refine G_iload_n dX0_reasonAgainst_25 rfl ?_
    refine G_icmp_lt 31 dX0_reasonAgainst_26 (by decide) (fun c26 => ?_) (fun c26 => ?_)
    · refine G_aload_n dX0_reasonAgainst_31 rfl ?_
      refine G_bipush (v := 45) dX0_reasonAgainst_32 (by decide) ?_
      refine G_iload_n dX0_reasonAgainst_34 rfl ?_
      refine G_iaddN (a := 45) (c := b) (s := 45 + b) dX0_reasonAgainst_35 (by omega) ?_
      refine G_callVi dX0_reasonAgainst_36 kX0_reasonAgainst_X0_at ⟨rfl, rfl⟩ ⟨Nat.zero_le _, Nat.zero_le _⟩ (c_atL hΩ (j := 45 + b) (by omega)) rfl rfl ((hΩ _).1) rfl rfl ?_
      refine G_if_ne 44 dX0_reasonAgainst_39 (by decide) (fun c39 => ?_) (fun c39 => ?_)
      · refine G_aload_n dX0_reasonAgainst_44 rfl ?_
        refine G_iconst (v := 1) dX0_reasonAgainst_45 (by decide) ?_
        refine G_callVi dX0_reasonAgainst_46 kX0_reasonAgainst_X0_at ⟨rfl, rfl⟩ ⟨Nat.zero_le _, Nat.zero_le _⟩ (c_atL hΩ (j := 1) (by omega)) rfl rfl ((hΩ _).1) rfl rfl ?_
        refine G_iconst (v := 1) dX0_reasonAgainst_49 (by decide) ?_
        refine G_icmp_ne 57 dX0_reasonAgainst_50 (by decide) (fun c50 => ?_) (fun c50 => ?_)
        · refine G_iconst (v := 0) dX0_reasonAgainst_57 (by decide) ?_
          exact G_iret dX0_reasonAgainst_58 ⟨Nat.zero_le _, Nat.zero_le _⟩ (X_i (by simp [s_why, c14, Int32.not_le.mpr c26, c39, c50]))
        · refine G_iconst (v := 4) dX0_reasonAgainst_53 (by decide) ?_
          refine G_goto 58 dX0_reasonAgainst_54 (by decide) ?_
          exact G_iret dX0_reasonAgainst_58 ⟨Nat.zero_le _, Nat.zero_le _⟩ (X_i (by simp [s_why, c14, Int32.not_le.mpr c26, c39, c50]))
      · refine G_iconst (v := 3) dX0_reasonAgainst_42 (by decide) ?_
        exact G_iret dX0_reasonAgainst_43 ⟨Nat.zero_le _, Nat.zero_le _⟩ (X_i (by simp [s_why, c14, Int32.not_le.mpr c26, c39]))
    · refine G_iconst (v := 2) dX0_reasonAgainst_29 (by decide) ?_
      exact G_iret dX0_reasonAgainst_30 ⟨Nat.zero_le _, Nat.zero_le _⟩ (X_i (by simp [s_why, c14, Int32.not_lt.mp c26]))
  · refine G_iconst (v := 1) dX0_reasonAgainst_17 (by decide) ?_
    exact G_iret dX0_reasonAgainst_18 ⟨Nat.zero_le _, Nat.zero_le _⟩ (X_i (by simp [s_why, c14]))
theorem c_setToWork (hΩ : LV lp ap Ω) {q f : mj_S} {c : Nat} {h b : Int32} (hc : c < 6) : MC l yX0_setToWork wsX0_setToWork rmX0_setToWork false [.ref lp, .int (nI (c)), .int h, .int b] (Ω (row q f)) none (Ω (row q (s_setw f c h b))) := by
  refine mj_MC (cc := cX0_setToWork) (nl := 4) (ret := none) (plainFor_of_name (by decide)) rfl (rfl) (Nat.le_of_ble_eq_true rfl) ?_
  show GG l cX0_setToWork MX0_setToWork false (.inl (none, Ω (row q (s_setw f c h b)))) 0 [some (.ref lp), some (.int (nI (c))), some (.int h), some (.int b)] [] (Ω (row q f)) 0 0
  refine G_aload_n dX0_setToWork_0 rfl ?_
  refine G_sipush (v := 143) dX0_setToWork_1 (by decide) ?_
  refine G_iload_n dX0_setToWork_4 rfl ?_
  refine G_iaddN (a := 143) (c := c) (s := 143 + c) dX0_setToWork_5 (by omega) ?_
  refine G_iload_n dX0_setToWork_6 rfl ?_
  obtain ⟨f1, ef1⟩ : ∃ z : mj_S, z = upd f (139 + c) h := ⟨_, rfl⟩
  refine G_callVv dX0_setToWork_7 kX0_setToWork_X0_put ⟨rfl, rfl⟩ ⟨Nat.zero_le _, Nat.zero_le _⟩ (c_putH hΩ (j := 143 + c) (j' := 139 + c) (by omega) (by omega) ef1) rfl rfl ((hΩ _).1) rfl rfl ?_
  refine G_aload_n dX0_setToWork_10 rfl ?_
  refine G_sipush (v := 149) dX0_setToWork_11 (by decide) ?_
  refine G_iload_n dX0_setToWork_14 rfl ?_
  refine G_iaddN (a := 149) (c := c) (s := 149 + c) dX0_setToWork_15 (by omega) ?_
  refine G_iload_n dX0_setToWork_16 rfl ?_
  obtain ⟨f2, ef2⟩ : ∃ z : mj_S, z = upd f1 (145 + c) b := ⟨_, rfl⟩
  refine G_callVv dX0_setToWork_17 kX0_setToWork_X0_put ⟨rfl, rfl⟩ ⟨Nat.zero_le _, Nat.zero_le _⟩ (c_putH hΩ (j := 149 + c) (j' := 145 + c) (by omega) (by omega) ef2) rfl rfl ((hΩ _).1) rfl rfl ?_
  exact G_vret dX0_setToWork_20 ⟨Nat.zero_le _, Nat.zero_le _⟩ (by subst ef2; subst ef1; rfl)
theorem c_letRest (hΩ : LV lp ap Ω) {q f : mj_S} {c : Nat} (hc : c < 6) : MC l yX0_letRest wsX0_letRest rmX0_letRest false [.ref lp, .int (nI (c))] (Ω (row q f)) none (Ω (row q (s_setw f c (-1) (-1)))) := by
  refine mj_MC (cc := cX0_letRest) (nl := 2) (ret := none) (plainFor_of_name (by decide)) rfl (rfl) (Nat.le_of_ble_eq_true rfl) ?_
  show GG l cX0_letRest MX0_letRest false (.inl (none, Ω (row q (s_setw f c (-1) (-1))))) 0 [some (.ref lp), some (.int (nI (c)))] [] (Ω (row q f)) 0 0
  refine G_aload_n dX0_letRest_0 rfl ?_
  refine G_iload_n dX0_letRest_1 rfl ?_
  refine G_iconst (v := (-1)) dX0_letRest_2 (by decide) ?_
  refine G_iconst (v := (-1)) dX0_letRest_3 (by decide) ?_
  refine G_callVv dX0_letRest_4 kX0_letRest_X0_setToWork ⟨rfl, rfl⟩ ⟨Nat.zero_le _, Nat.zero_le _⟩ (c_setToWork hΩ (c := c) (by omega)) rfl rfl ((hΩ _).1) rfl rfl ?_
  exact G_vret dX0_letRest_7 ⟨Nat.zero_le _, Nat.zero_le _⟩ (rfl)
theorem lp_turnSnow (hΩ : LV lp ap Ω) {q res : mj_S} : ∀ (d c : Nat) (f : mj_S), c + d = 6 → res = itr (fun c a => s_setw a c (-1) (-1)) d c f → GG l cX0_turnSnow MX0_turnSnow false (.inl (none, Ω (row q res))) 23 [some (.ref lp), some (.int (nI (c)))] [] (Ω (row q f)) 0 0
  | 0, c, f, hc, hr => by
    refine G_iload_n dX0_turnSnow_23 rfl ?_
    refine G_bipush (v := 6) dX0_turnSnow_24 (by decide) ?_
    refine G_icmp_geN (a := c) (c := 6) 40 dX0_turnSnow_26 (by decide) (by omega) (fun c26 => ?_) (fun c26 => ?_)
    · exact G_vret dX0_turnSnow_40 ⟨Nat.zero_le _, Nat.zero_le _⟩ (by rw [hr, itr_0])
    · exact (show False by omega).elim
  | d + 1, c, f, hc, hr => by
    refine G_iload_n dX0_turnSnow_23 rfl ?_
    refine G_bipush (v := 6) dX0_turnSnow_24 (by decide) ?_
    refine G_icmp_geN (a := c) (c := 6) 40 dX0_turnSnow_26 (by decide) (by omega) (fun c26 => ?_) (fun c26 => ?_)
    · exact (show False by omega).elim
    · refine G_aload_n dX0_turnSnow_29 rfl ?_
      refine G_iload_n dX0_turnSnow_30 rfl ?_
      refine G_callVv dX0_turnSnow_31 kX0_turnSnow_X0_letRest ⟨rfl, rfl⟩ ⟨Nat.zero_le _, Nat.zero_le _⟩ (c_letRest hΩ (c := c) (by omega)) rfl rfl ((hΩ _).1) rfl rfl ?_
      refine G_iincN (a := c) (s := c + 1) dX0_turnSnow_34 rfl (by omega) (L' := [some (.ref lp), some (.int (nI (c + 1)))]) rfl ?_
      refine G_goto 23 dX0_turnSnow_37 (by decide) ?_
      exact lp_turnSnow hΩ d (c + 1) _ (by omega) hr
theorem c_turnSnow (hΩ : LV lp ap Ω) {q f : mj_S} : MC l yX0_turnSnow wsX0_turnSnow rmX0_turnSnow false [.ref lp] (Ω (row q f)) none (Ω (row q (s_turn f))) := by
  refine mj_MC (cc := cX0_turnSnow) (nl := 2) (ret := none) (plainFor_of_name (by decide)) rfl (rfl) (Nat.le_of_ble_eq_true rfl) ?_
  show GG l cX0_turnSnow MX0_turnSnow false (.inl (none, Ω (row q (s_turn f)))) 0 [some (.ref lp), none] [] (Ω (row q f)) 0 0
  refine G_aload_n dX0_turnSnow_0 rfl ?_
  refine G_iconst (v := 1) dX0_turnSnow_1 (by decide) ?_
  refine G_iconst (v := 1) dX0_turnSnow_2 (by decide) ?_
  refine G_aload_n dX0_turnSnow_3 rfl ?_
  refine G_iconst (v := 1) dX0_turnSnow_4 (by decide) ?_
  refine G_callVi dX0_turnSnow_5 kX0_turnSnow_X0_at ⟨rfl, rfl⟩ ⟨Nat.zero_le _, Nat.zero_le _⟩ (c_atL hΩ (j := 1) (by omega)) rfl rfl ((hΩ _).1) rfl rfl ?_
  refine G_isub dX0_turnSnow_8 ?_
  obtain ⟨f1, ef1⟩ : ∃ z : mj_S, z = upd f (1) (1 - (f (1))) := ⟨_, rfl⟩
  refine G_callVv dX0_turnSnow_9 kX0_turnSnow_X0_put ⟨rfl, rfl⟩ ⟨Nat.zero_le _, Nat.zero_le _⟩ (c_putL hΩ (j := 1) (by omega) ef1) rfl rfl ((hΩ _).1) rfl rfl ?_
  refine G_aload_n dX0_turnSnow_12 rfl ?_
  refine G_iconst (v := 1) dX0_turnSnow_13 (by decide) ?_
  refine G_callVi dX0_turnSnow_14 kX0_turnSnow_X0_at ⟨rfl, rfl⟩ ⟨Nat.zero_le _, Nat.zero_le _⟩ (c_atL hΩ (j := 1) (by omega)) rfl rfl ((hΩ _).1) rfl rfl ?_
  refine G_iconst (v := 1) dX0_turnSnow_17 (by decide) ?_
  refine G_icmp_ne 40 dX0_turnSnow_18 (by decide) (fun c18 => ?_) (fun c18 => ?_)
  · exact G_vret dX0_turnSnow_40 ⟨Nat.zero_le _, Nat.zero_le _⟩ (by rw [ef1, upd_s] at c18; rw [ef1, s_turn, if_neg c18])
  · refine G_iconst (v := 0) dX0_turnSnow_21 (by decide) ?_
    refine G_istore_n dX0_turnSnow_22 rfl (L' := [some (.ref lp), some (.int 0)]) rfl ?_
    exact lp_turnSnow hΩ 6 0 _ rfl (by rw [ef1, upd_s] at c18; rw [ef1, s_turn, if_pos c18])
theorem c_rainOf (hΩ : LV lp ap Ω) {q f : mj_S} {d sg : Nat} (hd : d < 2147483648) (hs : f 2 = nI sg) (hs9 : sg ≤ 9) : MC l yX0_rainOf wsX0_rainOf rmX0_rainOf false [.ref lp, .int (nI (d))] (Ω (row q f)) (some (.int (nI (s_rain f d)))) (Ω (row q f)) := by
  refine mj_MC (cc := cX0_rainOf) (nl := 2) (ret := (some .int)) (plainFor_of_name (by decide)) rfl (⟨_, rfl, rfl⟩) (Nat.le_of_ble_eq_true rfl) ?_
  show GG l cX0_rainOf MX0_rainOf false (.inl ((some (.int (nI (s_rain f d)))), Ω (row q f))) 0 [some (.ref lp), some (.int (nI (d)))] [] (Ω (row q f)) 0 0
  refine G_bipush (v := 7) dX0_rainOf_0 (by decide) ?_
  refine G_iload_n dX0_rainOf_2 rfl ?_
  refine G_bipush (v := 10) dX0_rainOf_3 (by decide) ?_
  refine G_callSi dX0_rainOf_5 kX0_rainOf_J9_floorMod_7cf53 ⟨rfl, rfl⟩ ⟨Nat.zero_le _, Nat.zero_le _⟩ (c_fmod (a := d) (c := 10) (by omega) (by omega)) rfl rfl rfl ?_
  refine G_imulN (a := 7) (c := ((d) % 10)) (s := 7 * ((d) % 10)) dX0_rainOf_8 (by omega) ?_
  refine G_aload_n dX0_rainOf_9 rfl ?_
  refine G_iconst (v := 2) dX0_rainOf_10 (by decide) ?_
  refine G_callVi dX0_rainOf_11 kX0_rainOf_X0_at ⟨rfl, rfl⟩ ⟨Nat.zero_le _, Nat.zero_le _⟩ (c_atL hΩ (j := 2) (by omega)) rfl rfl ((hΩ _).1) rfl rfl ?_
  refine G_eqi hs ?_
  refine G_iaddN (a := 7 * ((d) % 10)) (c := sg) (s := 7 * ((d) % 10) + sg) dX0_rainOf_14 (by omega) ?_
  refine G_bipush (v := 10) dX0_rainOf_15 (by decide) ?_
  refine G_callSi dX0_rainOf_17 kX0_rainOf_J9_floorMod_7cf53 ⟨rfl, rfl⟩ ⟨Nat.zero_le _, Nat.zero_le _⟩ (c_fmod (a := 7 * ((d) % 10) + sg) (c := 10) (by omega) (by omega)) rfl rfl rfl ?_
  exact G_iret dX0_rainOf_20 ⟨Nat.zero_le _, Nat.zero_le _⟩ (X_i (congrArg nI (by rw [s_rain, hs, nI_clamp (by omega)]; omega)))
theorem lp_tv1 (hΩ : LV lp ap Ω) {q f : mj_S} {p m : Nat} (hp : p + m ≤ 20) {res : Int32} : ∀ (d c : Nat) (x : Int32) (y : Option Value), c + d = m → res = itr (fun i a => a + s_tv f (i + p)) d c x → GG l cX0_turvesOn MX0_turvesOn false (.inl (some (.int res), Ω (row q f))) 6 [some (.ref lp), some (.int (nI p)), some (.int 1), some (.int (nI (m))), some (.int x), some (.int (nI c)), y] [] (Ω (row q f)) 0 0
  | 0, c, x, y, hc, hr => by
    refine G_iload dX0_turvesOn_6 rfl ?_
    refine G_iload_n dX0_turvesOn_8 rfl ?_
    refine G_icmp_geN (a := c) (c := m) 60 dX0_turvesOn_9 (by decide) (by omega) (fun c9 => ?_) (fun c9 => ?_)
    · refine G_iload dX0_turvesOn_60 rfl ?_
      exact G_iret dX0_turvesOn_62 ⟨Nat.zero_le _, Nat.zero_le _⟩ (by rw [hr, itr_0])
    · exact (show False by omega).elim
  | d + 1, c, x, y, hc, hr => by
    refine G_iload dX0_turvesOn_6 rfl ?_
    refine G_iload_n dX0_turvesOn_8 rfl ?_
    refine G_icmp_geN (a := c) (c := m) 60 dX0_turvesOn_9 (by decide) (by omega) (fun c9 => ?_) (fun c9 => ?_)
    · exact (show False by omega).elim
    · refine G_iload_n dX0_turvesOn_12 rfl ?_
      refine G_iload dX0_turvesOn_13 rfl ?_
      refine G_iload_n dX0_turvesOn_15 rfl ?_
      refine G_imulN (a := c) (c := 1) (s := c) dX0_turvesOn_16 (by omega) ?_
      refine G_iaddN (a := p) (c := c) (s := c + p) dX0_turvesOn_17 (by omega) ?_
      refine G_istore dX0_turvesOn_18 rfl (L' := [some (.ref lp), some (.int (nI (p))), some (.int 1), some (.int (nI (m))), some (.int x), some (.int (nI (c))), some (.int (nI (c + p)))]) rfl ?_
      refine G_iload dX0_turvesOn_20 rfl ?_
      refine G_aload_n dX0_turvesOn_22 rfl ?_
      refine G_bipush (v := 77) dX0_turvesOn_23 (by decide) ?_
      refine G_iload dX0_turvesOn_25 rfl ?_
      refine G_iaddN (a := 77) (c := c + p) (s := 77 + c + p) dX0_turvesOn_27 (by omega) ?_
      refine G_callVi dX0_turvesOn_28 kX0_turvesOn_X0_at ⟨rfl, rfl⟩ ⟨Nat.zero_le _, Nat.zero_le _⟩ (c_atH hΩ (j := 77 + c + p) (j' := 73 + c + p) (by omega) (by omega)) rfl rfl ((hΩ _).1) rfl rfl ?_
      refine G_aload_n dX0_turvesOn_31 rfl ?_
      refine G_bipush (v := 97) dX0_turvesOn_32 (by decide) ?_
      refine G_iload dX0_turvesOn_34 rfl ?_
      refine G_iaddN (a := 97) (c := c + p) (s := 97 + c + p) dX0_turvesOn_36 (by omega) ?_
      refine G_callVi dX0_turvesOn_37 kX0_turvesOn_X0_at ⟨rfl, rfl⟩ ⟨Nat.zero_le _, Nat.zero_le _⟩ (c_atH hΩ (j := 97 + c + p) (j' := 93 + c + p) (by omega) (by omega)) rfl rfl ((hΩ _).1) rfl rfl ?_
      refine G_iadd dX0_turvesOn_40 ?_
      refine G_aload_n dX0_turvesOn_41 rfl ?_
      refine G_bipush (v := 117) dX0_turvesOn_42 (by decide) ?_
      refine G_iload dX0_turvesOn_44 rfl ?_
      refine G_iaddN (a := 117) (c := c + p) (s := 117 + c + p) dX0_turvesOn_46 (by omega) ?_
      refine G_callVi dX0_turvesOn_47 kX0_turvesOn_X0_at ⟨rfl, rfl⟩ ⟨Nat.zero_le _, Nat.zero_le _⟩ (c_atH hΩ (j := 117 + c + p) (j' := 113 + c + p) (by omega) (by omega)) rfl rfl ((hΩ _).1) rfl rfl ?_
      refine G_iadd dX0_turvesOn_50 ?_
      refine G_iadd dX0_turvesOn_51 ?_
      refine G_istore dX0_turvesOn_52 rfl (L' := [some (.ref lp), some (.int (nI (p))), some (.int 1), some (.int (nI (m))), some (.int (x + (((f (73 + c + p)) + (f (93 + c + p))) + (f (113 + c + p))))), some (.int (nI (c))), some (.int (nI (c + p)))]) rfl ?_
      refine G_iincN (a := c) (s := c + 1) dX0_turvesOn_54 rfl (by omega) (L' := [some (.ref lp), some (.int (nI (p))), some (.int 1), some (.int (nI (m))), some (.int (x + (((f (73 + c + p)) + (f (93 + c + p))) + (f (113 + c + p))))), some (.int (nI (c + 1))), some (.int (nI (c + p)))]) rfl ?_
      refine G_goto 6 dX0_turvesOn_57 (by decide) ?_
      exact lp_tv1 hΩ hp d (c + 1) (x + (((f (73 + c + p)) + (f (93 + c + p))) + (f (113 + c + p)))) _ (by omega) (by rw [hr, itr_s, s_tv]; simp only [Nat.add_assoc])
theorem lp_tv4 (hΩ : LV lp ap Ω) {q f : mj_S} {p : Nat} (hp : p < 4) {res : Int32} : ∀ (d c : Nat) (x : Int32) (y : Option Value), c + d = 5 → res = itr (fun i a => a + s_tv f (4 * i + p)) d c x → GG l cX0_turvesOn MX0_turvesOn false (.inl (some (.int res), Ω (row q f))) 6 [some (.ref lp), some (.int (nI p)), some (.int 4), some (.int (nI (5))), some (.int x), some (.int (nI c)), y] [] (Ω (row q f)) 0 0
  | 0, c, x, y, hc, hr => by
    refine G_iload dX0_turvesOn_6 rfl ?_
    refine G_iload_n dX0_turvesOn_8 rfl ?_
    refine G_icmp_geN (a := c) (c := 5) 60 dX0_turvesOn_9 (by decide) (by omega) (fun c9 => ?_) (fun c9 => ?_)
    · refine G_iload dX0_turvesOn_60 rfl ?_
      exact G_iret dX0_turvesOn_62 ⟨Nat.zero_le _, Nat.zero_le _⟩ (by rw [hr, itr_0])
    · exact (show False by omega).elim
  | d + 1, c, x, y, hc, hr => by
    refine G_iload dX0_turvesOn_6 rfl ?_
    refine G_iload_n dX0_turvesOn_8 rfl ?_
    refine G_icmp_geN (a := c) (c := 5) 60 dX0_turvesOn_9 (by decide) (by omega) (fun c9 => ?_) (fun c9 => ?_)
    · exact (show False by omega).elim
    · refine G_iload_n dX0_turvesOn_12 rfl ?_
      refine G_iload dX0_turvesOn_13 rfl ?_
      refine G_iload_n dX0_turvesOn_15 rfl ?_
      refine G_imulN (a := c) (c := 4) (s := 4 * c) dX0_turvesOn_16 (by omega) ?_
      refine G_iaddN (a := p) (c := 4 * c) (s := 4 * c + p) dX0_turvesOn_17 (by omega) ?_
      refine G_istore dX0_turvesOn_18 rfl (L' := [some (.ref lp), some (.int (nI (p))), some (.int 4), some (.int 5), some (.int x), some (.int (nI (c))), some (.int (nI (4 * c + p)))]) rfl ?_
      refine G_iload dX0_turvesOn_20 rfl ?_
      refine G_aload_n dX0_turvesOn_22 rfl ?_
      refine G_bipush (v := 77) dX0_turvesOn_23 (by decide) ?_
      refine G_iload dX0_turvesOn_25 rfl ?_
      refine G_iaddN (a := 77) (c := 4 * c + p) (s := 77 + 4 * c + p) dX0_turvesOn_27 (by omega) ?_
      refine G_callVi dX0_turvesOn_28 kX0_turvesOn_X0_at ⟨rfl, rfl⟩ ⟨Nat.zero_le _, Nat.zero_le _⟩ (c_atH hΩ (j := 77 + 4 * c + p) (j' := 73 + 4 * c + p) (by omega) (by omega)) rfl rfl ((hΩ _).1) rfl rfl ?_
      refine G_aload_n dX0_turvesOn_31 rfl ?_
      refine G_bipush (v := 97) dX0_turvesOn_32 (by decide) ?_
      refine G_iload dX0_turvesOn_34 rfl ?_
      refine G_iaddN (a := 97) (c := 4 * c + p) (s := 97 + 4 * c + p) dX0_turvesOn_36 (by omega) ?_
      refine G_callVi dX0_turvesOn_37 kX0_turvesOn_X0_at ⟨rfl, rfl⟩ ⟨Nat.zero_le _, Nat.zero_le _⟩ (c_atH hΩ (j := 97 + 4 * c + p) (j' := 93 + 4 * c + p) (by omega) (by omega)) rfl rfl ((hΩ _).1) rfl rfl ?_
      refine G_iadd dX0_turvesOn_40 ?_
      refine G_aload_n dX0_turvesOn_41 rfl ?_
      refine G_bipush (v := 117) dX0_turvesOn_42 (by decide) ?_
      refine G_iload dX0_turvesOn_44 rfl ?_
      refine G_iaddN (a := 117) (c := 4 * c + p) (s := 117 + 4 * c + p) dX0_turvesOn_46 (by omega) ?_
      refine G_callVi dX0_turvesOn_47 kX0_turvesOn_X0_at ⟨rfl, rfl⟩ ⟨Nat.zero_le _, Nat.zero_le _⟩ (c_atH hΩ (j := 117 + 4 * c + p) (j' := 113 + 4 * c + p) (by omega) (by omega)) rfl rfl ((hΩ _).1) rfl rfl ?_
      refine G_iadd dX0_turvesOn_50 ?_
      refine G_iadd dX0_turvesOn_51 ?_
      refine G_istore dX0_turvesOn_52 rfl (L' := [some (.ref lp), some (.int (nI (p))), some (.int 4), some (.int 5), some (.int (x + (((f (73 + 4 * c + p)) + (f (93 + 4 * c + p))) + (f (113 + 4 * c + p))))), some (.int (nI (c))), some (.int (nI (4 * c + p)))]) rfl ?_
      refine G_iincN (a := c) (s := c + 1) dX0_turvesOn_54 rfl (by omega) (L' := [some (.ref lp), some (.int (nI (p))), some (.int 4), some (.int 5), some (.int (x + (((f (73 + 4 * c + p)) + (f (93 + 4 * c + p))) + (f (113 + 4 * c + p))))), some (.int (nI (c + 1))), some (.int (nI (4 * c + p)))]) rfl ?_
      refine G_goto 6 dX0_turvesOn_57 (by decide) ?_
      exact lp_tv4 hΩ hp d (c + 1) (x + (((f (73 + 4 * c + p)) + (f (93 + 4 * c + p))) + (f (113 + 4 * c + p)))) _ (by omega) (by rw [hr, itr_s, s_tv]; simp only [Nat.add_assoc])
theorem c_tv (hΩ : LV lp ap Ω) {q f : mj_S} {p m : Nat} (hp : p + m ≤ 20) : MC l yX0_turvesOn wsX0_turvesOn rmX0_turvesOn false [.ref lp, .int (nI p), .int 1, .int (nI m)] (Ω (row q f)) (some (.int (itr (fun i a => a + s_tv f (i + p)) m 0 0))) (Ω (row q f)) := by
  refine mj_MC (cc := cX0_turvesOn) (nl := 7) (ret := (some .int)) (plainFor_of_name (by decide)) rfl (⟨_, rfl, rfl⟩) (Nat.le_of_ble_eq_true rfl) ?_
  show GG l cX0_turvesOn MX0_turvesOn false (.inl ((some (.int (itr (fun i a => a + s_tv f (i + p)) m 0 0))), Ω (row q f))) 0 [some (.ref lp), some (.int (nI (p))), some (.int 1), some (.int (nI (m))), none, none, none] [] (Ω (row q f)) 0 0
  refine G_iconst (v := 0) dX0_turvesOn_0 (by decide) ?_
  refine G_istore dX0_turvesOn_1 rfl (L' := [some (.ref lp), some (.int (nI (p))), some (.int 1), some (.int (nI (m))), some (.int 0), none, none]) rfl ?_
  refine G_iconst (v := 0) dX0_turvesOn_3 (by decide) ?_
  refine G_istore dX0_turvesOn_4 rfl (L' := [some (.ref lp), some (.int (nI (p))), some (.int 1), some (.int (nI (m))), some (.int 0), some (.int 0), none]) rfl ?_
  exact lp_tv1 hΩ hp m 0 0 _ (by omega) rfl
theorem c_tv4 (hΩ : LV lp ap Ω) {q f : mj_S} {p : Nat} (hp : p < 4) : MC l yX0_turvesOn wsX0_turvesOn rmX0_turvesOn false [.ref lp, .int (nI (p)), .int 4, .int 5] (Ω (row q f)) (some (.int (itr (fun i a => a + s_tv f (4 * i + p)) 5 0 0))) (Ω (row q f)) := by
  refine mj_MC (cc := cX0_turvesOn) (nl := 7) (ret := (some .int)) (plainFor_of_name (by decide)) rfl (⟨_, rfl, rfl⟩) (Nat.le_of_ble_eq_true rfl) ?_
  show GG l cX0_turvesOn MX0_turvesOn false (.inl ((some (.int (itr (fun i a => a + s_tv f (4 * i + p)) 5 0 0))), Ω (row q f))) 0 [some (.ref lp), some (.int (nI (p))), some (.int 4), some (.int 5), none, none, none] [] (Ω (row q f)) 0 0
  refine G_iconst (v := 0) dX0_turvesOn_0 (by decide) ?_
  refine G_istore dX0_turvesOn_1 rfl (L' := [some (.ref lp), some (.int (nI (p))), some (.int 4), some (.int 5), some (.int 0), none, none]) rfl ?_
  refine G_iconst (v := 0) dX0_turvesOn_3 (by decide) ?_
  refine G_istore dX0_turvesOn_4 rfl (L' := [some (.ref lp), some (.int (nI (p))), some (.int 4), some (.int 5), some (.int 0), some (.int 0), none]) rfl ?_
  exact lp_tv4 hΩ hp 5 0 0 _ rfl rfl
theorem c_tvB (hΩ : LV lp ap Ω) {q f : mj_S} {b : Nat} (hb : b < 4) : MC l yX0_turvesOn wsX0_turvesOn rmX0_turvesOn false [.ref lp, .int (nI b), .int 4, .int 5] (Ω (row q f)) (some (.int (s_tvB f b))) (Ω (row q f)) := by
  have e := c_tv4 hΩ (l := l) (q := q) (f := f) hb
  have e2 : itr (fun i a => a + s_tv f (4 * i + b)) 5 0 0 = s_tvB f b := itr_congr _ _ _ (fun k _ _ x => by rw [Nat.add_comm])
  rwa [e2] at e
theorem c_tvH (hΩ : LV lp ap Ω) {q f : mj_S} {h : Nat} (hh : h < 5) : MC l yX0_turvesOn wsX0_turvesOn rmX0_turvesOn false [.ref lp, .int (nI (4 * h)), .int 1, .int 4] (Ω (row q f)) (some (.int (s_tvH f h))) (Ω (row q f)) := c_tv hΩ (p := 4 * h) (m := 4) (by omega)
theorem c_tv1 (hΩ : LV lp ap Ω) {q f : mj_S} {p : Nat} (hp : p < 20) : MC l yX0_turvesOn wsX0_turvesOn rmX0_turvesOn false [.ref lp, .int (nI p), .int 1, .int 1] (Ω (row q f)) (some (.int (s_tv f p))) (Ω (row q f)) := by
  have e := c_tv hΩ (l := l) (q := q) (f := f) (p := p) (m := 1) (by omega)
  have e2 : itr (fun i a => a + s_tv f (i + p)) 1 0 0 = s_tv f p := by simp [itr]
  rwa [e2] at e
theorem c_tv20 (hΩ : LV lp ap Ω) {q f : mj_S} : MC l yX0_turvesOn wsX0_turvesOn rmX0_turvesOn false [.ref lp, .int 0, .int 1, .int 20] (Ω (row q f)) (some (.int (s_tvA f))) (Ω (row q f)) := c_tv hΩ (p := 0) (m := 20) (by omega)
theorem c_turvesOnBanks (hΩ : LV lp ap Ω) {q f : mj_S} : MC l yX0_turvesOnBanks wsX0_turvesOnBanks rmX0_turvesOnBanks false [.ref lp] (Ω (row q f)) (some (.int (s_tvA f))) (Ω (row q f)) := by
  refine mj_MC (cc := cX0_turvesOnBanks) (nl := 1) (ret := (some .int)) (plainFor_of_name (by decide)) rfl (⟨_, rfl, rfl⟩) (Nat.le_of_ble_eq_true rfl) ?_
  show GG l cX0_turvesOnBanks MX0_turvesOnBanks false (.inl ((some (.int (s_tvA f))), Ω (row q f))) 0 [some (.ref lp)] [] (Ω (row q f)) 0 0
  refine G_aload_n dX0_turvesOnBanks_0 rfl ?_
  refine G_iconst (v := 0) dX0_turvesOnBanks_1 (by decide) ?_
  refine G_iconst (v := 1) dX0_turvesOnBanks_2 (by decide) ?_
  refine G_bipush (v := 20) dX0_turvesOnBanks_3 (by decide) ?_
  refine G_callVi dX0_turvesOnBanks_5 kX0_turvesOnBanks_X0_turvesOn ⟨rfl, rfl⟩ ⟨Nat.zero_le _, Nat.zero_le _⟩ (c_tv20 hΩ) rfl rfl ((hΩ _).1) rfl rfl ?_
  exact G_iret dX0_turvesOnBanks_8 ⟨Nat.zero_le _, Nat.zero_le _⟩ (rfl)
theorem c_shortBy (hΩ : LV lp ap Ω) {q f : mj_S} {h : Nat} (hh : h < 5) : MC l yX0_shortBy wsX0_shortBy rmX0_shortBy false [.ref lp, .int (nI (h))] (Ω (row q f)) (some (.int (s_sh f h))) (Ω (row q f)) := by
  refine mj_MC (cc := cX0_shortBy) (nl := 2) (ret := (some .int)) (plainFor_of_name (by decide)) rfl (⟨_, rfl, rfl⟩) (Nat.le_of_ble_eq_true rfl) ?_
  show GG l cX0_shortBy MX0_shortBy false (.inl ((some (.int (s_sh f h))), Ω (row q f))) 0 [some (.ref lp), some (.int (nI (h)))] [] (Ω (row q f)) 0 0
  refine G_iconst (v := 0) dX0_shortBy_0 (by decide) ?_
  refine G_aload_n dX0_shortBy_1 rfl ?_
  refine G_bipush (v := 10) dX0_shortBy_2 (by decide) ?_
  refine G_iload_n dX0_shortBy_4 rfl ?_
  refine G_iaddN (a := 10) (c := h) (s := 10 + h) dX0_shortBy_5 (by omega) ?_
  refine G_callVi dX0_shortBy_6 kX0_shortBy_X0_at ⟨rfl, rfl⟩ ⟨Nat.zero_le _, Nat.zero_le _⟩ (c_atL hΩ (j := 10 + h) (by omega)) rfl rfl ((hΩ _).1) rfl rfl ?_
  refine G_aload_n dX0_shortBy_9 rfl ?_
  refine G_bipush (v := 15) dX0_shortBy_10 (by decide) ?_
  refine G_iload_n dX0_shortBy_12 rfl ?_
  refine G_iaddN (a := 15) (c := h) (s := 15 + h) dX0_shortBy_13 (by omega) ?_
  refine G_callVi dX0_shortBy_14 kX0_shortBy_X0_at ⟨rfl, rfl⟩ ⟨Nat.zero_le _, Nat.zero_le _⟩ (c_atL hΩ (j := 15 + h) (by omega)) rfl rfl ((hΩ _).1) rfl rfl ?_
  refine G_isub dX0_shortBy_17 ?_
  refine G_max dX0_shortBy_18 kX0_shortBy_Mmax (by decide) ⟨Nat.zero_le _, Nat.zero_le _⟩ (Nat.le_of_ble_eq_true rfl) ?_
  exact G_iret dX0_shortBy_21 ⟨Nat.zero_le _, Nat.zero_le _⟩ (X_i (by rw [mx0_max]; rfl))
theorem c_willBeShortBy (hΩ : LV lp ap Ω) {q f : mj_S} {h : Nat} (hh : h < 5) : MC l yX0_willBeShortBy wsX0_willBeShortBy rmX0_willBeShortBy false [.ref lp, .int (nI (h))] (Ω (row q f)) (some (.int (s_sh2 f h))) (Ω (row q f)) := by
  refine mj_MC (cc := cX0_willBeShortBy) (nl := 2) (ret := (some .int)) (plainFor_of_name (by decide)) rfl (⟨_, rfl, rfl⟩) (Nat.le_of_ble_eq_true rfl) ?_
  show GG l cX0_willBeShortBy MX0_willBeShortBy false (.inl ((some (.int (s_sh2 f h))), Ω (row q f))) 0 [some (.ref lp), some (.int (nI (h)))] [] (Ω (row q f)) 0 0
  refine G_iconst (v := 0) dX0_willBeShortBy_0 (by decide) ?_
  refine G_aload_n dX0_willBeShortBy_1 rfl ?_
  refine G_bipush (v := 10) dX0_willBeShortBy_2 (by decide) ?_
  refine G_iload_n dX0_willBeShortBy_4 rfl ?_
  refine G_iaddN (a := 10) (c := h) (s := 10 + h) dX0_willBeShortBy_5 (by omega) ?_
  refine G_callVi dX0_willBeShortBy_6 kX0_willBeShortBy_X0_at ⟨rfl, rfl⟩ ⟨Nat.zero_le _, Nat.zero_le _⟩ (c_atL hΩ (j := 10 + h) (by omega)) rfl rfl ((hΩ _).1) rfl rfl ?_
  refine G_aload_n dX0_willBeShortBy_9 rfl ?_
  refine G_bipush (v := 15) dX0_willBeShortBy_10 (by decide) ?_
  refine G_iload_n dX0_willBeShortBy_12 rfl ?_
  refine G_iaddN (a := 15) (c := h) (s := 15 + h) dX0_willBeShortBy_13 (by omega) ?_
  refine G_callVi dX0_willBeShortBy_14 kX0_willBeShortBy_X0_at ⟨rfl, rfl⟩ ⟨Nat.zero_le _, Nat.zero_le _⟩ (c_atL hΩ (j := 15 + h) (by omega)) rfl rfl ((hΩ _).1) rfl rfl ?_
  refine G_isub dX0_willBeShortBy_17 ?_
  refine G_aload_n dX0_willBeShortBy_18 rfl ?_
  refine G_iload_n dX0_willBeShortBy_19 rfl ?_
  refine G_iconst (v := 0) dX0_willBeShortBy_20 (by decide) ?_
  refine G_callSi dX0_willBeShortBy_21 kX0_willBeShortBy_X0_plotOf ⟨rfl, rfl⟩ ⟨Nat.zero_le _, Nat.zero_le _⟩ (c_plotOfN (h := h) (b := 0) (s := 4 * h) (by omega)) rfl rfl rfl ?_
  refine G_iconst (v := 1) dX0_willBeShortBy_24 (by decide) ?_
  refine G_iconst (v := 4) dX0_willBeShortBy_25 (by decide) ?_
  refine G_callVi dX0_willBeShortBy_26 kX0_willBeShortBy_X0_turvesOn ⟨rfl, rfl⟩ ⟨Nat.zero_le _, Nat.zero_le _⟩ (c_tvH hΩ (h := h) (by omega)) rfl rfl ((hΩ _).1) rfl rfl ?_
  refine G_isub dX0_willBeShortBy_29 ?_
  refine G_max dX0_willBeShortBy_30 kX0_willBeShortBy_Mmax (by decide) ⟨Nat.zero_le _, Nat.zero_le _⟩ (Nat.le_of_ble_eq_true rfl) ?_
  exact G_iret dX0_willBeShortBy_33 ⟨Nat.zero_le _, Nat.zero_le _⟩ (X_i (by rw [mx0_max]; rfl))
theorem c_willBeShortByTheBook (hΩ : LV lp ap Ω) {q f : mj_S} {h : Nat} (hh : h < 5) : MC l yX0_willBeShortByTheBook wsX0_willBeShortByTheBook rmX0_willBeShortByTheBook false [.ref lp, .int (nI (h))] (Ω (row q f)) (some (.int (s_sh3 f h))) (Ω (row q f)) := by
  refine mj_MC (cc := cX0_willBeShortByTheBook) (nl := 4) (ret := (some .int)) (plainFor_of_name (by decide)) rfl (⟨_, rfl, rfl⟩) (Nat.le_of_ble_eq_true rfl) ?_
  show GG l cX0_willBeShortByTheBook MX0_willBeShortByTheBook false (.inl ((some (.int (s_sh3 f h))), Ω (row q f))) 0 [some (.ref lp), some (.int (nI (h))), none, none] [] (Ω (row q f)) 0 0
  refine G_aload_n dX0_willBeShortByTheBook_0 rfl ?_
  refine G_bipush (v := 20) dX0_willBeShortByTheBook_1 (by decide) ?_
  refine G_iload_n dX0_willBeShortByTheBook_3 rfl ?_
  refine G_iaddN (a := 20) (c := h) (s := 20 + h) dX0_willBeShortByTheBook_4 (by omega) ?_
  refine G_callVi dX0_willBeShortByTheBook_5 kX0_willBeShortByTheBook_X0_at ⟨rfl, rfl⟩ ⟨Nat.zero_le _, Nat.zero_le _⟩ (c_atL hΩ (j := 20 + h) (by omega)) rfl rfl ((hΩ _).1) rfl rfl ?_
  refine G_aload_n dX0_willBeShortByTheBook_8 rfl ?_
  refine G_bipush (v := 25) dX0_willBeShortByTheBook_9 (by decide) ?_
  refine G_iload_n dX0_willBeShortByTheBook_11 rfl ?_
  refine G_iaddN (a := 25) (c := h) (s := 25 + h) dX0_willBeShortByTheBook_12 (by omega) ?_
  refine G_callVi dX0_willBeShortByTheBook_13 kX0_willBeShortByTheBook_X0_at ⟨rfl, rfl⟩ ⟨Nat.zero_le _, Nat.zero_le _⟩ (c_atL hΩ (j := 25 + h) (by omega)) rfl rfl ((hΩ _).1) rfl rfl ?_
  refine G_iadd dX0_willBeShortByTheBook_16 ?_
  refine G_istore_n dX0_willBeShortByTheBook_17 rfl (L' := [some (.ref lp), some (.int (nI (h))), some (.int ((f (20 + h)) + (f (25 + h)))), none]) rfl ?_
  refine G_aload_n dX0_willBeShortByTheBook_18 rfl ?_
  refine G_bipush (v := 30) dX0_willBeShortByTheBook_19 (by decide) ?_
  refine G_iload_n dX0_willBeShortByTheBook_21 rfl ?_
  refine G_iaddN (a := 30) (c := h) (s := 30 + h) dX0_willBeShortByTheBook_22 (by omega) ?_
  refine G_callVi dX0_willBeShortByTheBook_23 kX0_willBeShortByTheBook_X0_at ⟨rfl, rfl⟩ ⟨Nat.zero_le _, Nat.zero_le _⟩ (c_atL hΩ (j := 30 + h) (by omega)) rfl rfl ((hΩ _).1) rfl rfl ?_
  refine G_aload_n dX0_willBeShortByTheBook_26 rfl ?_
  refine G_bipush (v := 35) dX0_willBeShortByTheBook_27 (by decide) ?_
  refine G_iload_n dX0_willBeShortByTheBook_29 rfl ?_
  refine G_iaddN (a := 35) (c := h) (s := 35 + h) dX0_willBeShortByTheBook_30 (by omega) ?_
  refine G_callVi dX0_willBeShortByTheBook_31 kX0_willBeShortByTheBook_X0_at ⟨rfl, rfl⟩ ⟨Nat.zero_le _, Nat.zero_le _⟩ (c_atL hΩ (j := 35 + h) (by omega)) rfl rfl ((hΩ _).1) rfl rfl ?_
  refine G_iadd dX0_willBeShortByTheBook_34 ?_
  refine G_istore_n dX0_willBeShortByTheBook_35 rfl (L' := [some (.ref lp), some (.int (nI (h))), some (.int ((f (20 + h)) + (f (25 + h)))), some (.int ((f (30 + h)) + (f (35 + h))))]) rfl ?_
  refine G_iconst (v := 0) dX0_willBeShortByTheBook_36 (by decide) ?_
  refine G_aload_n dX0_willBeShortByTheBook_37 rfl ?_
  refine G_bipush (v := 10) dX0_willBeShortByTheBook_38 (by decide) ?_
  refine G_iload_n dX0_willBeShortByTheBook_40 rfl ?_
  refine G_iaddN (a := 10) (c := h) (s := 10 + h) dX0_willBeShortByTheBook_41 (by omega) ?_
  refine G_callVi dX0_willBeShortByTheBook_42 kX0_willBeShortByTheBook_X0_at ⟨rfl, rfl⟩ ⟨Nat.zero_le _, Nat.zero_le _⟩ (c_atL hΩ (j := 10 + h) (by omega)) rfl rfl ((hΩ _).1) rfl rfl ?_
  refine G_iload_n dX0_willBeShortByTheBook_45 rfl ?_
  refine G_iload_n dX0_willBeShortByTheBook_46 rfl ?_
  refine G_isub dX0_willBeShortByTheBook_47 ?_
  refine G_isub dX0_willBeShortByTheBook_48 ?_
  refine G_max dX0_willBeShortByTheBook_49 kX0_willBeShortByTheBook_Mmax (by decide) ⟨Nat.zero_le _, Nat.zero_le _⟩ (Nat.le_of_ble_eq_true rfl) ?_
  exact G_iret dX0_willBeShortByTheBook_52 ⟨Nat.zero_le _, Nat.zero_le _⟩ (X_i (by rw [mx0_max, s_sh3]; congr 2; grind))
theorem lp_hearthsShort (hΩ : LV lp ap Ω) {q f : mj_S} {res : Int32} : ∀ (d c : Nat) (x : Int32), c + d = 5 → res = itr (fun h a => if 0 < s_sh f h then a + 1 else a) d c x → GG l cX0_hearthsShort MX0_hearthsShort false (.inl (some (.int res), Ω (row q f))) 4 [some (.ref lp), some (.int x), some (.int (nI (c)))] [] (Ω (row q f)) 0 0
  | 0, c, x, hc, hr => by
    refine G_iload_n dX0_hearthsShort_4 rfl ?_
    refine G_iconst (v := 5) dX0_hearthsShort_5 (by decide) ?_
    refine G_icmp_geN (a := c) (c := 5) 31 dX0_hearthsShort_6 (by decide) (by omega) (fun c6 => ?_) (fun c6 => ?_)
    · refine G_iload_n dX0_hearthsShort_31 rfl ?_
      exact G_iret dX0_hearthsShort_32 ⟨Nat.zero_le _, Nat.zero_le _⟩ (by rw [hr, itr_0])
    · exact (show False by omega).elim
  | d + 1, c, x, hc, hr => by
    refine G_iload_n dX0_hearthsShort_4 rfl ?_
    refine G_iconst (v := 5) dX0_hearthsShort_5 (by decide) ?_
    refine G_icmp_geN (a := c) (c := 5) 31 dX0_hearthsShort_6 (by decide) (by omega) (fun c6 => ?_) (fun c6 => ?_)
    · exact (show False by omega).elim
    · refine G_iload_n dX0_hearthsShort_9 rfl ?_
      refine G_aload_n dX0_hearthsShort_10 rfl ?_
      refine G_iload_n dX0_hearthsShort_11 rfl ?_
      refine G_callVi dX0_hearthsShort_12 kX0_hearthsShort_X0_shortBy ⟨rfl, rfl⟩ ⟨Nat.zero_le _, Nat.zero_le _⟩ (c_shortBy hΩ (h := c) (by omega)) rfl rfl ((hΩ _).1) rfl rfl ?_
      refine G_if_le 22 dX0_hearthsShort_15 (by decide) (fun c15 => ?_) (fun c15 => ?_)
      · refine G_iconst (v := 0) dX0_hearthsShort_22 (by decide) ?_
        refine G_iadd dX0_hearthsShort_23 ?_
        refine G_istore_n dX0_hearthsShort_24 rfl (L' := [some (.ref lp), some (.int (x + 0)), some (.int (nI (c)))]) rfl ?_
        refine G_iincN (a := c) (s := c + 1) dX0_hearthsShort_25 rfl (by omega) (L' := [some (.ref lp), some (.int (x + 0)), some (.int (nI (c + 1)))]) rfl ?_
        refine G_goto 4 dX0_hearthsShort_28 (by decide) ?_
        exact lp_hearthsShort hΩ d (c + 1) (x + 0) (by omega) (by rw [hr, itr_s]; congr 1; simp [Int32.not_lt.mpr c15])
      · refine G_iconst (v := 1) dX0_hearthsShort_18 (by decide) ?_
        refine G_goto 23 dX0_hearthsShort_19 (by decide) ?_
        refine G_iadd dX0_hearthsShort_23 ?_
        refine G_istore_n dX0_hearthsShort_24 rfl (L' := [some (.ref lp), some (.int (x + 1)), some (.int (nI (c)))]) rfl ?_
        refine G_iincN (a := c) (s := c + 1) dX0_hearthsShort_25 rfl (by omega) (L' := [some (.ref lp), some (.int (x + 1)), some (.int (nI (c + 1)))]) rfl ?_
        refine G_goto 4 dX0_hearthsShort_28 (by decide) ?_
        exact lp_hearthsShort hΩ d (c + 1) (x + 1) (by omega) (by rw [hr, itr_s]; congr 1; simp [Int32.not_le.mp c15])
theorem c_hearthsShort (hΩ : LV lp ap Ω) {q f : mj_S} : MC l yX0_hearthsShort wsX0_hearthsShort rmX0_hearthsShort false [.ref lp] (Ω (row q f)) (some (.int (s_shs f))) (Ω (row q f)) := by
  refine mj_MC (cc := cX0_hearthsShort) (nl := 3) (ret := (some .int)) (plainFor_of_name (by decide)) rfl (⟨_, rfl, rfl⟩) (Nat.le_of_ble_eq_true rfl) ?_
  show GG l cX0_hearthsShort MX0_hearthsShort false (.inl ((some (.int (s_shs f))), Ω (row q f))) 0 [some (.ref lp), none, none] [] (Ω (row q f)) 0 0
  refine G_iconst (v := 0) dX0_hearthsShort_0 (by decide) ?_
  refine G_istore_n dX0_hearthsShort_1 rfl (L' := [some (.ref lp), some (.int 0), none]) rfl ?_
  refine G_iconst (v := 0) dX0_hearthsShort_2 (by decide) ?_
  refine G_istore_n dX0_hearthsShort_3 rfl (L' := [some (.ref lp), some (.int 0), some (.int 0)]) rfl ?_
  exact lp_hearthsShort hΩ 5 0 0 rfl rfl
theorem lp_hearthsThatWillBeShort (hΩ : LV lp ap Ω) {q f : mj_S} {res : Int32} : ∀ (d c : Nat) (x : Int32), c + d = 5 → res = itr (fun h a => if 0 < s_sh2 f h then a + 1 else a) d c x → GG l cX0_hearthsThatWillBeShort MX0_hearthsThatWillBeShort false (.inl (some (.int res), Ω (row q f))) 4 [some (.ref lp), some (.int x), some (.int (nI (c)))] [] (Ω (row q f)) 0 0
  | 0, c, x, hc, hr => by
    refine G_iload_n dX0_hearthsThatWillBeShort_4 rfl ?_
    refine G_iconst (v := 5) dX0_hearthsThatWillBeShort_5 (by decide) ?_
    refine G_icmp_geN (a := c) (c := 5) 31 dX0_hearthsThatWillBeShort_6 (by decide) (by omega) (fun c6 => ?_) (fun c6 => ?_)
    · refine G_iload_n dX0_hearthsThatWillBeShort_31 rfl ?_
      exact G_iret dX0_hearthsThatWillBeShort_32 ⟨Nat.zero_le _, Nat.zero_le _⟩ (by rw [hr, itr_0])
    · exact (show False by omega).elim
  | d + 1, c, x, hc, hr => by
    refine G_iload_n dX0_hearthsThatWillBeShort_4 rfl ?_
    refine G_iconst (v := 5) dX0_hearthsThatWillBeShort_5 (by decide) ?_
    refine G_icmp_geN (a := c) (c := 5) 31 dX0_hearthsThatWillBeShort_6 (by decide) (by omega) (fun c6 => ?_) (fun c6 => ?_)
    · exact (show False by omega).elim
    · refine G_iload_n dX0_hearthsThatWillBeShort_9 rfl ?_
      refine G_aload_n dX0_hearthsThatWillBeShort_10 rfl ?_
      refine G_iload_n dX0_hearthsThatWillBeShort_11 rfl ?_
      refine G_callVi dX0_hearthsThatWillBeShort_12 kX0_hearthsThatWillBeShort_X0_willBeShortBy ⟨rfl, rfl⟩ ⟨Nat.zero_le _, Nat.zero_le _⟩ (c_willBeShortBy hΩ (h := c) (by omega)) rfl rfl ((hΩ _).1) rfl rfl ?_
      refine G_if_le 22 dX0_hearthsThatWillBeShort_15 (by decide) (fun c15 => ?_) (fun c15 => ?_)
      · refine G_iconst (v := 0) dX0_hearthsThatWillBeShort_22 (by decide) ?_
        refine G_iadd dX0_hearthsThatWillBeShort_23 ?_
        refine G_istore_n dX0_hearthsThatWillBeShort_24 rfl (L' := [some (.ref lp), some (.int (x + 0)), some (.int (nI (c)))]) rfl ?_
        refine G_iincN (a := c) (s := c + 1) dX0_hearthsThatWillBeShort_25 rfl (by omega) (L' := [some (.ref lp), some (.int (x + 0)), some (.int (nI (c + 1)))]) rfl ?_
        refine G_goto 4 dX0_hearthsThatWillBeShort_28 (by decide) ?_
        exact lp_hearthsThatWillBeShort hΩ d (c + 1) (x + 0) (by omega) (by rw [hr, itr_s]; congr 1; simp [Int32.not_lt.mpr c15])
      · refine G_iconst (v := 1) dX0_hearthsThatWillBeShort_18 (by decide) ?_
        refine G_goto 23 dX0_hearthsThatWillBeShort_19 (by decide) ?_
        refine G_iadd dX0_hearthsThatWillBeShort_23 ?_
        refine G_istore_n dX0_hearthsThatWillBeShort_24 rfl (L' := [some (.ref lp), some (.int (x + 1)), some (.int (nI (c)))]) rfl ?_
        refine G_iincN (a := c) (s := c + 1) dX0_hearthsThatWillBeShort_25 rfl (by omega) (L' := [some (.ref lp), some (.int (x + 1)), some (.int (nI (c + 1)))]) rfl ?_
        refine G_goto 4 dX0_hearthsThatWillBeShort_28 (by decide) ?_
        exact lp_hearthsThatWillBeShort hΩ d (c + 1) (x + 1) (by omega) (by rw [hr, itr_s]; congr 1; simp [Int32.not_le.mp c15])
theorem c_hearthsThatWillBeShort (hΩ : LV lp ap Ω) {q f : mj_S} : MC l yX0_hearthsThatWillBeShort wsX0_hearthsThatWillBeShort rmX0_hearthsThatWillBeShort false [.ref lp] (Ω (row q f)) (some (.int (s_shs2 f))) (Ω (row q f)) := by
  refine mj_MC (cc := cX0_hearthsThatWillBeShort) (nl := 3) (ret := (some .int)) (plainFor_of_name (by decide)) rfl (⟨_, rfl, rfl⟩) (Nat.le_of_ble_eq_true rfl) ?_
  show GG l cX0_hearthsThatWillBeShort MX0_hearthsThatWillBeShort false (.inl ((some (.int (s_shs2 f))), Ω (row q f))) 0 [some (.ref lp), none, none] [] (Ω (row q f)) 0 0
  refine G_iconst (v := 0) dX0_hearthsThatWillBeShort_0 (by decide) ?_
  refine G_istore_n dX0_hearthsThatWillBeShort_1 rfl (L' := [some (.ref lp), some (.int 0), none]) rfl ?_
  refine G_iconst (v := 0) dX0_hearthsThatWillBeShort_2 (by decide) ?_
  refine G_istore_n dX0_hearthsThatWillBeShort_3 rfl (L' := [some (.ref lp), some (.int 0), some (.int 0)]) rfl ?_
  exact lp_hearthsThatWillBeShort hΩ 5 0 0 rfl rfl
theorem c_wetAgain (hΩ : LV lp ap Ω) {q f : mj_S} {p : Nat} (hp : p < 20) : MC l yX0_wetAgain wsX0_wetAgain rmX0_wetAgain false [.ref lp, .int (nI (p))] (Ω (row q f)) none (Ω (row q (s_soak p f))) := by
  refine mj_MC (cc := cX0_wetAgain) (nl := 4) (ret := none) (plainFor_of_name (by decide)) rfl (rfl) (Nat.le_of_ble_eq_true rfl) ?_
  show GG l cX0_wetAgain MX0_wetAgain false (.inl (none, Ω (row q (s_soak p f)))) 0 [some (.ref lp), some (.int (nI (p))), none, none] [] (Ω (row q f)) 0 0
  refine G_aload_n dX0_wetAgain_0 rfl ?_
  refine G_bipush (v := 97) dX0_wetAgain_1 (by decide) ?_
  refine G_iload_n dX0_wetAgain_3 rfl ?_
  refine G_iaddN (a := 97) (c := p) (s := 97 + p) dX0_wetAgain_4 (by omega) ?_
  refine G_callVi dX0_wetAgain_5 kX0_wetAgain_X0_at ⟨rfl, rfl⟩ ⟨Nat.zero_le _, Nat.zero_le _⟩ (c_atH hΩ (j := 97 + p) (j' := 93 + p) (by omega) (by omega)) rfl rfl ((hΩ _).1) rfl rfl ?_
  refine G_callSi dX0_wetAgain_8 kX0_wetAgain_X0_halfRoundedUp ⟨rfl, rfl⟩ ⟨Nat.zero_le _, Nat.zero_le _⟩ (c_half) rfl rfl rfl ?_
  refine G_istore_n dX0_wetAgain_11 rfl (L' := [some (.ref lp), some (.int (nI (p))), some (.int (((f (93 + p)) + 1) / 2)), none]) rfl ?_
  refine G_aload_n dX0_wetAgain_12 rfl ?_
  refine G_bipush (v := 117) dX0_wetAgain_13 (by decide) ?_
  refine G_iload_n dX0_wetAgain_15 rfl ?_
  refine G_iaddN (a := 117) (c := p) (s := 117 + p) dX0_wetAgain_16 (by omega) ?_
  refine G_callVi dX0_wetAgain_17 kX0_wetAgain_X0_at ⟨rfl, rfl⟩ ⟨Nat.zero_le _, Nat.zero_le _⟩ (c_atH hΩ (j := 117 + p) (j' := 113 + p) (by omega) (by omega)) rfl rfl ((hΩ _).1) rfl rfl ?_
  refine G_callSi dX0_wetAgain_20 kX0_wetAgain_X0_halfRoundedUp ⟨rfl, rfl⟩ ⟨Nat.zero_le _, Nat.zero_le _⟩ (c_half) rfl rfl rfl ?_
  refine G_istore_n dX0_wetAgain_23 rfl (L' := [some (.ref lp), some (.int (nI (p))), some (.int (((f (93 + p)) + 1) / 2)), some (.int (((f (113 + p)) + 1) / 2))]) rfl ?_
  refine G_aload_n dX0_wetAgain_24 rfl ?_
  refine G_bipush (v := 97) dX0_wetAgain_25 (by decide) ?_
  refine G_iload_n dX0_wetAgain_27 rfl ?_
  refine G_iaddN (a := 97) (c := p) (s := 97 + p) dX0_wetAgain_28 (by omega) ?_
  refine G_iload_n dX0_wetAgain_29 rfl ?_
  refine G_ineg dX0_wetAgain_30 ?_
  obtain ⟨f1, ef1⟩ : ∃ z : mj_S, z = upd f (93 + p) (f (93 + p) + (-(((f (93 + p)) + 1) / 2))) := ⟨_, rfl⟩
  refine G_callVv dX0_wetAgain_31 kX0_wetAgain_X0_add ⟨rfl, rfl⟩ ⟨Nat.zero_le _, Nat.zero_le _⟩ (c_addH hΩ (j := 97 + p) (j' := 93 + p) (by omega) (by omega) ef1) rfl rfl ((hΩ _).1) rfl rfl ?_
  refine G_aload_n dX0_wetAgain_34 rfl ?_
  refine G_bipush (v := 117) dX0_wetAgain_35 (by decide) ?_
  refine G_iload_n dX0_wetAgain_37 rfl ?_
  refine G_iaddN (a := 117) (c := p) (s := 117 + p) dX0_wetAgain_38 (by omega) ?_
  refine G_iload_n dX0_wetAgain_39 rfl ?_
  refine G_ineg dX0_wetAgain_40 ?_
  obtain ⟨f2, ef2⟩ : ∃ z : mj_S, z = upd f1 (113 + p) (f1 (113 + p) + (-(((f (113 + p)) + 1) / 2))) := ⟨_, rfl⟩
  refine G_callVv dX0_wetAgain_41 kX0_wetAgain_X0_add ⟨rfl, rfl⟩ ⟨Nat.zero_le _, Nat.zero_le _⟩ (c_addH hΩ (j := 117 + p) (j' := 113 + p) (by omega) (by omega) ef2) rfl rfl ((hΩ _).1) rfl rfl ?_
  refine G_aload_n dX0_wetAgain_44 rfl ?_
  refine G_bipush (v := 77) dX0_wetAgain_45 (by decide) ?_
  refine G_iload_n dX0_wetAgain_47 rfl ?_
  refine G_iaddN (a := 77) (c := p) (s := 77 + p) dX0_wetAgain_48 (by omega) ?_
  refine G_iload_n dX0_wetAgain_49 rfl ?_
  refine G_iload_n dX0_wetAgain_50 rfl ?_
  refine G_iadd dX0_wetAgain_51 ?_
  obtain ⟨f3, ef3⟩ : ∃ z : mj_S, z = upd f2 (73 + p) (f2 (73 + p) + ((((f (93 + p)) + 1) / 2) + (((f (113 + p)) + 1) / 2))) := ⟨_, rfl⟩
  refine G_callVv dX0_wetAgain_52 kX0_wetAgain_X0_add ⟨rfl, rfl⟩ ⟨Nat.zero_le _, Nat.zero_le _⟩ (c_addH hΩ (j := 77 + p) (j' := 73 + p) (by omega) (by omega) ef3) rfl rfl ((hΩ _).1) rfl rfl ?_
  exact G_vret dX0_wetAgain_55 ⟨Nat.zero_le _, Nat.zero_le _⟩ (X_w (by congr 2; subst ef3; subst ef2; subst ef1; rw [s_soak]; funext k; simp only [upd]; split <;> (try split) <;> (try split) <;> simp_all <;> grind))
theorem c_dryOut (hΩ : LV lp ap Ω) {q f : mj_S} {p : Nat} (hp : p < 20) : MC l yX0_dryOut wsX0_dryOut rmX0_dryOut false [.ref lp, .int (nI (p))] (Ω (row q f)) none (Ω (row q (s_dry p f))) := by
  refine mj_MC (cc := cX0_dryOut) (nl := 5) (ret := none) (plainFor_of_name (by decide)) rfl (rfl) (Nat.le_of_ble_eq_true rfl) ?_
  show GG l cX0_dryOut MX0_dryOut false (.inl (none, Ω (row q (s_dry p f)))) 0 [some (.ref lp), some (.int (nI (p))), none, none, none] [] (Ω (row q f)) 0 0
  refine G_aload_n dX0_dryOut_0 rfl ?_
  refine G_bipush (v := 97) dX0_dryOut_1 (by decide) ?_
  refine G_iload_n dX0_dryOut_3 rfl ?_
  refine G_iaddN (a := 97) (c := p) (s := 97 + p) dX0_dryOut_4 (by omega) ?_
  refine G_callVi dX0_dryOut_5 kX0_dryOut_X0_at ⟨rfl, rfl⟩ ⟨Nat.zero_le _, Nat.zero_le _⟩ (c_atH hΩ (j := 97 + p) (j' := 93 + p) (by omega) (by omega)) rfl rfl ((hΩ _).1) rfl rfl ?_
  refine G_istore_n dX0_dryOut_8 rfl (L' := [some (.ref lp), some (.int (nI (p))), some (.int (f (93 + p))), none, none]) rfl ?_
  refine G_iload_n dX0_dryOut_9 rfl ?_
  refine G_iconst (v := 3) dX0_dryOut_10 (by decide) ?_
  refine G_idiv dX0_dryOut_11 (by decide) ?_
  refine G_iconst (v := 1) dX0_dryOut_12 (by decide) ?_
  refine G_iadd dX0_dryOut_13 ?_
  refine G_iload_n dX0_dryOut_14 rfl ?_
  refine G_min dX0_dryOut_15 kX0_dryOut_Mmin (by decide) ⟨Nat.zero_le _, Nat.zero_le _⟩ (Nat.le_of_ble_eq_true rfl) ?_
  refine G_istore_n dX0_dryOut_18 rfl (L' := [some (.ref lp), some (.int (nI (p))), some (.int (f (93 + p))), some (.int (mn (((f (93 + p)) / 3) + 1) (f (93 + p)))), none]) rfl ?_
  refine G_aload_n dX0_dryOut_19 rfl ?_
  refine G_bipush (v := 77) dX0_dryOut_20 (by decide) ?_
  refine G_iload_n dX0_dryOut_22 rfl ?_
  refine G_iaddN (a := 77) (c := p) (s := 77 + p) dX0_dryOut_23 (by omega) ?_
  refine G_callVi dX0_dryOut_24 kX0_dryOut_X0_at ⟨rfl, rfl⟩ ⟨Nat.zero_le _, Nat.zero_le _⟩ (c_atH hΩ (j := 77 + p) (j' := 73 + p) (by omega) (by omega)) rfl rfl ((hΩ _).1) rfl rfl ?_
  refine G_callSi dX0_dryOut_27 kX0_dryOut_X0_halfRoundedUp ⟨rfl, rfl⟩ ⟨Nat.zero_le _, Nat.zero_le _⟩ (c_half) rfl rfl rfl ?_
  refine G_istore dX0_dryOut_30 rfl (L' := [some (.ref lp), some (.int (nI (p))), some (.int (f (93 + p))), some (.int (mn (((f (93 + p)) / 3) + 1) (f (93 + p)))), some (.int (((f (73 + p)) + 1) / 2))]) rfl ?_
  refine G_aload_n dX0_dryOut_32 rfl ?_
  refine G_bipush (v := 77) dX0_dryOut_33 (by decide) ?_
  refine G_iload_n dX0_dryOut_35 rfl ?_
  refine G_iaddN (a := 77) (c := p) (s := 77 + p) dX0_dryOut_36 (by omega) ?_
  refine G_iload dX0_dryOut_37 rfl ?_
  refine G_ineg dX0_dryOut_39 ?_
  obtain ⟨f1, ef1⟩ : ∃ z : mj_S, z = upd f (73 + p) (f (73 + p) + (-(((f (73 + p)) + 1) / 2))) := ⟨_, rfl⟩
  refine G_callVv dX0_dryOut_40 kX0_dryOut_X0_add ⟨rfl, rfl⟩ ⟨Nat.zero_le _, Nat.zero_le _⟩ (c_addH hΩ (j := 77 + p) (j' := 73 + p) (by omega) (by omega) ef1) rfl rfl ((hΩ _).1) rfl rfl ?_
  refine G_aload_n dX0_dryOut_43 rfl ?_
  refine G_bipush (v := 97) dX0_dryOut_44 (by decide) ?_
  refine G_iload_n dX0_dryOut_46 rfl ?_
  refine G_iaddN (a := 97) (c := p) (s := 97 + p) dX0_dryOut_47 (by omega) ?_
  refine G_iload dX0_dryOut_48 rfl ?_
  refine G_iload_n dX0_dryOut_50 rfl ?_
  refine G_isub dX0_dryOut_51 ?_
  obtain ⟨f2, ef2⟩ : ∃ z : mj_S, z = upd f1 (93 + p) (f1 (93 + p) + ((((f (73 + p)) + 1) / 2) - (mn (((f (93 + p)) / 3) + 1) (f (93 + p))))) := ⟨_, rfl⟩
  refine G_callVv dX0_dryOut_52 kX0_dryOut_X0_add ⟨rfl, rfl⟩ ⟨Nat.zero_le _, Nat.zero_le _⟩ (c_addH hΩ (j := 97 + p) (j' := 93 + p) (by omega) (by omega) ef2) rfl rfl ((hΩ _).1) rfl rfl ?_
  refine G_aload_n dX0_dryOut_55 rfl ?_
  refine G_bipush (v := 117) dX0_dryOut_56 (by decide) ?_
  refine G_iload_n dX0_dryOut_58 rfl ?_
  refine G_iaddN (a := 117) (c := p) (s := 117 + p) dX0_dryOut_59 (by omega) ?_
  refine G_iload_n dX0_dryOut_60 rfl ?_
  obtain ⟨f3, ef3⟩ : ∃ z : mj_S, z = upd f2 (113 + p) (f2 (113 + p) + (mn (((f (93 + p)) / 3) + 1) (f (93 + p)))) := ⟨_, rfl⟩
  refine G_callVv dX0_dryOut_61 kX0_dryOut_X0_add ⟨rfl, rfl⟩ ⟨Nat.zero_le _, Nat.zero_le _⟩ (c_addH hΩ (j := 117 + p) (j' := 113 + p) (by omega) (by omega) ef3) rfl rfl ((hΩ _).1) rfl rfl ?_
  exact G_vret dX0_dryOut_64 ⟨Nat.zero_le _, Nat.zero_le _⟩ (X_w (by congr 2; subst ef3; subst ef2; subst ef1; rw [s_dry]; funext k; simp only [upd]; split <;> (try split) <;> (try split) <;> simp_all <;> grind))
theorem lp_burn (hΩ : LV lp ap Ω) {q res : mj_S} : ∀ (d c : Nat) (f : mj_S) (y1 y2 : Option Value), c + d = 5 → res = itr s_burn1 d c f → GG l cX0_burn MX0_burn false (.inl (none, Ω (row q res))) 2 [some (.ref lp), some (.int (nI (c))), y1, y2] [] (Ω (row q f)) 0 0
  | 0, c, f, y1, y2, hc, hr => by
    refine G_iload_n dX0_burn_2 rfl ?_
    refine G_iconst (v := 5) dX0_burn_3 (by decide) ?_
    refine G_icmp_geN (a := c) (c := 5) 62 dX0_burn_4 (by decide) (by omega) (fun c4 => ?_) (fun c4 => ?_)
    · exact G_vret dX0_burn_62 ⟨Nat.zero_le _, Nat.zero_le _⟩ (by rw [hr, itr_0])
    · exact (show False by omega).elim
  | d + 1, c, f, y1, y2, hc, hr => by
    refine G_iload_n dX0_burn_2 rfl ?_
    refine G_iconst (v := 5) dX0_burn_3 (by decide) ?_
    refine G_icmp_geN (a := c) (c := 5) 62 dX0_burn_4 (by decide) (by omega) (fun c4 => ?_) (fun c4 => ?_)
    · exact (show False by omega).elim
    · refine G_aload_n dX0_burn_7 rfl ?_
      refine G_iconst (v := 4) dX0_burn_8 (by decide) ?_
      refine G_callVi dX0_burn_9 kX0_burn_X0_at ⟨rfl, rfl⟩ ⟨Nat.zero_le _, Nat.zero_le _⟩ (c_atL hΩ (j := 4) (by omega)) rfl rfl ((hΩ _).1) rfl rfl ?_
      refine G_istore_n dX0_burn_12 rfl (L' := [some (.ref lp), some (.int (nI (c))), some (.int (f (4))), y2]) rfl ?_
      refine G_iload_n dX0_burn_13 rfl ?_
      refine G_aload_n dX0_burn_14 rfl ?_
      refine G_bipush (v := 15) dX0_burn_15 (by decide) ?_
      refine G_iload_n dX0_burn_17 rfl ?_
      refine G_iaddN (a := 15) (c := c) (s := 15 + c) dX0_burn_18 (by omega) ?_
      refine G_callVi dX0_burn_19 kX0_burn_X0_at ⟨rfl, rfl⟩ ⟨Nat.zero_le _, Nat.zero_le _⟩ (c_atL hΩ (j := 15 + c) (by omega)) rfl rfl ((hΩ _).1) rfl rfl ?_
      refine G_min dX0_burn_22 kX0_burn_Mmin (by decide) ⟨Nat.zero_le _, Nat.zero_le _⟩ (Nat.le_of_ble_eq_true rfl) ?_
      refine G_istore_n dX0_burn_25 rfl (L' := [some (.ref lp), some (.int (nI (c))), some (.int (f (4))), some (.int (mn (f (4)) (f (15 + c))))]) rfl ?_
      refine G_aload_n dX0_burn_26 rfl ?_
      refine G_bipush (v := 15) dX0_burn_27 (by decide) ?_
      refine G_iload_n dX0_burn_29 rfl ?_
      refine G_iaddN (a := 15) (c := c) (s := 15 + c) dX0_burn_30 (by omega) ?_
      refine G_iload_n dX0_burn_31 rfl ?_
      refine G_ineg dX0_burn_32 ?_
      obtain ⟨f1, ef1⟩ : ∃ z : mj_S, z = upd f (15 + c) (f (15 + c) + (-(mn (f (4)) (f (15 + c))))) := ⟨_, rfl⟩
      refine G_callVv dX0_burn_33 kX0_burn_X0_add ⟨rfl, rfl⟩ ⟨Nat.zero_le _, Nat.zero_le _⟩ (c_addL hΩ (j := 15 + c) (by omega) ef1) rfl rfl ((hΩ _).1) rfl rfl ?_
      refine G_aload_n dX0_burn_36 rfl ?_
      refine G_bipush (v := 35) dX0_burn_37 (by decide) ?_
      refine G_iload_n dX0_burn_39 rfl ?_
      refine G_iaddN (a := 35) (c := c) (s := 35 + c) dX0_burn_40 (by omega) ?_
      refine G_iload_n dX0_burn_41 rfl ?_
      obtain ⟨f2, ef2⟩ : ∃ z : mj_S, z = upd f1 (35 + c) (f1 (35 + c) + (mn (f (4)) (f (15 + c)))) := ⟨_, rfl⟩
      refine G_callVv dX0_burn_42 kX0_burn_X0_add ⟨rfl, rfl⟩ ⟨Nat.zero_le _, Nat.zero_le _⟩ (c_addL hΩ (j := 35 + c) (by omega) ef2) rfl rfl ((hΩ _).1) rfl rfl ?_
      refine G_aload_n dX0_burn_45 rfl ?_
      refine G_bipush (v := 40) dX0_burn_46 (by decide) ?_
      refine G_iload_n dX0_burn_48 rfl ?_
      refine G_iaddN (a := 40) (c := c) (s := 40 + c) dX0_burn_49 (by omega) ?_
      refine G_iload_n dX0_burn_50 rfl ?_
      refine G_iload_n dX0_burn_51 rfl ?_
      refine G_isub dX0_burn_52 ?_
      obtain ⟨f3, ef3⟩ : ∃ z : mj_S, z = upd f2 (40 + c) (f2 (40 + c) + ((f (4)) - (mn (f (4)) (f (15 + c))))) := ⟨_, rfl⟩
      refine G_callVv dX0_burn_53 kX0_burn_X0_add ⟨rfl, rfl⟩ ⟨Nat.zero_le _, Nat.zero_le _⟩ (c_addL hΩ (j := 40 + c) (by omega) ef3) rfl rfl ((hΩ _).1) rfl rfl ?_
      refine G_iincN (a := c) (s := c + 1) dX0_burn_56 rfl (by omega) (L' := [some (.ref lp), some (.int (nI (c + 1))), some (.int (f (4))), some (.int (mn (f (4)) (f (15 + c))))]) rfl ?_
      refine G_goto 2 dX0_burn_59 (by decide) ?_
      exact lp_burn hΩ d (c + 1) f3 _ _ (by omega) (by rw [hr, itr_s]; congr 1; subst ef3; subst ef2; subst ef1; simp only [s_burn1, Int32.sub_eq_add_neg])
theorem c_burn (hΩ : LV lp ap Ω) {q f : mj_S} : MC l yX0_burn wsX0_burn rmX0_burn false [.ref lp] (Ω (row q f)) none (Ω (row q (s_burn f))) := by
  refine mj_MC (cc := cX0_burn) (nl := 4) (ret := none) (plainFor_of_name (by decide)) rfl (rfl) (Nat.le_of_ble_eq_true rfl) ?_
  show GG l cX0_burn MX0_burn false (.inl (none, Ω (row q (s_burn f)))) 0 [some (.ref lp), none, none, none] [] (Ω (row q f)) 0 0
  refine G_iconst (v := 0) dX0_burn_0 (by decide) ?_
  refine G_istore_n dX0_burn_1 rfl (L' := [some (.ref lp), some (.int 0), none, none]) rfl ?_
  exact lp_burn hΩ 5 0 _ _ _ rfl rfl
end LB

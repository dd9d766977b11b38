/-! THE CLASS: its view; calls that go well -/
abbrev CT : Type := mj_S → mj_S → mj_S → Nat → Nat → mj_S → Nat → Nat → mj_S → Nat → mj_W
def CV (xp lp ap tp up hp rp kp sp yp zp : Nat) (Ω : CT) : Prop :=
  (∀ r rt R T m R1 T1 m1 g n, (Ω r rt R T m R1 T1 m1 g n)[xp]? = some (.inr (3, [.ref lp, .ref tp, .ref hp, .ref kp, .ref yp]))) ∧
  (∀ rt R1 T1 m1 g n, SV hp rp lp ap 6 (fun r R T m => Ω r rt R T m R1 T1 m1 g n)) ∧
  (∀ rt R T m g n, SV kp sp lp ap 1 (fun r R1 T1 m1 => Ω r rt R T m R1 T1 m1 g n)) ∧
  (∀ r R T m R1 T1 m1 g n, LV tp up (fun rt => Ω r rt R T m R1 T1 m1 g n)) ∧
  (∀ r rt R T m R1 T1 m1, TV yp zp (fun g n => Ω r rt R T m R1 T1 m1 g n))
theorem CV.ll {xp lp ap tp up hp rp kp sp yp zp : Nat} {Ω : CT} (h : CV xp lp ap tp up hp rp kp sp yp zp Ω) (R : mj_S) (T m : Nat) (R1 : mj_S) (T1 m1 : Nat) (g : mj_S) (n : Nat) : LL tp up lp ap (fun rt r => Ω r rt R T m R1 T1 m1 g n) := ⟨fun r => h.2.2.2.1 r R T m R1 T1 m1 g n, fun rt => (h.2.1 rt R1 T1 m1 g n).lv R T m⟩
/-- where the next state is kept, and how many are then -/
def nxT (T : Nat) : Nat := if T + 1 < 6 then T + 1 else 0
def nxM (m : Nat) : Nat := if 6 < m + 1 then 6 else m + 1
theorem i2c_n : ∀ v, v < 127 → ((nI v : Int32).toUInt32 % 65536).toInt32 = nI v := by decide +kernel
section XA
variable {l : Launch} {xp lp ap tp up hp rp kp sp yp zp : Nat} {Ω : CT}
theorem c_reqArgument {w : mj_W} : MC l yX3_requireArgument wsX3_requireArgument rmX3_requireArgument false [.int 1] (w) none (w) := by
  refine mj_MC (cc := cX3_requireArgument) (nl := 1) (ret := none) (plainFor_of_name (by decide)) rfl (rfl) (Nat.le_of_ble_eq_true rfl) ?_
  show GG l cX3_requireArgument MX3_requireArgument false (.inl (none, w)) 0 [some (.int 1)] [] (w) 0 0
  refine G_iload_n dX3_requireArgument_0 rfl ?_
  refine G_if_neN (a := 1) 14 dX3_requireArgument_1 (by decide) (by omega) (fun c1 => ?_) (fun c1 => ?_)
  · exact G_vret dX3_requireArgument_14 ⟨Nat.zero_le _, Nat.zero_le _⟩ (rfl)
  · exact (show False by omega).elim
theorem c_reqState {w : mj_W} : MC l yX3_requireState wsX3_requireState rmX3_requireState false [.int 1] (w) none (w) := by
  refine mj_MC (cc := cX3_requireState) (nl := 1) (ret := none) (plainFor_of_name (by decide)) rfl (rfl) (Nat.le_of_ble_eq_true rfl) ?_
  show GG l cX3_requireState MX3_requireState false (.inl (none, w)) 0 [some (.int 1)] [] (w) 0 0
  refine G_iload_n dX3_requireState_0 rfl ?_
  refine G_if_neN (a := 1) 14 dX3_requireState_1 (by decide) (by omega) (fun c1 => ?_) (fun c1 => ?_)
  · exact G_vret dX3_requireState_14 ⟨Nat.zero_le _, Nat.zero_le _⟩ (rfl)
  · exact (show False by omega).elim
theorem c_reqIndex {w : mj_W} {a b : Nat} (h : a < b) (hb : b < 2147483648) : MC l yX3_requireIndex wsX3_requireIndex rmX3_requireIndex false [.int (nI (a)), .int (nI (b))] (w) none (w) := by
  refine mj_MC (cc := cX3_requireIndex) (nl := 2) (ret := none) (plainFor_of_name (by decide)) rfl (rfl) (Nat.le_of_ble_eq_true rfl) ?_
  show GG l cX3_requireIndex MX3_requireIndex false (.inl (none, w)) 0 [some (.int (nI (a))), some (.int (nI (b)))] [] (w) 0 0
  refine G_iload_n dX3_requireIndex_0 rfl ?_
  refine G_if_ltN (a := a) 9 dX3_requireIndex_1 (by decide) (by omega) ?_
  refine G_iload_n dX3_requireIndex_4 rfl ?_
  refine G_iload_n dX3_requireIndex_5 rfl ?_
  refine G_icmp_ltN (a := a) (c := b) 19 dX3_requireIndex_6 (by decide) (by omega) (fun c6 => ?_) (fun c6 => ?_)
  · exact G_vret dX3_requireIndex_19 ⟨Nat.zero_le _, Nat.zero_le _⟩ (rfl)
  · exact (show False by omega).elim
theorem c_reqRange {w : mj_W} {v a b : Nat} (h1 : a ≤ v) (h2 : v ≤ b) (hb : b < 2147483648) : MC l yX3_requireRange wsX3_requireRange rmX3_requireRange false [.int (nI (v)), .int (nI (a)), .int (nI (b))] (w) none (w) := by
  refine mj_MC (cc := cX3_requireRange) (nl := 3) (ret := none) (plainFor_of_name (by decide)) rfl (rfl) (Nat.le_of_ble_eq_true rfl) ?_
  show GG l cX3_requireRange MX3_requireRange false (.inl (none, w)) 0 [some (.int (nI (v))), some (.int (nI (a))), some (.int (nI (b)))] [] (w) 0 0
  refine G_iload_n dX3_requireRange_0 rfl ?_
  refine G_iload_n dX3_requireRange_1 rfl ?_
  refine G_icmp_ltN (a := v) (c := a) 14 dX3_requireRange_2 (by decide) (by omega) (fun c2 => ?_) (fun c2 => ?_)
  · exact (show False by omega).elim
  · refine G_iload_n dX3_requireRange_5 rfl ?_
    refine G_iload_n dX3_requireRange_6 rfl ?_
    refine G_icmp_gtN (a := v) (c := b) 14 dX3_requireRange_7 (by decide) (by omega) (fun c7 => ?_) (fun c7 => ?_)
    · exact (show False by omega).elim
    · refine G_iconst (v := 1) dX3_requireRange_10 (by decide) ?_
      refine G_goto 15 dX3_requireRange_11 (by decide) ?_
      refine G_callSv dX3_requireRange_15 kX3_requireRange_X3_requireArgument ⟨rfl, rfl⟩ ⟨Nat.zero_le _, Nat.zero_le _⟩ (c_reqArgument) rfl rfl rfl ?_
      exact G_vret dX3_requireRange_18 ⟨Nat.zero_le _, Nat.zero_le _⟩ (rfl)
theorem x_hearth0 (hΩ : CV xp lp ap tp up hp rp kp sp yp zp Ω) {q f rt R R1 g : mj_S} {T m T1 m1 n : Nat} (hT : T < 6) (hm : m ≤ 6) {h : Nat} (hh : h < 5) {v : Nat} (hv : 50 ≤ v ∧ v ≤ 900) : MC l yX3_hearth wsX3_hearth rmX3_hearth false [.ref xp, .int (nI (h)), .int 0, .int (nI (v))] (Ω (row q f) rt R T m R1 T1 m1 g n) (some (.int (f (10 + h)))) (Ω (row q (upd (upd f (5 + h) 0) (10 + h) (nI v))) rt (s_blit (row q f) (161 * nxT T) 161 R) (nxT T) (nxM m) R1 T1 m1 g n) := by
  refine mj_MC (cc := cX3_hearth) (nl := 4) (ret := (some .int)) (plainFor_of_name (by decide)) rfl (⟨_, rfl, rfl⟩) (Nat.le_of_ble_eq_true rfl) ?_
  show GG l cX3_hearth MX3_hearth false (.inl ((some (.int (f (10 + h)))), Ω (row q (upd (upd f (5 + h) 0) (10 + h) (nI v))) rt (s_blit (row q f) (161 * nxT T) 161 R) (nxT T) (nxM m) R1 T1 m1 g n)) 0 [some (.ref xp), some (.int (nI (h))), some (.int 0), some (.int (nI (v)))] [] (Ω (row q f) rt R T m R1 T1 m1 g n) 0 0
  refine G_iload_n dX3_hearth_0 rfl ?_
  refine G_iconst (v := 5) dX3_hearth_1 (by decide) ?_
  refine G_callSv dX3_hearth_2 kX3_hearth_X3_requireIndex ⟨rfl, rfl⟩ ⟨Nat.zero_le _, Nat.zero_le _⟩ (c_reqIndex (a := h) (b := 5) (by omega) (by omega)) rfl rfl rfl ?_
  refine G_iload_n dX3_hearth_5 rfl ?_
  refine G_bipush (v := 50) dX3_hearth_6 (by decide) ?_
  refine G_sipush (v := 900) dX3_hearth_8 (by decide) ?_
  refine G_callSv dX3_hearth_11 kX3_hearth_X3_requireRange ⟨rfl, rfl⟩ ⟨Nat.zero_le _, Nat.zero_le _⟩ (c_reqRange (v := v) (a := 50) (b := 900) (by omega) (by omega) (by omega)) rfl rfl rfl ?_
  refine G_aload_n dX3_hearth_14 rfl ?_
  refine G_getf dX3_hearth_15 fX3_hearth_24 (hΩ.1 _ _ _ _ _ _ _ _ _ _) (rfl) ?_
  refine G_aload_n dX3_hearth_18 rfl ?_
  refine G_getf dX3_hearth_19 fX3_hearth_12 (hΩ.1 _ _ _ _ _ _ _ _ _ _) (rfl) ?_
  refine G_callVv dX3_hearth_22 kX3_hearth_X1_push ⟨rfl, rfl⟩ ⟨Nat.zero_le _, Nat.zero_le _⟩ (c_push (hΩ.2.1 rt R1 T1 m1 g n) (by omega) (by omega)) rfl rfl (((hΩ.2.1 rt R1 T1 m1 g n).2 _ _ _ _).1) rfl rfl ?_
  refine G_aload_n dX3_hearth_25 rfl ?_
  refine G_getf dX3_hearth_26 fX3_hearth_12 (hΩ.1 _ _ _ _ _ _ _ _ _ _) (rfl) ?_
  refine G_iconst (v := 5) dX3_hearth_29 (by decide) ?_
  refine G_iload_n dX3_hearth_30 rfl ?_
  refine G_iaddN (a := 5) (c := h) (s := 5 + h) dX3_hearth_31 (by omega) ?_
  refine G_iload_n dX3_hearth_32 rfl ?_
  refine G_if_eqN (a := 0) 40 dX3_hearth_33 (by decide) (by omega) (fun c33 => ?_) (fun c33 => ?_)
  · refine G_iconst (v := 0) dX3_hearth_40 (by decide) ?_
    obtain ⟨f1, ef1⟩ : ∃ z : mj_S, z = upd f (5 + h) 0 := ⟨_, rfl⟩
    refine G_callVv dX3_hearth_41 kX3_hearth_X0_put ⟨rfl, rfl⟩ ⟨Nat.zero_le _, Nat.zero_le _⟩ (c_putL ((hΩ.2.1 rt R1 T1 m1 g n).lv (s_blit (row q f) (161 * nxT T) 161 R) (nxT T) (nxM m)) (j := 5 + h) (by omega) ef1) rfl rfl ((((hΩ.2.1 rt R1 T1 m1 g n).lv (s_blit (row q f) (161 * nxT T) 161 R) (nxT T) (nxM m)) _).1) rfl rfl ?_
    refine G_aload_n dX3_hearth_44 rfl ?_
    refine G_getf dX3_hearth_45 fX3_hearth_12 (hΩ.1 _ _ _ _ _ _ _ _ _ _) (rfl) ?_
    refine G_bipush (v := 10) dX3_hearth_48 (by decide) ?_
    refine G_iload_n dX3_hearth_50 rfl ?_
    refine G_iaddN (a := 10) (c := h) (s := 10 + h) dX3_hearth_51 (by omega) ?_
    refine G_iload_n dX3_hearth_52 rfl ?_
    obtain ⟨f2, ef2⟩ : ∃ z : mj_S, z = upd f1 (10 + h) (nI (v)) := ⟨_, rfl⟩
    refine G_callVi dX3_hearth_53 kX3_hearth_X0_swap ⟨rfl, rfl⟩ ⟨Nat.zero_le _, Nat.zero_le _⟩ (c_swapL ((hΩ.2.1 rt R1 T1 m1 g n).lv (s_blit (row q f) (161 * nxT T) 161 R) (nxT T) (nxM m)) (j := 10 + h) (by omega) ef2) rfl rfl ((((hΩ.2.1 rt R1 T1 m1 g n).lv (s_blit (row q f) (161 * nxT T) 161 R) (nxT T) (nxM m)) _).1) rfl rfl ?_
    exact G_iret dX3_hearth_56 ⟨Nat.zero_le _, Nat.zero_le _⟩ (by subst ef2; subst ef1; rw [upd_n (show 10 + h ≠ 5 + h by omega)])
  · exact (show False by omega).elim
theorem x_hearth1 (hΩ : CV xp lp ap tp up hp rp kp sp yp zp Ω) {q f rt R R1 g : mj_S} {T m T1 m1 n : Nat} (hT : T < 6) (hm : m ≤ 6) {h : Nat} (hh : h < 5) {v : Nat} (hv : 50 ≤ v ∧ v ≤ 900) : MC l yX3_hearth wsX3_hearth rmX3_hearth false [.ref xp, .int (nI (h)), .int 1, .int (nI (v))] (Ω (row q f) rt R T m R1 T1 m1 g n) (some (.int (f (10 + h)))) (Ω (row q (upd (upd f (5 + h) 1) (10 + h) (nI v))) rt (s_blit (row q f) (161 * nxT T) 161 R) (nxT T) (nxM m) R1 T1 m1 g n) := by
  refine mj_MC (cc := cX3_hearth) (nl := 4) (ret := (some .int)) (plainFor_of_name (by decide)) rfl (⟨_, rfl, rfl⟩) (Nat.le_of_ble_eq_true rfl) ?_
  show GG l cX3_hearth MX3_hearth false (.inl ((some (.int (f (10 + h)))), Ω (row q (upd (upd f (5 + h) 1) (10 + h) (nI v))) rt (s_blit (row q f) (161 * nxT T) 161 R) (nxT T) (nxM m) R1 T1 m1 g n)) 0 [some (.ref xp), some (.int (nI (h))), some (.int 1), some (.int (nI (v)))] [] (Ω (row q f) rt R T m R1 T1 m1 g n) 0 0
  refine G_iload_n dX3_hearth_0 rfl ?_
  refine G_iconst (v := 5) dX3_hearth_1 (by decide) ?_
  refine G_callSv dX3_hearth_2 kX3_hearth_X3_requireIndex ⟨rfl, rfl⟩ ⟨Nat.zero_le _, Nat.zero_le _⟩ (c_reqIndex (a := h) (b := 5) (by omega) (by omega)) rfl rfl rfl ?_
  refine G_iload_n dX3_hearth_5 rfl ?_
  refine G_bipush (v := 50) dX3_hearth_6 (by decide) ?_
  refine G_sipush (v := 900) dX3_hearth_8 (by decide) ?_
  refine G_callSv dX3_hearth_11 kX3_hearth_X3_requireRange ⟨rfl, rfl⟩ ⟨Nat.zero_le _, Nat.zero_le _⟩ (c_reqRange (v := v) (a := 50) (b := 900) (by omega) (by omega) (by omega)) rfl rfl rfl ?_
  refine G_aload_n dX3_hearth_14 rfl ?_
  refine G_getf dX3_hearth_15 fX3_hearth_24 (hΩ.1 _ _ _ _ _ _ _ _ _ _) (rfl) ?_
  refine G_aload_n dX3_hearth_18 rfl ?_
  refine G_getf dX3_hearth_19 fX3_hearth_12 (hΩ.1 _ _ _ _ _ _ _ _ _ _) (rfl) ?_
  refine G_callVv dX3_hearth_22 kX3_hearth_X1_push ⟨rfl, rfl⟩ ⟨Nat.zero_le _, Nat.zero_le _⟩ (c_push (hΩ.2.1 rt R1 T1 m1 g n) (by omega) (by omega)) rfl rfl (((hΩ.2.1 rt R1 T1 m1 g n).2 _ _ _ _).1) rfl rfl ?_
  refine G_aload_n dX3_hearth_25 rfl ?_
  refine G_getf dX3_hearth_26 fX3_hearth_12 (hΩ.1 _ _ _ _ _ _ _ _ _ _) (rfl) ?_
  refine G_iconst (v := 5) dX3_hearth_29 (by decide) ?_
  refine G_iload_n dX3_hearth_30 rfl ?_
  refine G_iaddN (a := 5) (c := h) (s := 5 + h) dX3_hearth_31 (by omega) ?_
  refine G_iload_n dX3_hearth_32 rfl ?_
  refine G_if_eqN (a := 1) 40 dX3_hearth_33 (by decide) (by omega) (fun c33 => ?_) (fun c33 => ?_)
  · exact (show False by omega).elim
  · refine G_iconst (v := 1) dX3_hearth_36 (by decide) ?_
    refine G_goto 41 dX3_hearth_37 (by decide) ?_
    obtain ⟨f1, ef1⟩ : ∃ z : mj_S, z = upd f (5 + h) 1 := ⟨_, rfl⟩
    refine G_callVv dX3_hearth_41 kX3_hearth_X0_put ⟨rfl, rfl⟩ ⟨Nat.zero_le _, Nat.zero_le _⟩ (c_putL ((hΩ.2.1 rt R1 T1 m1 g n).lv (s_blit (row q f) (161 * nxT T) 161 R) (nxT T) (nxM m)) (j := 5 + h) (by omega) ef1) rfl rfl ((((hΩ.2.1 rt R1 T1 m1 g n).lv (s_blit (row q f) (161 * nxT T) 161 R) (nxT T) (nxM m)) _).1) rfl rfl ?_
    refine G_aload_n dX3_hearth_44 rfl ?_
    refine G_getf dX3_hearth_45 fX3_hearth_12 (hΩ.1 _ _ _ _ _ _ _ _ _ _) (rfl) ?_
    refine G_bipush (v := 10) dX3_hearth_48 (by decide) ?_
    refine G_iload_n dX3_hearth_50 rfl ?_
    refine G_iaddN (a := 10) (c := h) (s := 10 + h) dX3_hearth_51 (by omega) ?_
    refine G_iload_n dX3_hearth_52 rfl ?_
    obtain ⟨f2, ef2⟩ : ∃ z : mj_S, z = upd f1 (10 + h) (nI (v)) := ⟨_, rfl⟩
    refine G_callVi dX3_hearth_53 kX3_hearth_X0_swap ⟨rfl, rfl⟩ ⟨Nat.zero_le _, Nat.zero_le _⟩ (c_swapL ((hΩ.2.1 rt R1 T1 m1 g n).lv (s_blit (row q f) (161 * nxT T) 161 R) (nxT T) (nxM m)) (j := 10 + h) (by omega) ef2) rfl rfl ((((hΩ.2.1 rt R1 T1 m1 g n).lv (s_blit (row q f) (161 * nxT T) 161 R) (nxT T) (nxM m)) _).1) rfl rfl ?_
    exact G_iret dX3_hearth_56 ⟨Nat.zero_le _, Nat.zero_le _⟩ (by subst ef2; subst ef1; rw [upd_n (show 10 + h ≠ 5 + h by omega)])
theorem x_track (hΩ : CV xp lp ap tp up hp rp kp sp yp zp Ω) {q f rt R R1 g : mj_S} {T m T1 m1 n : Nat} (hT : T < 6) (hm : m ≤ 6) {b : Nat} (hb : b < 4) {v : Nat} (hv : 10 ≤ v ∧ v ≤ 90) : MC l yX3_track wsX3_track rmX3_track false [.ref xp, .int (nI (b)), .int (nI (v))] (Ω (row q f) rt R T m R1 T1 m1 g n) (some (.int (f (49 + b)))) (Ω (row q (upd f (49 + b) (nI v))) rt (s_blit (row q f) (161 * nxT T) 161 R) (nxT T) (nxM m) R1 T1 m1 g n) := by
  refine mj_MC (cc := cX3_track) (nl := 3) (ret := (some .int)) (plainFor_of_name (by decide)) rfl (⟨_, rfl, rfl⟩) (Nat.le_of_ble_eq_true rfl) ?_
  show GG l cX3_track MX3_track false (.inl ((some (.int (f (49 + b)))), Ω (row q (upd f (49 + b) (nI v))) rt (s_blit (row q f) (161 * nxT T) 161 R) (nxT T) (nxM m) R1 T1 m1 g n)) 0 [some (.ref xp), some (.int (nI (b))), some (.int (nI (v)))] [] (Ω (row q f) rt R T m R1 T1 m1 g n) 0 0
  refine G_iload_n dX3_track_0 rfl ?_
  refine G_iconst (v := 4) dX3_track_1 (by decide) ?_
  refine G_callSv dX3_track_2 kX3_track_X3_requireIndex ⟨rfl, rfl⟩ ⟨Nat.zero_le _, Nat.zero_le _⟩ (c_reqIndex (a := b) (b := 4) (by omega) (by omega)) rfl rfl rfl ?_
  refine G_iload_n dX3_track_5 rfl ?_
  refine G_bipush (v := 10) dX3_track_6 (by decide) ?_
  refine G_bipush (v := 90) dX3_track_8 (by decide) ?_
  refine G_callSv dX3_track_10 kX3_track_X3_requireRange ⟨rfl, rfl⟩ ⟨Nat.zero_le _, Nat.zero_le _⟩ (c_reqRange (v := v) (a := 10) (b := 90) (by omega) (by omega) (by omega)) rfl rfl rfl ?_
  refine G_aload_n dX3_track_13 rfl ?_
  refine G_getf dX3_track_14 fX3_track_24 (hΩ.1 _ _ _ _ _ _ _ _ _ _) (rfl) ?_
  refine G_aload_n dX3_track_17 rfl ?_
  refine G_getf dX3_track_18 fX3_track_12 (hΩ.1 _ _ _ _ _ _ _ _ _ _) (rfl) ?_
  refine G_callVv dX3_track_21 kX3_track_X1_push ⟨rfl, rfl⟩ ⟨Nat.zero_le _, Nat.zero_le _⟩ (c_push (hΩ.2.1 rt R1 T1 m1 g n) (by omega) (by omega)) rfl rfl (((hΩ.2.1 rt R1 T1 m1 g n).2 _ _ _ _).1) rfl rfl ?_
  refine G_aload_n dX3_track_24 rfl ?_
  refine G_getf dX3_track_25 fX3_track_12 (hΩ.1 _ _ _ _ _ _ _ _ _ _) (rfl) ?_
  refine G_bipush (v := 49) dX3_track_28 (by decide) ?_
  refine G_iload_n dX3_track_30 rfl ?_
  refine G_iaddN (a := 49) (c := b) (s := 49 + b) dX3_track_31 (by omega) ?_
  refine G_iload_n dX3_track_32 rfl ?_
  obtain ⟨f1, ef1⟩ : ∃ z : mj_S, z = upd f (49 + b) (nI (v)) := ⟨_, rfl⟩
  refine G_callVi dX3_track_33 kX3_track_X0_swap ⟨rfl, rfl⟩ ⟨Nat.zero_le _, Nat.zero_le _⟩ (c_swapL ((hΩ.2.1 rt R1 T1 m1 g n).lv (s_blit (row q f) (161 * nxT T) 161 R) (nxT T) (nxM m)) (j := 49 + b) (by omega) ef1) rfl rfl ((((hΩ.2.1 rt R1 T1 m1 g n).lv (s_blit (row q f) (161 * nxT T) 161 R) (nxT T) (nxM m)) _).1) rfl rfl ?_
  exact G_iret dX3_track_36 ⟨Nat.zero_le _, Nat.zero_le _⟩ (by subst ef1; rfl)
theorem x_strength (hΩ : CV xp lp ap tp up hp rp kp sp yp zp Ω) {q f rt R R1 g : mj_S} {T m T1 m1 n : Nat} (hT : T < 6) (hm : m ≤ 6) {c : Nat} (hc : c < 6) {v : Nat} (hv : 5 ≤ v ∧ v ≤ 40) : MC l yX3_strength wsX3_strength rmX3_strength false [.ref xp, .int (nI (c)), .int (nI (v))] (Ω (row q f) rt R T m R1 T1 m1 g n) (some (.int (f (133 + c)))) (Ω (row q (upd f (133 + c) (nI v))) rt (s_blit (row q f) (161 * nxT T) 161 R) (nxT T) (nxM m) R1 T1 m1 g n) := by
  refine mj_MC (cc := cX3_strength) (nl := 3) (ret := (some .int)) (plainFor_of_name (by decide)) rfl (⟨_, rfl, rfl⟩) (Nat.le_of_ble_eq_true rfl) ?_
  show GG l cX3_strength MX3_strength false (.inl ((some (.int (f (133 + c)))), Ω (row q (upd f (133 + c) (nI v))) rt (s_blit (row q f) (161 * nxT T) 161 R) (nxT T) (nxM m) R1 T1 m1 g n)) 0 [some (.ref xp), some (.int (nI (c))), some (.int (nI (v)))] [] (Ω (row q f) rt R T m R1 T1 m1 g n) 0 0
  refine G_iload_n dX3_strength_0 rfl ?_
  refine G_bipush (v := 6) dX3_strength_1 (by decide) ?_
  refine G_callSv dX3_strength_3 kX3_strength_X3_requireIndex ⟨rfl, rfl⟩ ⟨Nat.zero_le _, Nat.zero_le _⟩ (c_reqIndex (a := c) (b := 6) (by omega) (by omega)) rfl rfl rfl ?_
  refine G_iload_n dX3_strength_6 rfl ?_
  refine G_iconst (v := 5) dX3_strength_7 (by decide) ?_
  refine G_bipush (v := 40) dX3_strength_8 (by decide) ?_
  refine G_callSv dX3_strength_10 kX3_strength_X3_requireRange ⟨rfl, rfl⟩ ⟨Nat.zero_le _, Nat.zero_le _⟩ (c_reqRange (v := v) (a := 5) (b := 40) (by omega) (by omega) (by omega)) rfl rfl rfl ?_
  refine G_aload_n dX3_strength_13 rfl ?_
  refine G_getf dX3_strength_14 fX3_strength_24 (hΩ.1 _ _ _ _ _ _ _ _ _ _) (rfl) ?_
  refine G_aload_n dX3_strength_17 rfl ?_
  refine G_getf dX3_strength_18 fX3_strength_12 (hΩ.1 _ _ _ _ _ _ _ _ _ _) (rfl) ?_
  refine G_callVv dX3_strength_21 kX3_strength_X1_push ⟨rfl, rfl⟩ ⟨Nat.zero_le _, Nat.zero_le _⟩ (c_push (hΩ.2.1 rt R1 T1 m1 g n) (by omega) (by omega)) rfl rfl (((hΩ.2.1 rt R1 T1 m1 g n).2 _ _ _ _).1) rfl rfl ?_
  refine G_aload_n dX3_strength_24 rfl ?_
  refine G_getf dX3_strength_25 fX3_strength_12 (hΩ.1 _ _ _ _ _ _ _ _ _ _) (rfl) ?_
  refine G_sipush (v := 137) dX3_strength_28 (by decide) ?_
  refine G_iload_n dX3_strength_31 rfl ?_
  refine G_iaddN (a := 137) (c := c) (s := 137 + c) dX3_strength_32 (by omega) ?_
  refine G_iload_n dX3_strength_33 rfl ?_
  obtain ⟨f1, ef1⟩ : ∃ z : mj_S, z = upd f (133 + c) (nI (v)) := ⟨_, rfl⟩
  refine G_callVi dX3_strength_34 kX3_strength_X0_swap ⟨rfl, rfl⟩ ⟨Nat.zero_le _, Nat.zero_le _⟩ (c_swapH ((hΩ.2.1 rt R1 T1 m1 g n).lv (s_blit (row q f) (161 * nxT T) 161 R) (nxT T) (nxM m)) (j := 137 + c) (j' := 133 + c) (by omega) (by omega) ef1) rfl rfl ((((hΩ.2.1 rt R1 T1 m1 g n).lv (s_blit (row q f) (161 * nxT T) 161 R) (nxT T) (nxM m)) _).1) rfl rfl ?_
  exact G_iret dX3_strength_37 ⟨Nat.zero_le _, Nat.zero_le _⟩ (by subst ef1; rfl)
theorem x_rest (hΩ : CV xp lp ap tp up hp rp kp sp yp zp Ω) {q f rt R R1 g : mj_S} {T m T1 m1 n : Nat} (hT : T < 6) (hm : m ≤ 6) {c : Nat} (hc : c < 6) : MC l yX3_rest wsX3_rest rmX3_rest false [.ref xp, .int (nI (c))] (Ω (row q f) rt R T m R1 T1 m1 g n) (some (.int (s_cntA (s_setw f c (-1) (-1))))) (Ω (row q (s_setw f c (-1) (-1))) rt (s_blit (row q f) (161 * nxT T) 161 R) (nxT T) (nxM m) R1 T1 m1 g n) := by
  refine mj_MC (cc := cX3_rest) (nl := 2) (ret := (some .int)) (plainFor_of_name (by decide)) rfl (⟨_, rfl, rfl⟩) (Nat.le_of_ble_eq_true rfl) ?_
  show GG l cX3_rest MX3_rest false (.inl ((some (.int (s_cntA (s_setw f c (-1) (-1))))), Ω (row q (s_setw f c (-1) (-1))) rt (s_blit (row q f) (161 * nxT T) 161 R) (nxT T) (nxM m) R1 T1 m1 g n)) 0 [some (.ref xp), some (.int (nI (c)))] [] (Ω (row q f) rt R T m R1 T1 m1 g n) 0 0
  refine G_iload_n dX3_rest_0 rfl ?_
  refine G_bipush (v := 6) dX3_rest_1 (by decide) ?_
  refine G_callSv dX3_rest_3 kX3_rest_X3_requireIndex ⟨rfl, rfl⟩ ⟨Nat.zero_le _, Nat.zero_le _⟩ (c_reqIndex (a := c) (b := 6) (by omega) (by omega)) rfl rfl rfl ?_
  refine G_aload_n dX3_rest_6 rfl ?_
  refine G_getf dX3_rest_7 fX3_rest_24 (hΩ.1 _ _ _ _ _ _ _ _ _ _) (rfl) ?_
  refine G_aload_n dX3_rest_10 rfl ?_
  refine G_getf dX3_rest_11 fX3_rest_12 (hΩ.1 _ _ _ _ _ _ _ _ _ _) (rfl) ?_
  refine G_callVv dX3_rest_14 kX3_rest_X1_push ⟨rfl, rfl⟩ ⟨Nat.zero_le _, Nat.zero_le _⟩ (c_push (hΩ.2.1 rt R1 T1 m1 g n) (by omega) (by omega)) rfl rfl (((hΩ.2.1 rt R1 T1 m1 g n).2 _ _ _ _).1) rfl rfl ?_
  refine G_aload_n dX3_rest_17 rfl ?_
  refine G_getf dX3_rest_18 fX3_rest_12 (hΩ.1 _ _ _ _ _ _ _ _ _ _) (rfl) ?_
  refine G_iload_n dX3_rest_21 rfl ?_
  refine G_callVv dX3_rest_22 kX3_rest_X0_letRest ⟨rfl, rfl⟩ ⟨Nat.zero_le _, Nat.zero_le _⟩ (c_letRest ((hΩ.2.1 rt R1 T1 m1 g n).lv (s_blit (row q f) (161 * nxT T) 161 R) (nxT T) (nxM m)) (c := c) (by omega)) rfl rfl ((((hΩ.2.1 rt R1 T1 m1 g n).lv (s_blit (row q f) (161 * nxT T) 161 R) (nxT T) (nxM m)) _).1) rfl rfl ?_
  refine G_aload_n dX3_rest_25 rfl ?_
  refine G_getf dX3_rest_26 fX3_rest_12 (hΩ.1 _ _ _ _ _ _ _ _ _ _) (rfl) ?_
  refine G_callVi dX3_rest_29 kX3_rest_X0_cuttersAtWork ⟨rfl, rfl⟩ ⟨Nat.zero_le _, Nat.zero_le _⟩ (c_cuttersAtWork ((hΩ.2.1 rt R1 T1 m1 g n).lv (s_blit (row q f) (161 * nxT T) 161 R) (nxT T) (nxM m))) rfl rfl ((((hΩ.2.1 rt R1 T1 m1 g n).lv (s_blit (row q f) (161 * nxT T) 161 R) (nxT T) (nxM m)) _).1) rfl rfl ?_
  exact G_iret dX3_rest_32 ⟨Nat.zero_le _, Nat.zero_le _⟩ (rfl)
theorem x_pass (hΩ : CV xp lp ap tp up hp rp kp sp yp zp Ω) {q f rt R R1 g : mj_S} {T m T1 m1 n : Nat} (hT : T < 6) (hm : m ≤ 6) {D : Nat} (ho : oA f D) (hv : vt f) (hD : D < 2147479000) {k : Nat} (hk : 1 ≤ k ∧ k ≤ 60) : MC l yX3_pass wsX3_pass rmX3_pass false [.ref xp, .int (nI (k))] (Ω (row q f) rt R T m R1 T1 m1 g n) (some (.int (s_days k f).2)) (Ω (row q ((s_days k f).1)) rt (s_blit (row q f) (161 * nxT T) 161 R) (nxT T) (nxM m) R1 T1 m1 g n) := by
  refine mj_MC (cc := cX3_pass) (nl := 2) (ret := (some .int)) (plainFor_of_name (by decide)) rfl (⟨_, rfl, rfl⟩) (Nat.le_of_ble_eq_true rfl) ?_
  show GG l cX3_pass MX3_pass false (.inl ((some (.int (s_days k f).2)), Ω (row q ((s_days k f).1)) rt (s_blit (row q f) (161 * nxT T) 161 R) (nxT T) (nxM m) R1 T1 m1 g n)) 0 [some (.ref xp), some (.int (nI (k)))] [] (Ω (row q f) rt R T m R1 T1 m1 g n) 0 0
  refine G_iload_n dX3_pass_0 rfl ?_
  refine G_iconst (v := 1) dX3_pass_1 (by decide) ?_
  refine G_bipush (v := 60) dX3_pass_2 (by decide) ?_
  refine G_callSv dX3_pass_4 kX3_pass_X3_requireRange ⟨rfl, rfl⟩ ⟨Nat.zero_le _, Nat.zero_le _⟩ (c_reqRange (v := k) (a := 1) (b := 60) (by omega) (by omega) (by omega)) rfl rfl rfl ?_
  refine G_aload_n dX3_pass_7 rfl ?_
  refine G_getf dX3_pass_8 fX3_pass_24 (hΩ.1 _ _ _ _ _ _ _ _ _ _) (rfl) ?_
  refine G_aload_n dX3_pass_11 rfl ?_
  refine G_getf dX3_pass_12 fX3_pass_12 (hΩ.1 _ _ _ _ _ _ _ _ _ _) (rfl) ?_
  refine G_callVv dX3_pass_15 kX3_pass_X1_push ⟨rfl, rfl⟩ ⟨Nat.zero_le _, Nat.zero_le _⟩ (c_push (hΩ.2.1 rt R1 T1 m1 g n) (by omega) (by omega)) rfl rfl (((hΩ.2.1 rt R1 T1 m1 g n).2 _ _ _ _).1) rfl rfl ?_
  refine G_aload_n dX3_pass_18 rfl ?_
  refine G_getf dX3_pass_19 fX3_pass_12 (hΩ.1 _ _ _ _ _ _ _ _ _ _) (rfl) ?_
  refine G_iload_n dX3_pass_22 rfl ?_
  refine G_callVi dX3_pass_23 kX3_pass_X0_passDays ⟨rfl, rfl⟩ ⟨Nat.zero_le _, Nat.zero_le _⟩ (c_passDays ((hΩ.2.1 rt R1 T1 m1 g n).lv (s_blit (row q f) (161 * nxT T) 161 R) (nxT T) (nxM m)) (n := k) ho hv (by omega)) rfl rfl ((((hΩ.2.1 rt R1 T1 m1 g n).lv (s_blit (row q f) (161 * nxT T) 161 R) (nxT T) (nxM m)) _).1) rfl rfl ?_
  exact G_iret dX3_pass_26 ⟨Nat.zero_le _, Nat.zero_le _⟩ (rfl)
theorem x_snow (hΩ : CV xp lp ap tp up hp rp kp sp yp zp Ω) {q f rt R R1 g : mj_S} {T m T1 m1 n : Nat} (hT : T < 6) (hm : m ≤ 6) : MC l yX3_snow wsX3_snow rmX3_snow false [.ref xp] (Ω (row q f) rt R T m R1 T1 m1 g n) (some (.int (s_turn f 1))) (Ω (row q (s_turn f)) rt (s_blit (row q f) (161 * nxT T) 161 R) (nxT T) (nxM m) R1 T1 m1 g n) := by
  refine mj_MC (cc := cX3_snow) (nl := 1) (ret := (some .int)) (plainFor_of_name (by decide)) rfl (⟨_, rfl, rfl⟩) (Nat.le_of_ble_eq_true rfl) ?_
  show GG l cX3_snow MX3_snow false (.inl ((some (.int (s_turn f 1))), Ω (row q (s_turn f)) rt (s_blit (row q f) (161 * nxT T) 161 R) (nxT T) (nxM m) R1 T1 m1 g n)) 0 [some (.ref xp)] [] (Ω (row q f) rt R T m R1 T1 m1 g n) 0 0
  refine G_aload_n dX3_snow_0 rfl ?_
  refine G_getf dX3_snow_1 fX3_snow_24 (hΩ.1 _ _ _ _ _ _ _ _ _ _) (rfl) ?_
  refine G_aload_n dX3_snow_4 rfl ?_
  refine G_getf dX3_snow_5 fX3_snow_12 (hΩ.1 _ _ _ _ _ _ _ _ _ _) (rfl) ?_
  refine G_callVv dX3_snow_8 kX3_snow_X1_push ⟨rfl, rfl⟩ ⟨Nat.zero_le _, Nat.zero_le _⟩ (c_push (hΩ.2.1 rt R1 T1 m1 g n) (by omega) (by omega)) rfl rfl (((hΩ.2.1 rt R1 T1 m1 g n).2 _ _ _ _).1) rfl rfl ?_
  refine G_aload_n dX3_snow_11 rfl ?_
  refine G_getf dX3_snow_12 fX3_snow_12 (hΩ.1 _ _ _ _ _ _ _ _ _ _) (rfl) ?_
  refine G_callVv dX3_snow_15 kX3_snow_X0_turnSnow ⟨rfl, rfl⟩ ⟨Nat.zero_le _, Nat.zero_le _⟩ (c_turnSnow ((hΩ.2.1 rt R1 T1 m1 g n).lv (s_blit (row q f) (161 * nxT T) 161 R) (nxT T) (nxM m))) rfl rfl ((((hΩ.2.1 rt R1 T1 m1 g n).lv (s_blit (row q f) (161 * nxT T) 161 R) (nxT T) (nxM m)) _).1) rfl rfl ?_
  refine G_aload_n dX3_snow_18 rfl ?_
  refine G_getf dX3_snow_19 fX3_snow_12 (hΩ.1 _ _ _ _ _ _ _ _ _ _) (rfl) ?_
  refine G_iconst (v := 1) dX3_snow_22 (by decide) ?_
  refine G_callVi dX3_snow_23 kX3_snow_X0_at ⟨rfl, rfl⟩ ⟨Nat.zero_le _, Nat.zero_le _⟩ (c_atL ((hΩ.2.1 rt R1 T1 m1 g n).lv (s_blit (row q f) (161 * nxT T) 161 R) (nxT T) (nxM m)) (j := 1) (by omega)) rfl rfl ((((hΩ.2.1 rt R1 T1 m1 g n).lv (s_blit (row q f) (161 * nxT T) 161 R) (nxT T) (nxM m)) _).1) rfl rfl ?_
  exact G_iret dX3_snow_26 ⟨Nat.zero_le _, Nat.zero_le _⟩ (rfl)
theorem x_hearthOf (hΩ : CV xp lp ap tp up hp rp kp sp yp zp Ω) {q f rt R R1 g : mj_S} {T m T1 m1 n : Nat} {h : Nat} (hh : h < 5) {k : Nat} (hk : k < 12) : MC l yX3_hearthOf wsX3_hearthOf rmX3_hearthOf false [.ref xp, .int (nI (h)), .int (nI (k))] (Ω (row q f) rt R T m R1 T1 m1 g n) (some (.int (s_ofH f h k))) (Ω (row q f) rt R T m R1 T1 m1 g n) := by
  refine mj_MC (cc := cX3_hearthOf) (nl := 3) (ret := (some .int)) (plainFor_of_name (by decide)) rfl (⟨_, rfl, rfl⟩) (Nat.le_of_ble_eq_true rfl) ?_
  show GG l cX3_hearthOf MX3_hearthOf false (.inl ((some (.int (s_ofH f h k))), Ω (row q f) rt R T m R1 T1 m1 g n)) 0 [some (.ref xp), some (.int (nI (h))), some (.int (nI (k)))] [] (Ω (row q f) rt R T m R1 T1 m1 g n) 0 0
  refine G_iload_n dX3_hearthOf_0 rfl ?_
  refine G_iconst (v := 5) dX3_hearthOf_1 (by decide) ?_
  refine G_callSv dX3_hearthOf_2 kX3_hearthOf_X3_requireIndex ⟨rfl, rfl⟩ ⟨Nat.zero_le _, Nat.zero_le _⟩ (c_reqIndex (a := h) (b := 5) (by omega) (by omega)) rfl rfl rfl ?_
  refine G_iload_n dX3_hearthOf_5 rfl ?_
  refine G_iconst (v := 0) dX3_hearthOf_6 (by decide) ?_
  refine G_bipush (v := 11) dX3_hearthOf_7 (by decide) ?_
  refine G_callSv dX3_hearthOf_9 kX3_hearthOf_X3_requireRange ⟨rfl, rfl⟩ ⟨Nat.zero_le _, Nat.zero_le _⟩ (c_reqRange (v := k) (a := 0) (b := 11) (by omega) (by omega) (by omega)) rfl rfl rfl ?_
  refine G_aload_n dX3_hearthOf_12 rfl ?_
  refine G_getf dX3_hearthOf_13 fX3_hearthOf_12 (hΩ.1 _ _ _ _ _ _ _ _ _ _) (rfl) ?_
  refine G_iload_n dX3_hearthOf_16 rfl ?_
  refine G_iload_n dX3_hearthOf_17 rfl ?_
  refine G_callVi dX3_hearthOf_18 kX3_hearthOf_X0_ofHearth ⟨rfl, rfl⟩ ⟨Nat.zero_le _, Nat.zero_le _⟩ (c_ofHearth ((hΩ.2.1 rt R1 T1 m1 g n).lv R T m) (h := h) (by omega) (w := k) (by omega)) rfl rfl ((((hΩ.2.1 rt R1 T1 m1 g n).lv R T m) _).1) rfl rfl ?_
  exact G_iret dX3_hearthOf_21 ⟨Nat.zero_le _, Nat.zero_le _⟩ (rfl)
theorem x_bankOf (hΩ : CV xp lp ap tp up hp rp kp sp yp zp Ω) {q f rt R R1 g : mj_S} {T m T1 m1 n : Nat} {b : Nat} (hb : b < 4) {k : Nat} (hk : k < 5) : MC l yX3_bankOf wsX3_bankOf rmX3_bankOf false [.ref xp, .int (nI (b)), .int (nI (k))] (Ω (row q f) rt R T m R1 T1 m1 g n) (some (.int (s_ofB q f b k))) (Ω (row q f) rt R T m R1 T1 m1 g n) := by
  refine mj_MC (cc := cX3_bankOf) (nl := 3) (ret := (some .int)) (plainFor_of_name (by decide)) rfl (⟨_, rfl, rfl⟩) (Nat.le_of_ble_eq_true rfl) ?_
  show GG l cX3_bankOf MX3_bankOf false (.inl ((some (.int (s_ofB q f b k))), Ω (row q f) rt R T m R1 T1 m1 g n)) 0 [some (.ref xp), some (.int (nI (b))), some (.int (nI (k)))] [] (Ω (row q f) rt R T m R1 T1 m1 g n) 0 0
  refine G_iload_n dX3_bankOf_0 rfl ?_
  refine G_iconst (v := 4) dX3_bankOf_1 (by decide) ?_
  refine G_callSv dX3_bankOf_2 kX3_bankOf_X3_requireIndex ⟨rfl, rfl⟩ ⟨Nat.zero_le _, Nat.zero_le _⟩ (c_reqIndex (a := b) (b := 4) (by omega) (by omega)) rfl rfl rfl ?_
  refine G_iload_n dX3_bankOf_5 rfl ?_
  refine G_iconst (v := 0) dX3_bankOf_6 (by decide) ?_
  refine G_iconst (v := 4) dX3_bankOf_7 (by decide) ?_
  refine G_callSv dX3_bankOf_8 kX3_bankOf_X3_requireRange ⟨rfl, rfl⟩ ⟨Nat.zero_le _, Nat.zero_le _⟩ (c_reqRange (v := k) (a := 0) (b := 4) (by omega) (by omega) (by omega)) rfl rfl rfl ?_
  refine G_aload_n dX3_bankOf_11 rfl ?_
  refine G_getf dX3_bankOf_12 fX3_bankOf_12 (hΩ.1 _ _ _ _ _ _ _ _ _ _) (rfl) ?_
  refine G_iload_n dX3_bankOf_15 rfl ?_
  refine G_iload_n dX3_bankOf_16 rfl ?_
  refine G_callVi dX3_bankOf_17 kX3_bankOf_X0_ofBank ⟨rfl, rfl⟩ ⟨Nat.zero_le _, Nat.zero_le _⟩ (c_ofBank ((hΩ.2.1 rt R1 T1 m1 g n).lv R T m) (b := b) (by omega) (w := k) (by omega)) rfl rfl ((((hΩ.2.1 rt R1 T1 m1 g n).lv R T m) _).1) rfl rfl ?_
  exact G_iret dX3_bankOf_20 ⟨Nat.zero_le _, Nat.zero_le _⟩ (rfl)
theorem x_plot (hΩ : CV xp lp ap tp up hp rp kp sp yp zp Ω) {q f rt R R1 g : mj_S} {T m T1 m1 n : Nat} {h : Nat} (hh : h < 5) {b : Nat} (hb : b < 4) {k : Nat} (hk : k < 5) : MC l yX3_plot wsX3_plot rmX3_plot false [.ref xp, .int (nI (h)), .int (nI (b)), .int (nI (k))] (Ω (row q f) rt R T m R1 T1 m1 g n) (some (.int (s_ofP f h b k))) (Ω (row q f) rt R T m R1 T1 m1 g n) := by
  refine mj_MC (cc := cX3_plot) (nl := 4) (ret := (some .int)) (plainFor_of_name (by decide)) rfl (⟨_, rfl, rfl⟩) (Nat.le_of_ble_eq_true rfl) ?_
  show GG l cX3_plot MX3_plot false (.inl ((some (.int (s_ofP f h b k))), Ω (row q f) rt R T m R1 T1 m1 g n)) 0 [some (.ref xp), some (.int (nI (h))), some (.int (nI (b))), some (.int (nI (k)))] [] (Ω (row q f) rt R T m R1 T1 m1 g n) 0 0
  refine G_iload_n dX3_plot_0 rfl ?_
  refine G_iconst (v := 5) dX3_plot_1 (by decide) ?_
  refine G_callSv dX3_plot_2 kX3_plot_X3_requireIndex ⟨rfl, rfl⟩ ⟨Nat.zero_le _, Nat.zero_le _⟩ (c_reqIndex (a := h) (b := 5) (by omega) (by omega)) rfl rfl rfl ?_
  refine G_iload_n dX3_plot_5 rfl ?_
  refine G_iconst (v := 4) dX3_plot_6 (by decide) ?_
  refine G_callSv dX3_plot_7 kX3_plot_X3_requireIndex ⟨rfl, rfl⟩ ⟨Nat.zero_le _, Nat.zero_le _⟩ (c_reqIndex (a := b) (b := 4) (by omega) (by omega)) rfl rfl rfl ?_
  refine G_iload_n dX3_plot_10 rfl ?_
  refine G_iconst (v := 0) dX3_plot_11 (by decide) ?_
  refine G_iconst (v := 4) dX3_plot_12 (by decide) ?_
  refine G_callSv dX3_plot_13 kX3_plot_X3_requireRange ⟨rfl, rfl⟩ ⟨Nat.zero_le _, Nat.zero_le _⟩ (c_reqRange (v := k) (a := 0) (b := 4) (by omega) (by omega) (by omega)) rfl rfl rfl ?_
  refine G_aload_n dX3_plot_16 rfl ?_
  refine G_getf dX3_plot_17 fX3_plot_12 (hΩ.1 _ _ _ _ _ _ _ _ _ _) (rfl) ?_
  refine G_iload_n dX3_plot_20 rfl ?_
  refine G_iload_n dX3_plot_21 rfl ?_
  refine G_iload_n dX3_plot_22 rfl ?_
  refine G_callVi dX3_plot_23 kX3_plot_X0_ofPlot ⟨rfl, rfl⟩ ⟨Nat.zero_le _, Nat.zero_le _⟩ (c_ofPlot ((hΩ.2.1 rt R1 T1 m1 g n).lv R T m) (h := h) (b := b) (by omega) (by omega) (w := k) (by omega)) rfl rfl ((((hΩ.2.1 rt R1 T1 m1 g n).lv R T m) _).1) rfl rfl ?_
  exact G_iret dX3_plot_26 ⟨Nat.zero_le _, Nat.zero_le _⟩ (rfl)
theorem x_cutter (hΩ : CV xp lp ap tp up hp rp kp sp yp zp Ω) {q f rt R R1 g : mj_S} {T m T1 m1 n : Nat} {c : Nat} (hc : c < 6) {k : Nat} (hk : k < 4) : MC l yX3_cutter wsX3_cutter rmX3_cutter false [.ref xp, .int (nI (c)), .int (nI (k))] (Ω (row q f) rt R T m R1 T1 m1 g n) (some (.int (f (133 + 6 * k + c)))) (Ω (row q f) rt R T m R1 T1 m1 g n) := by
  refine mj_MC (cc := cX3_cutter) (nl := 3) (ret := (some .int)) (plainFor_of_name (by decide)) rfl (⟨_, rfl, rfl⟩) (Nat.le_of_ble_eq_true rfl) ?_
  show GG l cX3_cutter MX3_cutter false (.inl ((some (.int (f (133 + 6 * k + c)))), Ω (row q f) rt R T m R1 T1 m1 g n)) 0 [some (.ref xp), some (.int (nI (c))), some (.int (nI (k)))] [] (Ω (row q f) rt R T m R1 T1 m1 g n) 0 0
  refine G_iload_n dX3_cutter_0 rfl ?_
  refine G_bipush (v := 6) dX3_cutter_1 (by decide) ?_
  refine G_callSv dX3_cutter_3 kX3_cutter_X3_requireIndex ⟨rfl, rfl⟩ ⟨Nat.zero_le _, Nat.zero_le _⟩ (c_reqIndex (a := c) (b := 6) (by omega) (by omega)) rfl rfl rfl ?_
  refine G_iload_n dX3_cutter_6 rfl ?_
  refine G_iconst (v := 0) dX3_cutter_7 (by decide) ?_
  refine G_iconst (v := 3) dX3_cutter_8 (by decide) ?_
  refine G_callSv dX3_cutter_9 kX3_cutter_X3_requireRange ⟨rfl, rfl⟩ ⟨Nat.zero_le _, Nat.zero_le _⟩ (c_reqRange (v := k) (a := 0) (b := 3) (by omega) (by omega) (by omega)) rfl rfl rfl ?_
  refine G_aload_n dX3_cutter_12 rfl ?_
  refine G_getf dX3_cutter_13 fX3_cutter_12 (hΩ.1 _ _ _ _ _ _ _ _ _ _) (rfl) ?_
  refine G_iload_n dX3_cutter_16 rfl ?_
  refine G_iload_n dX3_cutter_17 rfl ?_
  refine G_callVi dX3_cutter_18 kX3_cutter_X0_ofCutter ⟨rfl, rfl⟩ ⟨Nat.zero_le _, Nat.zero_le _⟩ (c_ofCutter ((hΩ.2.1 rt R1 T1 m1 g n).lv R T m) (c := c) (by omega) (w := k) (by omega)) rfl rfl ((((hΩ.2.1 rt R1 T1 m1 g n).lv R T m) _).1) rfl rfl ?_
  exact G_iret dX3_cutter_21 ⟨Nat.zero_le _, Nat.zero_le _⟩ (rfl)
theorem x_whyNot (hΩ : CV xp lp ap tp up hp rp kp sp yp zp Ω) {q f rt R R1 g : mj_S} {T m T1 m1 n : Nat} {c : Nat} (hc : c < 6) {h : Nat} (hh : h < 5) {b : Nat} (hb : b < 4) : MC l yX3_whyNot wsX3_whyNot rmX3_whyNot false [.ref xp, .int (nI (c)), .int (nI (h)), .int (nI (b))] (Ω (row q f) rt R T m R1 T1 m1 g n) (some (.int (s_why f h b))) (Ω (row q f) rt R T m R1 T1 m1 g n) := by
  refine mj_MC (cc := cX3_whyNot) (nl := 4) (ret := (some .int)) (plainFor_of_name (by decide)) rfl (⟨_, rfl, rfl⟩) (Nat.le_of_ble_eq_true rfl) ?_
  show GG l cX3_whyNot MX3_whyNot false (.inl ((some (.int (s_why f h b))), Ω (row q f) rt R T m R1 T1 m1 g n)) 0 [some (.ref xp), some (.int (nI (c))), some (.int (nI (h))), some (.int (nI (b)))] [] (Ω (row q f) rt R T m R1 T1 m1 g n) 0 0
  refine G_iload_n dX3_whyNot_0 rfl ?_
  refine G_bipush (v := 6) dX3_whyNot_1 (by decide) ?_
  refine G_callSv dX3_whyNot_3 kX3_whyNot_X3_requireIndex ⟨rfl, rfl⟩ ⟨Nat.zero_le _, Nat.zero_le _⟩ (c_reqIndex (a := c) (b := 6) (by omega) (by omega)) rfl rfl rfl ?_
  refine G_iload_n dX3_whyNot_6 rfl ?_
  refine G_iconst (v := 5) dX3_whyNot_7 (by decide) ?_
  refine G_callSv dX3_whyNot_8 kX3_whyNot_X3_requireIndex ⟨rfl, rfl⟩ ⟨Nat.zero_le _, Nat.zero_le _⟩ (c_reqIndex (a := h) (b := 5) (by omega) (by omega)) rfl rfl rfl ?_
  refine G_iload_n dX3_whyNot_11 rfl ?_
  refine G_iconst (v := 4) dX3_whyNot_12 (by decide) ?_
  refine G_callSv dX3_whyNot_13 kX3_whyNot_X3_requireIndex ⟨rfl, rfl⟩ ⟨Nat.zero_le _, Nat.zero_le _⟩ (c_reqIndex (a := b) (b := 4) (by omega) (by omega)) rfl rfl rfl ?_
  refine G_aload_n dX3_whyNot_16 rfl ?_
  refine G_getf dX3_whyNot_17 fX3_whyNot_12 (hΩ.1 _ _ _ _ _ _ _ _ _ _) (rfl) ?_
  refine G_iload_n dX3_whyNot_20 rfl ?_
  refine G_iload_n dX3_whyNot_21 rfl ?_
  refine G_callVi dX3_whyNot_22 kX3_whyNot_X0_reasonAgainst ⟨rfl, rfl⟩ ⟨Nat.zero_le _, Nat.zero_le _⟩ (c_reasonAgainst ((hΩ.2.1 rt R1 T1 m1 g n).lv R T m) (h := h) (b := b) (by omega) (by omega)) rfl rfl ((((hΩ.2.1 rt R1 T1 m1 g n).lv R T m) _).1) rfl rfl ?_
  exact G_iret dX3_whyNot_25 ⟨Nat.zero_le _, Nat.zero_le _⟩ (rfl)
theorem x_rain (hΩ : CV xp lp ap tp up hp rp kp sp yp zp Ω) {q f rt R R1 g : mj_S} {T m T1 m1 n : Nat} {d si : Nat} (hd : d < 2147483648) (hsi : f 2 = nI si) (hsi9 : si ≤ 9) : MC l yX3_rain wsX3_rain rmX3_rain false [.ref xp, .int (nI (d))] (Ω (row q f) rt R T m R1 T1 m1 g n) (some (.int (nI (s_rain f d)))) (Ω (row q f) rt R T m R1 T1 m1 g n) := by
  refine mj_MC (cc := cX3_rain) (nl := 2) (ret := (some .int)) (plainFor_of_name (by decide)) rfl (⟨_, rfl, rfl⟩) (Nat.le_of_ble_eq_true rfl) ?_
  show GG l cX3_rain MX3_rain false (.inl ((some (.int (nI (s_rain f d)))), Ω (row q f) rt R T m R1 T1 m1 g n)) 0 [some (.ref xp), some (.int (nI (d)))] [] (Ω (row q f) rt R T m R1 T1 m1 g n) 0 0
  refine G_iload_n dX3_rain_0 rfl ?_
  refine G_if_ltN (a := d) 8 dX3_rain_1 (by decide) (by omega) ?_
  refine G_iconst (v := 1) dX3_rain_4 (by decide) ?_
  refine G_goto 9 dX3_rain_5 (by decide) ?_
  refine G_callSv dX3_rain_9 kX3_rain_X3_requireArgument ⟨rfl, rfl⟩ ⟨Nat.zero_le _, Nat.zero_le _⟩ (c_reqArgument) rfl rfl rfl ?_
  refine G_aload_n dX3_rain_12 rfl ?_
  refine G_getf dX3_rain_13 fX3_rain_12 (hΩ.1 _ _ _ _ _ _ _ _ _ _) (rfl) ?_
  refine G_iload_n dX3_rain_16 rfl ?_
  refine G_callVi dX3_rain_17 kX3_rain_X0_rainOf ⟨rfl, rfl⟩ ⟨Nat.zero_le _, Nat.zero_le _⟩ (c_rainOf ((hΩ.2.1 rt R1 T1 m1 g n).lv R T m) (d := d) (sg := si) (by omega) hsi hsi9) rfl rfl ((((hΩ.2.1 rt R1 T1 m1 g n).lv R T m) _).1) rfl rfl ?_
  exact G_iret dX3_rain_20 ⟨Nat.zero_le _, Nat.zero_le _⟩ (rfl)
theorem x_count (hΩ : CV xp lp ap tp up hp rp kp sp yp zp Ω) {q f rt R R1 g : mj_S} {T m T1 m1 n : Nat} {k : Nat} (hk : k < 12) : MC l yX3_count wsX3_count rmX3_count false [.ref xp, .int (nI (k))] (Ω (row q f) rt R T m R1 T1 m1 g n) (some (.int (s_ofA f k))) (Ω (row q f) rt R T m R1 T1 m1 g n) := by
  refine mj_MC (cc := cX3_count) (nl := 2) (ret := (some .int)) (plainFor_of_name (by decide)) rfl (⟨_, rfl, rfl⟩) (Nat.le_of_ble_eq_true rfl) ?_
  show GG l cX3_count MX3_count false (.inl ((some (.int (s_ofA f k))), Ω (row q f) rt R T m R1 T1 m1 g n)) 0 [some (.ref xp), some (.int (nI (k)))] [] (Ω (row q f) rt R T m R1 T1 m1 g n) 0 0
  refine G_iload_n dX3_count_0 rfl ?_
  refine G_iconst (v := 0) dX3_count_1 (by decide) ?_
  refine G_bipush (v := 12) dX3_count_2 (by decide) ?_
  refine G_callSv dX3_count_4 kX3_count_X3_requireRange ⟨rfl, rfl⟩ ⟨Nat.zero_le _, Nat.zero_le _⟩ (c_reqRange (v := k) (a := 0) (b := 12) (by omega) (by omega) (by omega)) rfl rfl rfl ?_
  refine G_iload_n dX3_count_7 rfl ?_
  refine G_bipush (v := 12) dX3_count_8 (by decide) ?_
  refine G_icmp_neN (a := k) (c := 12) 23 dX3_count_10 (by decide) (by omega) (fun c10 => ?_) (fun c10 => ?_)
  · refine G_aload_n dX3_count_23 rfl ?_
    refine G_getf dX3_count_24 fX3_count_12 (hΩ.1 _ _ _ _ _ _ _ _ _ _) (rfl) ?_
    refine G_iload_n dX3_count_27 rfl ?_
    refine G_callVi dX3_count_28 kX3_count_X0_ofAll ⟨rfl, rfl⟩ ⟨Nat.zero_le _, Nat.zero_le _⟩ (c_ofAll ((hΩ.2.1 rt R1 T1 m1 g n).lv R T m) (w := k) (by omega)) rfl rfl ((((hΩ.2.1 rt R1 T1 m1 g n).lv R T m) _).1) rfl rfl ?_
    exact G_iret dX3_count_31 ⟨Nat.zero_le _, Nat.zero_le _⟩ (rfl)
  · exact (show False by omega).elim
theorem x_count12 (hΩ : CV xp lp ap tp up hp rp kp sp yp zp Ω) {q f rt R R1 g : mj_S} {T m T1 m1 n : Nat} : MC l yX3_count wsX3_count rmX3_count false [.ref xp, .int 12] (Ω (row q f) rt R T m R1 T1 m1 g n) (some (.int (nI m))) (Ω (row q f) rt R T m R1 T1 m1 g n) := by
  refine mj_MC (cc := cX3_count) (nl := 2) (ret := (some .int)) (plainFor_of_name (by decide)) rfl (⟨_, rfl, rfl⟩) (Nat.le_of_ble_eq_true rfl) ?_
  show GG l cX3_count MX3_count false (.inl ((some (.int (nI m))), Ω (row q f) rt R T m R1 T1 m1 g n)) 0 [some (.ref xp), some (.int 12)] [] (Ω (row q f) rt R T m R1 T1 m1 g n) 0 0
  refine G_iload_n dX3_count_0 rfl ?_
  refine G_iconst (v := 0) dX3_count_1 (by decide) ?_
  refine G_bipush (v := 12) dX3_count_2 (by decide) ?_
  refine G_callSv dX3_count_4 kX3_count_X3_requireRange ⟨rfl, rfl⟩ ⟨Nat.zero_le _, Nat.zero_le _⟩ (c_reqRange (v := 12) (a := 0) (b := 12) (by omega) (by omega) (by omega)) rfl rfl rfl ?_
  refine G_iload_n dX3_count_7 rfl ?_
  refine G_bipush (v := 12) dX3_count_8 (by decide) ?_
  refine G_icmp_neN (a := 12) (c := 12) 23 dX3_count_10 (by decide) (by omega) (fun c10 => ?_) (fun c10 => ?_)
  · exact (show False by omega).elim
  · refine G_aload_n dX3_count_13 rfl ?_
    refine G_getf dX3_count_14 fX3_count_24 (hΩ.1 _ _ _ _ _ _ _ _ _ _) (rfl) ?_
    refine G_callVi dX3_count_17 kX3_count_X1_size ⟨rfl, rfl⟩ ⟨Nat.zero_le _, Nat.zero_le _⟩ (c_size (hΩ.2.1 rt R1 T1 m1 g n)) rfl rfl (((hΩ.2.1 rt R1 T1 m1 g n).2 _ _ _ _).1) rfl rfl ?_
    refine G_goto 31 dX3_count_20 (by decide) ?_
    exact G_iret dX3_count_31 ⟨Nat.zero_le _, Nat.zero_le _⟩ (rfl)
theorem x_dryness (hΩ : CV xp lp ap tp up hp rp kp sp yp zp Ω) {q f rt R R1 g : mj_S} {T m T1 m1 n : Nat} (hv : vt f) : MC l yX3_dryness wsX3_dryness rmX3_dryness false [.ref xp] (Ω (row q f) rt R T m R1 T1 m1 g n) (some (.double (s_share f))) (Ω (row q f) rt R T m R1 T1 m1 g n) := by
  refine mj_MC (cc := cX3_dryness) (nl := 2) (ret := (some .double)) (plainFor_of_name (by decide)) rfl (rfl) (Nat.le_of_ble_eq_true rfl) ?_
  show GG l cX3_dryness MX3_dryness false (.inl ((some (.double (s_share f))), Ω (row q f) rt R T m R1 T1 m1 g n)) 0 [some (.ref xp), none] [] (Ω (row q f) rt R T m R1 T1 m1 g n) 0 0
  refine G_aload_n dX3_dryness_0 rfl ?_
  refine G_getf dX3_dryness_1 fX3_dryness_12 (hΩ.1 _ _ _ _ _ _ _ _ _ _) (rfl) ?_
  refine G_callVi dX3_dryness_4 kX3_dryness_X0_turvesOnBanks ⟨rfl, rfl⟩ ⟨Nat.zero_le _, Nat.zero_le _⟩ (c_turvesOnBanks ((hΩ.2.1 rt R1 T1 m1 g n).lv R T m)) rfl rfl ((((hΩ.2.1 rt R1 T1 m1 g n).lv R T m) _).1) rfl rfl ?_
  refine G_istore_n dX3_dryness_7 rfl (L' := [some (.ref xp), some (.int (s_tvA f))]) rfl ?_
  refine G_iload_n dX3_dryness_8 rfl ?_
  refine G_if_ne 14 dX3_dryness_9 (by decide) (fun c9 => ?_) (fun c9 => ?_)
  · refine G_aload_n dX3_dryness_14 rfl ?_
    refine G_getf dX3_dryness_15 fX3_dryness_12 (hΩ.1 _ _ _ _ _ _ _ _ _ _) (rfl) ?_
    refine G_bipush (v := 117) dX3_dryness_18 (by decide) ?_
    refine G_bipush (v := 20) dX3_dryness_20 (by decide) ?_
    refine G_callVi dX3_dryness_22 kX3_dryness_X0_sum ⟨rfl, rfl⟩ ⟨Nat.zero_le _, Nat.zero_le _⟩ (c_sumH ((hΩ.2.1 rt R1 T1 m1 g n).lv R T m) (a := 117) (a' := 113) (m := 20) (by omega) (by omega)) rfl rfl ((((hΩ.2.1 rt R1 T1 m1 g n).lv R T m) _).1) rfl rfl ?_
    refine G_i2d dX3_dryness_25 ?_
    refine G_iload_n dX3_dryness_26 rfl ?_
    refine G_i2d dX3_dryness_27 ?_
    refine G_ddiv dX3_dryness_28 (share_n hv c9) ?_
    exact G_dret dX3_dryness_29 ⟨Nat.zero_le _, Nat.zero_le _⟩ (by rw [s_share, if_neg c9])
  · refine G_dconst1 dX3_dryness_12 ?_
    exact G_dret dX3_dryness_13 ⟨Nat.zero_le _, Nat.zero_le _⟩ (by rw [s_share, if_pos c9])
end XA

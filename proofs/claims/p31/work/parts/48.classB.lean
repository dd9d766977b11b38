/-! THE CLASS: more calls that go well -/
def s_und (h : Nat) : Nat → mj_S → mj_S
  | 0, f => f
  | d + 1, f => if s_sh f h ≤ 0 then f else s_und h d (s_day f).1
theorem s_sh_0 {f : mj_S} {h : Nat} : s_sh f h = 0 ↔ s_sh f h ≤ 0 := by
  unfold s_sh mx0
  split
  · exact ⟨fun _ => Int32.le_refl _, fun _ => rfl⟩
  · rename_i z
    exact ⟨fun e => by rw [e]; exact Int32.le_refl _, fun e => Int32.le_antisymm e (Int32.not_lt.mp z)⟩
def s_btr1 (q f : mj_S) (c h : Nat) (b : Nat) (a : mj_S) : mj_S := if s_why f h b = 0 then row q (s_days 20 (s_setw f c (nI h) (nI b))).1 else a
def pvT (T : Nat) : Nat := if 0 < T then T - 1 else 5
section XB
variable {l : Launch} {xp lp ap tp up hp rp kp sp yp zp : Nat} {Ω : CT}
theorem c_reqHolderN {w : mj_W} : MC l yX3_requireHolder wsX3_requireHolder rmX3_requireHolder false [.int (-1)] (w) none (w) := by
  refine mj_MC (cc := cX3_requireHolder) (nl := 1) (ret := none) (plainFor_of_name (by decide)) rfl (rfl) (Nat.le_of_ble_eq_true rfl) ?_
  show GG l cX3_requireHolder MX3_requireHolder false (.inl (none, w)) 0 [some (.int (-1))] [] (w) 0 0
  refine G_iload_n dX3_requireHolder_0 rfl ?_
  refine G_iconst (v := (-1)) dX3_requireHolder_1 (by decide) ?_
  refine G_icmp_eq 10 dX3_requireHolder_2 (by decide) (fun c2 => ?_) (fun c2 => ?_)
  · exact G_vret dX3_requireHolder_10 ⟨Nat.zero_le _, Nat.zero_le _⟩ (rfl)
  · exact absurd rfl c2
theorem c_reqHolder {w : mj_W} {h : Nat} (hh : h < 5) : MC l yX3_requireHolder wsX3_requireHolder rmX3_requireHolder false [.int (nI (h))] (w) none (w) := by
  refine mj_MC (cc := cX3_requireHolder) (nl := 1) (ret := none) (plainFor_of_name (by decide)) rfl (rfl) (Nat.le_of_ble_eq_true rfl) ?_
  show GG l cX3_requireHolder MX3_requireHolder false (.inl (none, w)) 0 [some (.int (nI (h)))] [] (w) 0 0
  refine G_iload_n dX3_requireHolder_0 rfl ?_
  refine G_iconst (v := (-1)) dX3_requireHolder_1 (by decide) ?_
  refine G_icmp_eq 10 dX3_requireHolder_2 (by decide) (fun c2 => ?_) (fun c2 => ?_)
  · exact absurd c2 (nI_m1 (by omega))
  · refine G_iload_n dX3_requireHolder_5 rfl ?_
    refine G_iconst (v := 5) dX3_requireHolder_6 (by decide) ?_
    refine G_callSv dX3_requireHolder_7 kX3_requireHolder_X3_requireIndex ⟨rfl, rfl⟩ ⟨Nat.zero_le _, Nat.zero_le _⟩ (c_reqIndex (a := h) (b := 5) (by omega) (by omega)) rfl rfl rfl ?_
    exact G_vret dX3_requireHolder_10 ⟨Nat.zero_le _, Nat.zero_le _⟩ (rfl)
theorem x_work (hΩ : CV xp lp ap tp up hp rp kp sp yp zp Ω) {q f rt R R1 g : mj_S} {T m T1 m1 n : Nat} (hT : T < 6) (hm : m ≤ 6) {c : Nat} (hc : c < 6) {h : Nat} (hh : h < 5) {b : Nat} (hb : b < 4) (hr : s_why f h b = 0) : MC l yX3_work wsX3_work rmX3_work false [.ref xp, .int (nI (c)), .int (nI (h)), .int (nI (b))] (Ω (row q f) rt R T m R1 T1 m1 g n) (some (.int (s_cnt (s_setw f c (nI h) (nI b)) (nI h) (nI b)))) (Ω (row q (s_setw f c (nI h) (nI b))) rt (s_blit (row q f) (161 * nxT T) 161 R) (nxT T) (nxM m) R1 T1 m1 g n) := by
  refine mj_MC (cc := cX3_work) (nl := 4) (ret := (some .int)) (plainFor_of_name (by decide)) rfl (⟨_, rfl, rfl⟩) (Nat.le_of_ble_eq_true rfl) ?_
  show GG l cX3_work MX3_work false (.inl ((some (.int (s_cnt (s_setw f c (nI h) (nI b)) (nI h) (nI b)))), Ω (row q (s_setw f c (nI h) (nI b))) rt (s_blit (row q f) (161 * nxT T) 161 R) (nxT T) (nxM m) R1 T1 m1 g n)) 0 [some (.ref xp), some (.int (nI (c))), some (.int (nI (h))), some (.int (nI (b)))] [] (Ω (row q f) rt R T m R1 T1 m1 g n) 0 0
  refine G_iload_n dX3_work_0 rfl ?_
  refine G_bipush (v := 6) dX3_work_1 (by decide) ?_
  refine G_callSv dX3_work_3 kX3_work_X3_requireIndex ⟨rfl, rfl⟩ ⟨Nat.zero_le _, Nat.zero_le _⟩ (c_reqIndex (a := c) (b := 6) (by omega) (by omega)) rfl rfl rfl ?_
  refine G_iload_n dX3_work_6 rfl ?_
  refine G_iconst (v := 5) dX3_work_7 (by decide) ?_
  refine G_callSv dX3_work_8 kX3_work_X3_requireIndex ⟨rfl, rfl⟩ ⟨Nat.zero_le _, Nat.zero_le _⟩ (c_reqIndex (a := h) (b := 5) (by omega) (by omega)) rfl rfl rfl ?_
  refine G_iload_n dX3_work_11 rfl ?_
  refine G_iconst (v := 4) dX3_work_12 (by decide) ?_
  refine G_callSv dX3_work_13 kX3_work_X3_requireIndex ⟨rfl, rfl⟩ ⟨Nat.zero_le _, Nat.zero_le _⟩ (c_reqIndex (a := b) (b := 4) (by omega) (by omega)) rfl rfl rfl ?_
  refine G_aload_n dX3_work_16 rfl ?_
  refine G_getf dX3_work_17 fX3_work_12 (hΩ.1 _ _ _ _ _ _ _ _ _ _) (rfl) ?_
  refine G_iload_n dX3_work_20 rfl ?_
  refine G_iload_n dX3_work_21 rfl ?_
  refine G_callVi dX3_work_22 kX3_work_X0_reasonAgainst ⟨rfl, rfl⟩ ⟨Nat.zero_le _, Nat.zero_le _⟩ (c_reasonAgainst ((hΩ.2.1 rt R1 T1 m1 g n).lv R T m) (h := h) (b := b) (by omega) (by omega)) rfl rfl ((((hΩ.2.1 rt R1 T1 m1 g n).lv R T m) _).1) rfl rfl ?_
  refine G_if_ne 32 dX3_work_25 (by decide) (fun c25 => ?_) (fun c25 => ?_)
  · exact absurd hr c25
  · refine G_iconst (v := 1) dX3_work_28 (by decide) ?_
    refine G_goto 33 dX3_work_29 (by decide) ?_
    refine G_callSv dX3_work_33 kX3_work_X3_requireState ⟨rfl, rfl⟩ ⟨Nat.zero_le _, Nat.zero_le _⟩ (c_reqState) rfl rfl rfl ?_
    refine G_aload_n dX3_work_36 rfl ?_
    refine G_getf dX3_work_37 fX3_work_24 (hΩ.1 _ _ _ _ _ _ _ _ _ _) (rfl) ?_
    refine G_aload_n dX3_work_40 rfl ?_
    refine G_getf dX3_work_41 fX3_work_12 (hΩ.1 _ _ _ _ _ _ _ _ _ _) (rfl) ?_
    refine G_callVv dX3_work_44 kX3_work_X1_push ⟨rfl, rfl⟩ ⟨Nat.zero_le _, Nat.zero_le _⟩ (c_push (hΩ.2.1 rt R1 T1 m1 g n) (by omega) (by omega)) rfl rfl (((hΩ.2.1 rt R1 T1 m1 g n).2 _ _ _ _).1) rfl rfl ?_
    refine G_aload_n dX3_work_47 rfl ?_
    refine G_getf dX3_work_48 fX3_work_12 (hΩ.1 _ _ _ _ _ _ _ _ _ _) (rfl) ?_
    refine G_iload_n dX3_work_51 rfl ?_
    refine G_iload_n dX3_work_52 rfl ?_
    refine G_iload_n dX3_work_53 rfl ?_
    refine G_callVv dX3_work_54 kX3_work_X0_setToWork ⟨rfl, rfl⟩ ⟨Nat.zero_le _, Nat.zero_le _⟩ (c_setToWork ((hΩ.2.1 rt R1 T1 m1 g n).lv (s_blit (row q f) (161 * nxT T) 161 R) (nxT T) (nxM m)) (c := c) (by omega)) rfl rfl ((((hΩ.2.1 rt R1 T1 m1 g n).lv (s_blit (row q f) (161 * nxT T) 161 R) (nxT T) (nxM m)) _).1) rfl rfl ?_
    refine G_aload_n dX3_work_57 rfl ?_
    refine G_getf dX3_work_58 fX3_work_12 (hΩ.1 _ _ _ _ _ _ _ _ _ _) (rfl) ?_
    refine G_iload_n dX3_work_61 rfl ?_
    refine G_iload_n dX3_work_62 rfl ?_
    refine G_callVi dX3_work_63 kX3_work_X0_cuttersAt ⟨rfl, rfl⟩ ⟨Nat.zero_le _, Nat.zero_le _⟩ (c_cuttersAt ((hΩ.2.1 rt R1 T1 m1 g n).lv (s_blit (row q f) (161 * nxT T) 161 R) (nxT T) (nxM m))) rfl rfl ((((hΩ.2.1 rt R1 T1 m1 g n).lv (s_blit (row q f) (161 * nxT T) 161 R) (nxT T) (nxM m)) _).1) rfl rfl ?_
    exact G_iret dX3_work_66 ⟨Nat.zero_le _, Nat.zero_le _⟩ (rfl)
theorem x_giveN (hΩ : CV xp lp ap tp up hp rp kp sp yp zp Ω) {q f rt R R1 g : mj_S} {T m T1 m1 n : Nat} (hT : T < 6) (hm : m ≤ 6) {h : Nat} (hh : h < 5) {b : Nat} (hb : b < 4) {v : Nat} (hv : 1 ≤ v ∧ v ≤ 12) (hq : nI v ≤ q b) : MC l yX3_give wsX3_give rmX3_give false [.ref xp, .int (-1), .int (nI (h)), .int (nI (b)), .int (nI (v))] (Ω (row q f) rt R T m R1 T1 m1 g n) (some (.int ((upd f (53 + b + 4 * h) (f (53 + b + 4 * h) + nI v)) (53 + b + 4 * h)))) (Ω (row (upd q b (q b + (-(nI (v))))) (upd f (53 + b + 4 * h) (f (53 + b + 4 * h) + nI v))) rt (s_blit (row q f) (161 * nxT T) 161 R) (nxT T) (nxM m) R1 T1 m1 g n) := by
  refine mj_MC (cc := cX3_give) (nl := 7) (ret := (some .int)) (plainFor_of_name (by decide)) rfl (⟨_, rfl, rfl⟩) (Nat.le_of_ble_eq_true rfl) ?_
  show GG l cX3_give MX3_give false (.inl ((some (.int ((upd f (53 + b + 4 * h) (f (53 + b + 4 * h) + nI v)) (53 + b + 4 * h)))), Ω (row (upd q b (q b + (-(nI (v))))) (upd f (53 + b + 4 * h) (f (53 + b + 4 * h) + nI v))) rt (s_blit (row q f) (161 * nxT T) 161 R) (nxT T) (nxM m) R1 T1 m1 g n)) 0 [some (.ref xp), some (.int (-1)), some (.int (nI (h))), some (.int (nI (b))), some (.int (nI (v))), none, none] [] (Ω (row q f) rt R T m R1 T1 m1 g n) 0 0
  refine G_iload_n dX3_give_0 rfl ?_
  refine G_callSv dX3_give_1 kX3_give_X3_requireHolder ⟨rfl, rfl⟩ ⟨Nat.zero_le _, Nat.zero_le _⟩ (c_reqHolderN) rfl rfl rfl ?_
  refine G_iload_n dX3_give_4 rfl ?_
  refine G_callSv dX3_give_5 kX3_give_X3_requireHolder ⟨rfl, rfl⟩ ⟨Nat.zero_le _, Nat.zero_le _⟩ (c_reqHolder (h := h) (by omega)) rfl rfl rfl ?_
  refine G_iload_n dX3_give_8 rfl ?_
  refine G_iconst (v := 4) dX3_give_9 (by decide) ?_
  refine G_callSv dX3_give_10 kX3_give_X3_requireIndex ⟨rfl, rfl⟩ ⟨Nat.zero_le _, Nat.zero_le _⟩ (c_reqIndex (a := b) (b := 4) (by omega) (by omega)) rfl rfl rfl ?_
  refine G_iload dX3_give_13 rfl ?_
  refine G_iconst (v := 1) dX3_give_15 (by decide) ?_
  refine G_bipush (v := 12) dX3_give_16 (by decide) ?_
  refine G_callSv dX3_give_18 kX3_give_X3_requireRange ⟨rfl, rfl⟩ ⟨Nat.zero_le _, Nat.zero_le _⟩ (c_reqRange (v := v) (a := 1) (b := 12) (by omega) (by omega) (by omega)) rfl rfl rfl ?_
  refine G_iload_n dX3_give_21 rfl ?_
  refine G_iload_n dX3_give_22 rfl ?_
  refine G_icmp_eq 30 dX3_give_23 (by decide) (fun c23 => ?_) (fun c23 => ?_)
  · exact absurd c23.symm (nI_m1 (by omega))
  · refine G_iconst (v := 1) dX3_give_26 (by decide) ?_
    refine G_goto 31 dX3_give_27 (by decide) ?_
    refine G_callSv dX3_give_31 kX3_give_X3_requireArgument ⟨rfl, rfl⟩ ⟨Nat.zero_le _, Nat.zero_le _⟩ (c_reqArgument) rfl rfl rfl ?_
    refine G_iload_n dX3_give_34 rfl ?_
    refine G_iload_n dX3_give_35 rfl ?_
    refine G_callSi dX3_give_36 kX3_give_X0_sharesPlace ⟨rfl, rfl⟩ ⟨Nat.zero_le _, Nat.zero_le _⟩ (c_sharesPlaceN (b := b) (by omega)) rfl rfl rfl ?_
    refine G_istore dX3_give_39 rfl (L' := [some (.ref xp), some (.int (-1)), some (.int (nI (h))), some (.int (nI (b))), some (.int (nI (v))), some (.int (nI (53 + b))), none]) rfl ?_
    refine G_iload_n dX3_give_41 rfl ?_
    refine G_iload_n dX3_give_42 rfl ?_
    refine G_callSi dX3_give_43 kX3_give_X0_sharesPlace ⟨rfl, rfl⟩ ⟨Nat.zero_le _, Nat.zero_le _⟩ (c_sharesPlace (h := h) (b := b) (by omega) (by omega)) rfl rfl rfl ?_
    refine G_istore dX3_give_46 rfl (L' := [some (.ref xp), some (.int (-1)), some (.int (nI (h))), some (.int (nI (b))), some (.int (nI (v))), some (.int (nI (53 + b))), some (.int (nI (57 + b + 4 * h)))]) rfl ?_
    refine G_aload_n dX3_give_48 rfl ?_
    refine G_getf dX3_give_49 fX3_give_12 (hΩ.1 _ _ _ _ _ _ _ _ _ _) (rfl) ?_
    refine G_iload dX3_give_52 rfl ?_
    refine G_callVi dX3_give_54 kX3_give_X0_at ⟨rfl, rfl⟩ ⟨Nat.zero_le _, Nat.zero_le _⟩ (c_atQ ((hΩ.2.1 rt R1 T1 m1 g n).lv R T m) (j := 53 + b) (i := b) (by omega) (by omega)) rfl rfl ((((hΩ.2.1 rt R1 T1 m1 g n).lv R T m) _).1) rfl rfl ?_
    refine G_iload dX3_give_57 rfl ?_
    refine G_icmp_lt 66 dX3_give_59 (by decide) (fun c59 => ?_) (fun c59 => ?_)
    · exact absurd c59 (Int32.not_lt.mpr hq)
    · refine G_iconst (v := 1) dX3_give_62 (by decide) ?_
      refine G_goto 67 dX3_give_63 (by decide) ?_
      refine G_callSv dX3_give_67 kX3_give_X3_requireState ⟨rfl, rfl⟩ ⟨Nat.zero_le _, Nat.zero_le _⟩ (c_reqState) rfl rfl rfl ?_
      refine G_aload_n dX3_give_70 rfl ?_
      refine G_getf dX3_give_71 fX3_give_24 (hΩ.1 _ _ _ _ _ _ _ _ _ _) (rfl) ?_
      refine G_aload_n dX3_give_74 rfl ?_
      refine G_getf dX3_give_75 fX3_give_12 (hΩ.1 _ _ _ _ _ _ _ _ _ _) (rfl) ?_
      refine G_callVv dX3_give_78 kX3_give_X1_push ⟨rfl, rfl⟩ ⟨Nat.zero_le _, Nat.zero_le _⟩ (c_push (hΩ.2.1 rt R1 T1 m1 g n) (by omega) (by omega)) rfl rfl (((hΩ.2.1 rt R1 T1 m1 g n).2 _ _ _ _).1) rfl rfl ?_
      refine G_aload_n dX3_give_81 rfl ?_
      refine G_getf dX3_give_82 fX3_give_12 (hΩ.1 _ _ _ _ _ _ _ _ _ _) (rfl) ?_
      refine G_iload dX3_give_85 rfl ?_
      refine G_iload dX3_give_87 rfl ?_
      refine G_ineg dX3_give_89 ?_
      obtain ⟨f1, ef1⟩ : ∃ z : mj_S, z = upd q (b) (q (b) + (-(nI (v)))) := ⟨_, rfl⟩
      refine G_callVv dX3_give_90 kX3_give_X0_add ⟨rfl, rfl⟩ ⟨Nat.zero_le _, Nat.zero_le _⟩ (c_addQ ((hΩ.2.1 rt R1 T1 m1 g n).lv (s_blit (row q f) (161 * nxT T) 161 R) (nxT T) (nxM m)) (j := 53 + b) (i := b) (by omega) (by omega) ef1) rfl rfl ((((hΩ.2.1 rt R1 T1 m1 g n).lv (s_blit (row q f) (161 * nxT T) 161 R) (nxT T) (nxM m)) _).1) rfl rfl ?_
      refine G_aload_n dX3_give_93 rfl ?_
      refine G_getf dX3_give_94 fX3_give_12 (hΩ.1 _ _ _ _ _ _ _ _ _ _) (rfl) ?_
      refine G_iload dX3_give_97 rfl ?_
      refine G_iload dX3_give_99 rfl ?_
      obtain ⟨f2, ef2⟩ : ∃ z : mj_S, z = upd f (53 + b + 4 * h) (f (53 + b + 4 * h) + (nI (v))) := ⟨_, rfl⟩
      refine G_callVv dX3_give_101 kX3_give_X0_add ⟨rfl, rfl⟩ ⟨Nat.zero_le _, Nat.zero_le _⟩ (c_addH ((hΩ.2.1 rt R1 T1 m1 g n).lv (s_blit (row q f) (161 * nxT T) 161 R) (nxT T) (nxM m)) (j := 57 + b + 4 * h) (j' := 53 + b + 4 * h) (by omega) (by omega) ef2) rfl rfl ((((hΩ.2.1 rt R1 T1 m1 g n).lv (s_blit (row q f) (161 * nxT T) 161 R) (nxT T) (nxM m)) _).1) rfl rfl ?_
      refine G_aload_n dX3_give_104 rfl ?_
      refine G_getf dX3_give_105 fX3_give_12 (hΩ.1 _ _ _ _ _ _ _ _ _ _) (rfl) ?_
      refine G_iload dX3_give_108 rfl ?_
      refine G_callVi dX3_give_110 kX3_give_X0_at ⟨rfl, rfl⟩ ⟨Nat.zero_le _, Nat.zero_le _⟩ (c_atH ((hΩ.2.1 rt R1 T1 m1 g n).lv (s_blit (row q f) (161 * nxT T) 161 R) (nxT T) (nxM m)) (j := 57 + b + 4 * h) (j' := 53 + b + 4 * h) (by omega) (by omega)) rfl rfl ((((hΩ.2.1 rt R1 T1 m1 g n).lv (s_blit (row q f) (161 * nxT T) 161 R) (nxT T) (nxM m)) _).1) rfl rfl ?_
      exact G_iret dX3_give_113 ⟨Nat.zero_le _, Nat.zero_le _⟩ (by subst ef2; subst ef1; rfl)
theorem x_giveT (hΩ : CV xp lp ap tp up hp rp kp sp yp zp Ω) {q f rt R R1 g : mj_S} {T m T1 m1 n : Nat} (hT : T < 6) (hm : m ≤ 6) {g0 : Nat} (hg : g0 < 5) {b : Nat} (hb : b < 4) {v : Nat} (hv : 1 ≤ v ∧ v ≤ 12) (hq : nI v ≤ f (53 + b + 4 * g0)) : MC l yX3_give wsX3_give rmX3_give false [.ref xp, .int (nI (g0)), .int (-1), .int (nI (b)), .int (nI (v))] (Ω (row q f) rt R T m R1 T1 m1 g n) (some (.int ((upd q b (q b + nI v)) b))) (Ω (row (upd q b (q b + nI v)) (upd f (53 + b + 4 * g0) (f (53 + b + 4 * g0) + (-(nI (v)))))) rt (s_blit (row q f) (161 * nxT T) 161 R) (nxT T) (nxM m) R1 T1 m1 g n) := by
  refine mj_MC (cc := cX3_give) (nl := 7) (ret := (some .int)) (plainFor_of_name (by decide)) rfl (⟨_, rfl, rfl⟩) (Nat.le_of_ble_eq_true rfl) ?_
  show GG l cX3_give MX3_give false (.inl ((some (.int ((upd q b (q b + nI v)) b))), Ω (row (upd q b (q b + nI v)) (upd f (53 + b + 4 * g0) (f (53 + b + 4 * g0) + (-(nI (v)))))) rt (s_blit (row q f) (161 * nxT T) 161 R) (nxT T) (nxM m) R1 T1 m1 g n)) 0 [some (.ref xp), some (.int (nI (g0))), some (.int (-1)), some (.int (nI (b))), some (.int (nI (v))), none, none] [] (Ω (row q f) rt R T m R1 T1 m1 g n) 0 0
  refine G_iload_n dX3_give_0 rfl ?_
  refine G_callSv dX3_give_1 kX3_give_X3_requireHolder ⟨rfl, rfl⟩ ⟨Nat.zero_le _, Nat.zero_le _⟩ (c_reqHolder (h := g0) (by omega)) rfl rfl rfl ?_
  refine G_iload_n dX3_give_4 rfl ?_
  refine G_callSv dX3_give_5 kX3_give_X3_requireHolder ⟨rfl, rfl⟩ ⟨Nat.zero_le _, Nat.zero_le _⟩ (c_reqHolderN) rfl rfl rfl ?_
  refine G_iload_n dX3_give_8 rfl ?_
  refine G_iconst (v := 4) dX3_give_9 (by decide) ?_
  refine G_callSv dX3_give_10 kX3_give_X3_requireIndex ⟨rfl, rfl⟩ ⟨Nat.zero_le _, Nat.zero_le _⟩ (c_reqIndex (a := b) (b := 4) (by omega) (by omega)) rfl rfl rfl ?_
  refine G_iload dX3_give_13 rfl ?_
  refine G_iconst (v := 1) dX3_give_15 (by decide) ?_
  refine G_bipush (v := 12) dX3_give_16 (by decide) ?_
  refine G_callSv dX3_give_18 kX3_give_X3_requireRange ⟨rfl, rfl⟩ ⟨Nat.zero_le _, Nat.zero_le _⟩ (c_reqRange (v := v) (a := 1) (b := 12) (by omega) (by omega) (by omega)) rfl rfl rfl ?_
  refine G_iload_n dX3_give_21 rfl ?_
  refine G_iload_n dX3_give_22 rfl ?_
  refine G_icmp_eq 30 dX3_give_23 (by decide) (fun c23 => ?_) (fun c23 => ?_)
  · exact absurd c23 (nI_m1 (by omega))
  · refine G_iconst (v := 1) dX3_give_26 (by decide) ?_
    refine G_goto 31 dX3_give_27 (by decide) ?_
    refine G_callSv dX3_give_31 kX3_give_X3_requireArgument ⟨rfl, rfl⟩ ⟨Nat.zero_le _, Nat.zero_le _⟩ (c_reqArgument) rfl rfl rfl ?_
    refine G_iload_n dX3_give_34 rfl ?_
    refine G_iload_n dX3_give_35 rfl ?_
    refine G_callSi dX3_give_36 kX3_give_X0_sharesPlace ⟨rfl, rfl⟩ ⟨Nat.zero_le _, Nat.zero_le _⟩ (c_sharesPlace (h := g0) (b := b) (by omega) (by omega)) rfl rfl rfl ?_
    refine G_istore dX3_give_39 rfl (L' := [some (.ref xp), some (.int (nI (g0))), some (.int (-1)), some (.int (nI (b))), some (.int (nI (v))), some (.int (nI (57 + b + 4 * g0))), none]) rfl ?_
    refine G_iload_n dX3_give_41 rfl ?_
    refine G_iload_n dX3_give_42 rfl ?_
    refine G_callSi dX3_give_43 kX3_give_X0_sharesPlace ⟨rfl, rfl⟩ ⟨Nat.zero_le _, Nat.zero_le _⟩ (c_sharesPlaceN (b := b) (by omega)) rfl rfl rfl ?_
    refine G_istore dX3_give_46 rfl (L' := [some (.ref xp), some (.int (nI (g0))), some (.int (-1)), some (.int (nI (b))), some (.int (nI (v))), some (.int (nI (57 + b + 4 * g0))), some (.int (nI (53 + b)))]) rfl ?_
    refine G_aload_n dX3_give_48 rfl ?_
    refine G_getf dX3_give_49 fX3_give_12 (hΩ.1 _ _ _ _ _ _ _ _ _ _) (rfl) ?_
    refine G_iload dX3_give_52 rfl ?_
    refine G_callVi dX3_give_54 kX3_give_X0_at ⟨rfl, rfl⟩ ⟨Nat.zero_le _, Nat.zero_le _⟩ (c_atH ((hΩ.2.1 rt R1 T1 m1 g n).lv R T m) (j := 57 + b + 4 * g0) (j' := 53 + b + 4 * g0) (by omega) (by omega)) rfl rfl ((((hΩ.2.1 rt R1 T1 m1 g n).lv R T m) _).1) rfl rfl ?_
    refine G_iload dX3_give_57 rfl ?_
    refine G_icmp_lt 66 dX3_give_59 (by decide) (fun c59 => ?_) (fun c59 => ?_)
    · exact absurd c59 (Int32.not_lt.mpr hq)
    · refine G_iconst (v := 1) dX3_give_62 (by decide) ?_
      refine G_goto 67 dX3_give_63 (by decide) ?_
      refine G_callSv dX3_give_67 kX3_give_X3_requireState ⟨rfl, rfl⟩ ⟨Nat.zero_le _, Nat.zero_le _⟩ (c_reqState) rfl rfl rfl ?_
      refine G_aload_n dX3_give_70 rfl ?_
      refine G_getf dX3_give_71 fX3_give_24 (hΩ.1 _ _ _ _ _ _ _ _ _ _) (rfl) ?_
      refine G_aload_n dX3_give_74 rfl ?_
      refine G_getf dX3_give_75 fX3_give_12 (hΩ.1 _ _ _ _ _ _ _ _ _ _) (rfl) ?_
      refine G_callVv dX3_give_78 kX3_give_X1_push ⟨rfl, rfl⟩ ⟨Nat.zero_le _, Nat.zero_le _⟩ (c_push (hΩ.2.1 rt R1 T1 m1 g n) (by omega) (by omega)) rfl rfl (((hΩ.2.1 rt R1 T1 m1 g n).2 _ _ _ _).1) rfl rfl ?_
      refine G_aload_n dX3_give_81 rfl ?_
      refine G_getf dX3_give_82 fX3_give_12 (hΩ.1 _ _ _ _ _ _ _ _ _ _) (rfl) ?_
      refine G_iload dX3_give_85 rfl ?_
      refine G_iload dX3_give_87 rfl ?_
      refine G_ineg dX3_give_89 ?_
      obtain ⟨f1, ef1⟩ : ∃ z : mj_S, z = upd f (53 + b + 4 * g0) (f (53 + b + 4 * g0) + (-(nI (v)))) := ⟨_, rfl⟩
      refine G_callVv dX3_give_90 kX3_give_X0_add ⟨rfl, rfl⟩ ⟨Nat.zero_le _, Nat.zero_le _⟩ (c_addH ((hΩ.2.1 rt R1 T1 m1 g n).lv (s_blit (row q f) (161 * nxT T) 161 R) (nxT T) (nxM m)) (j := 57 + b + 4 * g0) (j' := 53 + b + 4 * g0) (by omega) (by omega) ef1) rfl rfl ((((hΩ.2.1 rt R1 T1 m1 g n).lv (s_blit (row q f) (161 * nxT T) 161 R) (nxT T) (nxM m)) _).1) rfl rfl ?_
      refine G_aload_n dX3_give_93 rfl ?_
      refine G_getf dX3_give_94 fX3_give_12 (hΩ.1 _ _ _ _ _ _ _ _ _ _) (rfl) ?_
      refine G_iload dX3_give_97 rfl ?_
      refine G_iload dX3_give_99 rfl ?_
      obtain ⟨f2, ef2⟩ : ∃ z : mj_S, z = upd q (b) (q (b) + (nI (v))) := ⟨_, rfl⟩
      refine G_callVv dX3_give_101 kX3_give_X0_add ⟨rfl, rfl⟩ ⟨Nat.zero_le _, Nat.zero_le _⟩ (c_addQ ((hΩ.2.1 rt R1 T1 m1 g n).lv (s_blit (row q f) (161 * nxT T) 161 R) (nxT T) (nxM m)) (j := 53 + b) (i := b) (by omega) (by omega) ef2) rfl rfl ((((hΩ.2.1 rt R1 T1 m1 g n).lv (s_blit (row q f) (161 * nxT T) 161 R) (nxT T) (nxM m)) _).1) rfl rfl ?_
      refine G_aload_n dX3_give_104 rfl ?_
      refine G_getf dX3_give_105 fX3_give_12 (hΩ.1 _ _ _ _ _ _ _ _ _ _) (rfl) ?_
      refine G_iload dX3_give_108 rfl ?_
      refine G_callVi dX3_give_110 kX3_give_X0_at ⟨rfl, rfl⟩ ⟨Nat.zero_le _, Nat.zero_le _⟩ (c_atQ ((hΩ.2.1 rt R1 T1 m1 g n).lv (s_blit (row q f) (161 * nxT T) 161 R) (nxT T) (nxM m)) (j := 53 + b) (i := b) (by omega) (by omega)) rfl rfl ((((hΩ.2.1 rt R1 T1 m1 g n).lv (s_blit (row q f) (161 * nxT T) 161 R) (nxT T) (nxM m)) _).1) rfl rfl ?_
      exact G_iret dX3_give_113 ⟨Nat.zero_le _, Nat.zero_le _⟩ (by subst ef2; subst ef1; rfl)
theorem x_giveG (hΩ : CV xp lp ap tp up hp rp kp sp yp zp Ω) {q f rt R R1 g : mj_S} {T m T1 m1 n : Nat} (hT : T < 6) (hm : m ≤ 6) {g0 : Nat} (hg : g0 < 5) {h : Nat} (hh : h < 5) (hgh : ¬ g0 = h) {b : Nat} (hb : b < 4) {v : Nat} (hv : 1 ≤ v ∧ v ≤ 12) (hq : nI v ≤ f (53 + b + 4 * g0)) : MC l yX3_give wsX3_give rmX3_give false [.ref xp, .int (nI (g0)), .int (nI (h)), .int (nI (b)), .int (nI (v))] (Ω (row q f) rt R T m R1 T1 m1 g n) (some (.int ((upd (upd f (53 + b + 4 * g0) (f (53 + b + 4 * g0) + (-(nI (v))))) (53 + b + 4 * h) ((upd f (53 + b + 4 * g0) (f (53 + b + 4 * g0) + (-(nI (v))))) (53 + b + 4 * h) + nI v)) (53 + b + 4 * h)))) (Ω (row q (upd (upd f (53 + b + 4 * g0) (f (53 + b + 4 * g0) + (-(nI (v))))) (53 + b + 4 * h) ((upd f (53 + b + 4 * g0) (f (53 + b + 4 * g0) + (-(nI (v))))) (53 + b + 4 * h) + nI v))) rt (s_blit (row q f) (161 * nxT T) 161 R) (nxT T) (nxM m) R1 T1 m1 g n) := by
  refine mj_MC (cc := cX3_give) (nl := 7) (ret := (some .int)) (plainFor_of_name (by decide)) rfl (⟨_, rfl, rfl⟩) (Nat.le_of_ble_eq_true rfl) ?_
  show GG l cX3_give MX3_give false (.inl ((some (.int ((upd (upd f (53 + b + 4 * g0) (f (53 + b + 4 * g0) + (-(nI (v))))) (53 + b + 4 * h) ((upd f (53 + b + 4 * g0) (f (53 + b + 4 * g0) + (-(nI (v))))) (53 + b + 4 * h) + nI v)) (53 + b + 4 * h)))), Ω (row q (upd (upd f (53 + b + 4 * g0) (f (53 + b + 4 * g0) + (-(nI (v))))) (53 + b + 4 * h) ((upd f (53 + b + 4 * g0) (f (53 + b + 4 * g0) + (-(nI (v))))) (53 + b + 4 * h) + nI v))) rt (s_blit (row q f) (161 * nxT T) 161 R) (nxT T) (nxM m) R1 T1 m1 g n)) 0 [some (.ref xp), some (.int (nI (g0))), some (.int (nI (h))), some (.int (nI (b))), some (.int (nI (v))), none, none] [] (Ω (row q f) rt R T m R1 T1 m1 g n) 0 0
  refine G_iload_n dX3_give_0 rfl ?_
  refine G_callSv dX3_give_1 kX3_give_X3_requireHolder ⟨rfl, rfl⟩ ⟨Nat.zero_le _, Nat.zero_le _⟩ (c_reqHolder (h := g0) (by omega)) rfl rfl rfl ?_
  refine G_iload_n dX3_give_4 rfl ?_
  refine G_callSv dX3_give_5 kX3_give_X3_requireHolder ⟨rfl, rfl⟩ ⟨Nat.zero_le _, Nat.zero_le _⟩ (c_reqHolder (h := h) (by omega)) rfl rfl rfl ?_
  refine G_iload_n dX3_give_8 rfl ?_
  refine G_iconst (v := 4) dX3_give_9 (by decide) ?_
  refine G_callSv dX3_give_10 kX3_give_X3_requireIndex ⟨rfl, rfl⟩ ⟨Nat.zero_le _, Nat.zero_le _⟩ (c_reqIndex (a := b) (b := 4) (by omega) (by omega)) rfl rfl rfl ?_
  refine G_iload dX3_give_13 rfl ?_
  refine G_iconst (v := 1) dX3_give_15 (by decide) ?_
  refine G_bipush (v := 12) dX3_give_16 (by decide) ?_
  refine G_callSv dX3_give_18 kX3_give_X3_requireRange ⟨rfl, rfl⟩ ⟨Nat.zero_le _, Nat.zero_le _⟩ (c_reqRange (v := v) (a := 1) (b := 12) (by omega) (by omega) (by omega)) rfl rfl rfl ?_
  refine G_iload_n dX3_give_21 rfl ?_
  refine G_iload_n dX3_give_22 rfl ?_
  refine G_icmp_eqN (a := g0) (c := h) 30 dX3_give_23 (by decide) (by omega) (fun c23 => ?_) (fun c23 => ?_)
  · exact (show False by omega).elim
  · refine G_iconst (v := 1) dX3_give_26 (by decide) ?_
    refine G_goto 31 dX3_give_27 (by decide) ?_
    refine G_callSv dX3_give_31 kX3_give_X3_requireArgument ⟨rfl, rfl⟩ ⟨Nat.zero_le _, Nat.zero_le _⟩ (c_reqArgument) rfl rfl rfl ?_
    refine G_iload_n dX3_give_34 rfl ?_
    refine G_iload_n dX3_give_35 rfl ?_
    refine G_callSi dX3_give_36 kX3_give_X0_sharesPlace ⟨rfl, rfl⟩ ⟨Nat.zero_le _, Nat.zero_le _⟩ (c_sharesPlace (h := g0) (b := b) (by omega) (by omega)) rfl rfl rfl ?_
    refine G_istore dX3_give_39 rfl (L' := [some (.ref xp), some (.int (nI (g0))), some (.int (nI (h))), some (.int (nI (b))), some (.int (nI (v))), some (.int (nI (57 + b + 4 * g0))), none]) rfl ?_
    refine G_iload_n dX3_give_41 rfl ?_
    refine G_iload_n dX3_give_42 rfl ?_
    refine G_callSi dX3_give_43 kX3_give_X0_sharesPlace ⟨rfl, rfl⟩ ⟨Nat.zero_le _, Nat.zero_le _⟩ (c_sharesPlace (h := h) (b := b) (by omega) (by omega)) rfl rfl rfl ?_
    refine G_istore dX3_give_46 rfl (L' := [some (.ref xp), some (.int (nI (g0))), some (.int (nI (h))), some (.int (nI (b))), some (.int (nI (v))), some (.int (nI (57 + b + 4 * g0))), some (.int (nI (57 + b + 4 * h)))]) rfl ?_
    refine G_aload_n dX3_give_48 rfl ?_
    refine G_getf dX3_give_49 fX3_give_12 (hΩ.1 _ _ _ _ _ _ _ _ _ _) (rfl) ?_
    refine G_iload dX3_give_52 rfl ?_
    refine G_callVi dX3_give_54 kX3_give_X0_at ⟨rfl, rfl⟩ ⟨Nat.zero_le _, Nat.zero_le _⟩ (c_atH ((hΩ.2.1 rt R1 T1 m1 g n).lv R T m) (j := 57 + b + 4 * g0) (j' := 53 + b + 4 * g0) (by omega) (by omega)) rfl rfl ((((hΩ.2.1 rt R1 T1 m1 g n).lv R T m) _).1) rfl rfl ?_
    refine G_iload dX3_give_57 rfl ?_
    refine G_icmp_lt 66 dX3_give_59 (by decide) (fun c59 => ?_) (fun c59 => ?_)
    · exact absurd c59 (Int32.not_lt.mpr hq)
    · refine G_iconst (v := 1) dX3_give_62 (by decide) ?_
      refine G_goto 67 dX3_give_63 (by decide) ?_
      refine G_callSv dX3_give_67 kX3_give_X3_requireState ⟨rfl, rfl⟩ ⟨Nat.zero_le _, Nat.zero_le _⟩ (c_reqState) rfl rfl rfl ?_
      refine G_aload_n dX3_give_70 rfl ?_
      refine G_getf dX3_give_71 fX3_give_24 (hΩ.1 _ _ _ _ _ _ _ _ _ _) (rfl) ?_
      refine G_aload_n dX3_give_74 rfl ?_
      refine G_getf dX3_give_75 fX3_give_12 (hΩ.1 _ _ _ _ _ _ _ _ _ _) (rfl) ?_
      refine G_callVv dX3_give_78 kX3_give_X1_push ⟨rfl, rfl⟩ ⟨Nat.zero_le _, Nat.zero_le _⟩ (c_push (hΩ.2.1 rt R1 T1 m1 g n) (by omega) (by omega)) rfl rfl (((hΩ.2.1 rt R1 T1 m1 g n).2 _ _ _ _).1) rfl rfl ?_
      refine G_aload_n dX3_give_81 rfl ?_
      refine G_getf dX3_give_82 fX3_give_12 (hΩ.1 _ _ _ _ _ _ _ _ _ _) (rfl) ?_
      refine G_iload dX3_give_85 rfl ?_
      refine G_iload dX3_give_87 rfl ?_
      refine G_ineg dX3_give_89 ?_
      obtain ⟨f1, ef1⟩ : ∃ z : mj_S, z = upd f (53 + b + 4 * g0) (f (53 + b + 4 * g0) + (-(nI (v)))) := ⟨_, rfl⟩
      refine G_callVv dX3_give_90 kX3_give_X0_add ⟨rfl, rfl⟩ ⟨Nat.zero_le _, Nat.zero_le _⟩ (c_addH ((hΩ.2.1 rt R1 T1 m1 g n).lv (s_blit (row q f) (161 * nxT T) 161 R) (nxT T) (nxM m)) (j := 57 + b + 4 * g0) (j' := 53 + b + 4 * g0) (by omega) (by omega) ef1) rfl rfl ((((hΩ.2.1 rt R1 T1 m1 g n).lv (s_blit (row q f) (161 * nxT T) 161 R) (nxT T) (nxM m)) _).1) rfl rfl ?_
      refine G_aload_n dX3_give_93 rfl ?_
      refine G_getf dX3_give_94 fX3_give_12 (hΩ.1 _ _ _ _ _ _ _ _ _ _) (rfl) ?_
      refine G_iload dX3_give_97 rfl ?_
      refine G_iload dX3_give_99 rfl ?_
      obtain ⟨f2, ef2⟩ : ∃ z : mj_S, z = upd f1 (53 + b + 4 * h) (f1 (53 + b + 4 * h) + (nI (v))) := ⟨_, rfl⟩
      refine G_callVv dX3_give_101 kX3_give_X0_add ⟨rfl, rfl⟩ ⟨Nat.zero_le _, Nat.zero_le _⟩ (c_addH ((hΩ.2.1 rt R1 T1 m1 g n).lv (s_blit (row q f) (161 * nxT T) 161 R) (nxT T) (nxM m)) (j := 57 + b + 4 * h) (j' := 53 + b + 4 * h) (by omega) (by omega) ef2) rfl rfl ((((hΩ.2.1 rt R1 T1 m1 g n).lv (s_blit (row q f) (161 * nxT T) 161 R) (nxT T) (nxM m)) _).1) rfl rfl ?_
      refine G_aload_n dX3_give_104 rfl ?_
      refine G_getf dX3_give_105 fX3_give_12 (hΩ.1 _ _ _ _ _ _ _ _ _ _) (rfl) ?_
      refine G_iload dX3_give_108 rfl ?_
      refine G_callVi dX3_give_110 kX3_give_X0_at ⟨rfl, rfl⟩ ⟨Nat.zero_le _, Nat.zero_le _⟩ (c_atH ((hΩ.2.1 rt R1 T1 m1 g n).lv (s_blit (row q f) (161 * nxT T) 161 R) (nxT T) (nxM m)) (j := 57 + b + 4 * h) (j' := 53 + b + 4 * h) (by omega) (by omega)) rfl rfl ((((hΩ.2.1 rt R1 T1 m1 g n).lv (s_blit (row q f) (161 * nxT T) 161 R) (nxT T) (nxM m)) _).1) rfl rfl ?_
      exact G_iret dX3_give_113 ⟨Nat.zero_le _, Nat.zero_le _⟩ (by subst ef2; subst ef1; rfl)
theorem x_undo (hΩ : CV xp lp ap tp up hp rp kp sp yp zp Ω) {q f rt R R1 g : mj_S} {T m T1 m1 n : Nat} (hT : T < 6) (hm : m < 6) {q' f' : mj_S} (hF : ∀ j, j < 161 → R (161 * T + j) = row q' f' j) : MC l yX3_undo wsX3_undo rmX3_undo false [.ref xp] (Ω (row q f) rt R T (m + 1) R1 T1 m1 g n) (some (.int (nI m))) (Ω (row (q') (f')) rt R (pvT T) m R1 T1 m1 g n) := by
  refine mj_MC (cc := cX3_undo) (nl := 1) (ret := (some .int)) (plainFor_of_name (by decide)) rfl (⟨_, rfl, rfl⟩) (Nat.le_of_ble_eq_true rfl) ?_
  show GG l cX3_undo MX3_undo false (.inl ((some (.int (nI m))), Ω (row (q') (f')) rt R (pvT T) m R1 T1 m1 g n)) 0 [some (.ref xp)] [] (Ω (row q f) rt R T (m + 1) R1 T1 m1 g n) 0 0
  refine G_aload_n dX3_undo_0 rfl ?_
  refine G_getf dX3_undo_1 fX3_undo_24 (hΩ.1 _ _ _ _ _ _ _ _ _ _) (rfl) ?_
  refine G_callVi dX3_undo_4 kX3_undo_X1_size ⟨rfl, rfl⟩ ⟨Nat.zero_le _, Nat.zero_le _⟩ (c_size (hΩ.2.1 rt R1 T1 m1 g n)) rfl rfl (((hΩ.2.1 rt R1 T1 m1 g n).2 _ _ _ _).1) rfl rfl ?_
  refine G_if_leN (a := (m + 1)) 14 dX3_undo_7 (by decide) (by omega) (fun c7 => ?_) (fun c7 => ?_)
  · exact (show False by omega).elim
  · refine G_iconst (v := 1) dX3_undo_10 (by decide) ?_
    refine G_goto 15 dX3_undo_11 (by decide) ?_
    refine G_callSv dX3_undo_15 kX3_undo_X3_requireState ⟨rfl, rfl⟩ ⟨Nat.zero_le _, Nat.zero_le _⟩ (c_reqState) rfl rfl rfl ?_
    refine G_aload_n dX3_undo_18 rfl ?_
    refine G_getf dX3_undo_19 fX3_undo_24 (hΩ.1 _ _ _ _ _ _ _ _ _ _) (rfl) ?_
    refine G_aload_n dX3_undo_22 rfl ?_
    refine G_getf dX3_undo_23 fX3_undo_12 (hΩ.1 _ _ _ _ _ _ _ _ _ _) (rfl) ?_
    refine G_callVv dX3_undo_26 kX3_undo_X1_showTop ⟨rfl, rfl⟩ ⟨Nat.zero_le _, Nat.zero_le _⟩ (c_showTop (hΩ.2.1 rt R1 T1 m1 g n) (by omega)) rfl rfl (((hΩ.2.1 rt R1 T1 m1 g n).2 _ _ _ _).1) rfl rfl ?_
    refine G_aeq (f' := row q' f') (((hΩ.2.1 rt R1 T1 m1 g n).lv R T (m + 1)) _).2.1 (fun j hj => ?_) ((((hΩ.2.1 rt R1 T1 m1 g n).lv R T (m + 1)) _).2.2 _) ?_
    · rw [show s_take R (161 * T) 161 (row q f) = itr (fun i a => upd a i (R (161 * T + i))) 161 0 (row q f) from rfl, take_at, if_pos (by omega)]; exact hF j hj
    refine G_aload_n dX3_undo_29 rfl ?_
    refine G_getf dX3_undo_30 fX3_undo_24 (hΩ.1 _ _ _ _ _ _ _ _ _ _) (rfl) ?_
    refine G_callVv dX3_undo_33 kX3_undo_X1_dropTop ⟨rfl, rfl⟩ ⟨Nat.zero_le _, Nat.zero_le _⟩ (c_dropTop (hΩ.2.1 rt R1 T1 m1 g n) (by omega) (by omega)) rfl rfl (((hΩ.2.1 rt R1 T1 m1 g n).2 _ _ _ _).1) rfl rfl ?_
    refine G_aload_n dX3_undo_36 rfl ?_
    refine G_getf dX3_undo_37 fX3_undo_24 (hΩ.1 _ _ _ _ _ _ _ _ _ _) (rfl) ?_
    refine G_callVi dX3_undo_40 kX3_undo_X1_size ⟨rfl, rfl⟩ ⟨Nat.zero_le _, Nat.zero_le _⟩ (c_size (hΩ.2.1 rt R1 T1 m1 g n)) rfl rfl (((hΩ.2.1 rt R1 T1 m1 g n).2 _ _ _ _).1) rfl rfl ?_
    exact G_iret dX3_undo_43 ⟨Nat.zero_le _, Nat.zero_le _⟩ (rfl)
end XB

/-! THE CLASS: more calls that go well -/
def s_und (h : Nat) : Nat → mj_S → mj_S
  | 0, f => f
  | d + 1, f => if s_sh f h ≤ 0 then f else s_und h d (s_day f).1
theorem s_sh_0 {f : mj_S} {h : Nat} : s_sh f h = 0 ↔ s_sh f h ≤ 0 := by
  unfold s_sh mx0
  split
  · exact ⟨fun _ => Int32.le_refl _, fun _ => rfl⟩
  · rename_i z
    exact ⟨fun e => by rw [e]; exact Int32.le_refl _, fun e => Int32.le_antisymm e (Int32.not_lt.mp z)⟩
def s_btr1 (q f : mj_S) (c h : Nat) (b : Nat) (a : mj_S) : mj_S := if s_why f h b = 0 then row q (s_days 20 (s_setw f c (nI h) (nI b))).1 else a
def pvT (T : Nat) : Nat := if 0 < T then T - 1 else 5
theorem all_parts {t : Nat → Nat} {n : Nat} (hc : s_ep (s_fd t n 0 0) = 1) : ∀ (d i : Nat), n + 1 - i ≤ d → DR t n i 0 → ∀ x, i ≤ x → x < n → s_pb t n x = 1 → ∃ s a b c, PC t n x s a b c
  | 0, i, hd, H => by have := H.1; omega
  | d + 1, i, hd, H => by
    intro x h1 h2 h3
    rcases part_ok 0 0 0 H with ⟨z, B⟩ | ⟨z, j, ej, hij, hjn, hno, E, hPC⟩
    · exact absurd hc (by rw [B.2.2]; omega)
    have hz : j < n → t j = 59 := fun h => by
      rcases E.next with ⟨x1, -, -⟩ | ⟨x1, x2, -⟩ | ⟨x1, x2, B⟩
      · omega
      · exact x2
      · exact absurd hc (by rw [B.2.2]; omega)
    by_cases h4 : x = i
    · subst h4; exact ⟨_, _, _, _, hPC hz⟩
    · by_cases h5 : x < j + 1
      · exact absurd h3 (by rw [s_pb_no hno hjn x (by omega) (by omega)]; omega)
      · rcases E.next with ⟨x1, -, -⟩ | ⟨x1, x2, D⟩ | ⟨x1, x2, B⟩
        · omega
        · exact all_parts hc d (j + 1) (by omega) D x (by omega) h2 h3
        · exact absurd hc (by rw [B.2.2]; omega)
section XB
variable {l : Launch} {xp lp ap tp up hp rp kp sp yp zp : Nat} {Ω : CT}
theorem c_reqHolderN {w : mj_W} : MC l yX3_requireHolder wsX3_requireHolder rmX3_requireHolder false [.int (-1)] (w) none (w) := by
  refine mj_MC (cc := cX3_requireHolder) (nl := 1) (ret := none) (plainFor_of_name (by decide)) rfl (rfl) (Nat.le_of_ble_eq_true rfl) ?_
  show GG l cX3_requireHolder MX3_requireHolder false (.inl (none, w)) 0 [some (.int (-1))] [] (w) 0 0
  refine G_iload_n dX3_requireHolder_0 rfl ?_
  refine G_iconst (v := (-1)) dX3_requireHolder_1 (by decide) ?_
  refine G_icmp_eq 10 dX3_requireHolder_2 (by decide) (fun c2 => ?_) (fun c2 => ?_)
  · exact G_vret dX3_requireHolder_10 ⟨Nat.zero_le _, Nat.zero_le _⟩ (rfl)
  · exact absurd rfl c2
theorem c_reqHolder {w : mj_W} {h : Nat} (hh : h < 5) : MC l yX3_requireHolder wsX3_requireHolder rmX3_requireHolder false [.int (nI (h))] (w) none (w) := by
  refine mj_MC (cc := cX3_requireHolder) (nl := 1) (ret := none) (plainFor_of_name (by decide)) rfl (rfl) (Nat.le_of_ble_eq_true rfl) ?_
  show GG l cX3_requireHolder MX3_requireHolder false (.inl (none, w)) 0 [some (.int (nI (h)))] [] (w) 0 0
  refine G_iload_n dX3_requireHolder_0 rfl ?_
  refine G_iconst (v := (-1)) dX3_requireHolder_1 (by decide) ?_
  refine G_icmp_eq 10 dX3_requireHolder_2 (by decide) (fun c2 => ?_) (fun c2 => ?_)
  · exact absurd c2 (nI_m1 (by omega))
  · refine G_iload_n dX3_requireHolder_5 rfl ?_
    refine G_iconst (v := 5) dX3_requireHolder_6 (by decide) ?_
    refine G_callSv dX3_requireHolder_7 kX3_requireHolder_X3_requireIndex ⟨rfl, rfl⟩ ⟨Nat.zero_le _, Nat.zero_le _⟩ (c_reqIndex (a := h) (b := 5) (by omega) (by omega)) rfl rfl rfl ?_
    exact G_vret dX3_requireHolder_10 ⟨Nat.zero_le _, Nat.zero_le _⟩ (rfl)
theorem x_work (hΩ : CV xp lp ap tp up hp rp kp sp yp zp Ω) {q f rt R R1 g : mj_S} {T m T1 m1 n : Nat} (hT : T < 6) (hm : m ≤ 6) {c : Nat} (hc : c < 6) {h : Nat} (hh : h < 5) {b : Nat} (hb : b < 4) (hr : s_why f h b = 0) : MC l yX3_work wsX3_work rmX3_work false [.ref xp, .int (nI (c)), .int (nI (h)), .int (nI (b))] (Ω (row q f) rt R T m R1 T1 m1 g n) (some (.int (s_cnt (s_setw f c (nI h) (nI b)) (nI h) (nI b)))) (Ω (row q (s_setw f c (nI h) (nI b))) rt (s_blit (row q f) (161 * nxT T) 161 R) (nxT T) (nxM m) R1 T1 m1 g n) := by
  refine mj_MC (cc := cX3_work) (nl := 4) (ret := (some .int)) (plainFor_of_name (by decide)) rfl (⟨_, rfl, rfl⟩) (Nat.le_of_ble_eq_true rfl) ?_
  show GG l cX3_work MX3_work false (.inl ((some (.int (s_cnt (s_setw f c (nI h) (nI b)) (nI h) (nI b)))), Ω (row q (s_setw f c (nI h) (nI b))) rt (s_blit (row q f) (161 * nxT T) 161 R) (nxT T) (nxM m) R1 T1 m1 g n)) 0 [some (.ref xp), some (.int (nI (c))), some (.int (nI (h))), some (.int (nI (b)))] [] (Ω (row q f) rt R T m R1 T1 m1 g n) 0 0
  refine G_iload_n dX3_work_0 rfl ?_
  refine G_bipush (v := 6) dX3_work_1 (by decide) ?_
  refine G_callSv dX3_work_3 kX3_work_X3_requireIndex ⟨rfl, rfl⟩ ⟨Nat.zero_le _, Nat.zero_le _⟩ (c_reqIndex (a := c) (b := 6) (by omega) (by omega)) rfl rfl rfl ?_
  refine G_iload_n dX3_work_6 rfl ?_
  refine G_iconst (v := 5) dX3_work_7 (by decide) ?_
  refine G_callSv dX3_work_8 kX3_work_X3_requireIndex ⟨rfl, rfl⟩ ⟨Nat.zero_le _, Nat.zero_le _⟩ (c_reqIndex (a := h) (b := 5) (by omega) (by omega)) rfl rfl rfl ?_
  refine G_iload_n dX3_work_11 rfl ?_
  refine G_iconst (v := 4) dX3_work_12 (by decide) ?_
  refine G_callSv dX3_work_13 kX3_work_X3_requireIndex ⟨rfl, rfl⟩ ⟨Nat.zero_le _, Nat.zero_le _⟩ (c_reqIndex (a := b) (b := 4) (by omega) (by omega)) rfl rfl rfl ?_
  refine G_aload_n dX3_work_16 rfl ?_
  refine G_getf dX3_work_17 fX3_work_12 (hΩ.1 _ _ _ _ _ _ _ _ _ _) (rfl) ?_
  refine G_iload_n dX3_work_20 rfl ?_
  refine G_iload_n dX3_work_21 rfl ?_
  refine G_callVi dX3_work_22 kX3_work_X0_reasonAgainst ⟨rfl, rfl⟩ ⟨Nat.zero_le _, Nat.zero_le _⟩ (c_reasonAgainst ((hΩ.2.1 rt R1 T1 m1 g n).lv R T m) (h := h) (b := b) (by omega) (by omega)) rfl rfl ((((hΩ.2.1 rt R1 T1 m1 g n).lv R T m) _).1) rfl rfl ?_
  refine G_if_ne 32 dX3_work_25 (by decide) (fun c25 => ?_) (fun c25 => ?_)
  · exact absurd hr c25
  · refine G_iconst (v := 1) dX3_work_28 (by decide) ?_
    refine G_goto 33 dX3_work_29 (by decide) ?_
    refine G_callSv dX3_work_33 kX3_work_X3_requireState ⟨rfl, rfl⟩ ⟨Nat.zero_le _, Nat.zero_le _⟩ (c_reqState) rfl rfl rfl ?_
    refine G_aload_n dX3_work_36 rfl ?_
    refine G_getf dX3_work_37 fX3_work_24 (hΩ.1 _ _ _ _ _ _ _ _ _ _) (rfl) ?_
    refine G_aload_n dX3_work_40 rfl ?_
    refine G_getf dX3_work_41 fX3_work_12 (hΩ.1 _ _ _ _ _ _ _ _ _ _) (rfl) ?_
    refine G_callVv dX3_work_44 kX3_work_X1_push ⟨rfl, rfl⟩ ⟨Nat.zero_le _, Nat.zero_le _⟩ (c_push (hΩ.2.1 rt R1 T1 m1 g n) (by omega) (by omega)) rfl rfl (((hΩ.2.1 rt R1 T1 m1 g n).2 _ _ _ _).1) rfl rfl ?_
    refine G_aload_n dX3_work_47 rfl ?_
    refine G_getf dX3_work_48 fX3_work_12 (hΩ.1 _ _ _ _ _ _ _ _ _ _) (rfl) ?_
    refine G_iload_n dX3_work_51 rfl ?_
    refine G_iload_n dX3_work_52 rfl ?_
    refine G_iload_n dX3_work_53 rfl ?_
    refine G_callVv dX3_work_54 kX3_work_X0_setToWork ⟨rfl, rfl⟩ ⟨Nat.zero_le _, Nat.zero_le _⟩ (c_setToWork ((hΩ.2.1 rt R1 T1 m1 g n).lv (s_blit (row q f) (161 * nxT T) 161 R) (nxT T) (nxM m)) (c := c) (by omega)) rfl rfl ((((hΩ.2.1 rt R1 T1 m1 g n).lv (s_blit (row q f) (161 * nxT T) 161 R) (nxT T) (nxM m)) _).1) rfl rfl ?_
    refine G_aload_n dX3_work_57 rfl ?_
    refine G_getf dX3_work_58 fX3_work_12 (hΩ.1 _ _ _ _ _ _ _ _ _ _) (rfl) ?_
    refine G_iload_n dX3_work_61 rfl ?_
    refine G_iload_n dX3_work_62 rfl ?_
    refine G_callVi dX3_work_63 kX3_work_X0_cuttersAt ⟨rfl, rfl⟩ ⟨Nat.zero_le _, Nat.zero_le _⟩ (c_cuttersAt ((hΩ.2.1 rt R1 T1 m1 g n).lv (s_blit (row q f) (161 * nxT T) 161 R) (nxT T) (nxM m))) rfl rfl ((((hΩ.2.1 rt R1 T1 m1 g n).lv (s_blit (row q f) (161 * nxT T) 161 R) (nxT T) (nxM m)) _).1) rfl rfl ?_
    exact G_iret dX3_work_66 ⟨Nat.zero_le _, Nat.zero_le _⟩ (rfl)
theorem x_giveN (hΩ : CV xp lp ap tp up hp rp kp sp yp zp Ω) {q f rt R R1 g : mj_S} {T m T1 m1 n : Nat} (hT : T < 6) (hm : m ≤ 6) {h : Nat} (hh : h < 5) {b : Nat} (hb : b < 4) {v : Nat} (hv : 1 ≤ v ∧ v ≤ 12) (hq : nI v ≤ q b) : MC l yX3_give wsX3_give rmX3_give false [.ref xp, .int (-1), .int (nI (h)), .int (nI (b)), .int (nI (v))] (Ω (row q f) rt R T m R1 T1 m1 g n) (some (.int ((upd f (53 + b + 4 * h) (f (53 + b + 4 * h) + nI v)) (53 + b + 4 * h)))) (Ω (row (upd q b (q b + (-(nI (v))))) (upd f (53 + b + 4 * h) (f (53 + b + 4 * h) + nI v))) rt (s_blit (row q f) (161 * nxT T) 161 R) (nxT T) (nxM m) R1 T1 m1 g n) := by
  refine mj_MC (cc := cX3_give) (nl := 7) (ret := (some .int)) (plainFor_of_name (by decide)) rfl (⟨_, rfl, rfl⟩) (Nat.le_of_ble_eq_true rfl) ?_
  show GG l cX3_give MX3_give false (.inl ((some (.int ((upd f (53 + b + 4 * h) (f (53 + b + 4 * h) + nI v)) (53 + b + 4 * h)))), Ω (row (upd q b (q b + (-(nI (v))))) (upd f (53 + b + 4 * h) (f (53 + b + 4 * h) + nI v))) rt (s_blit (row q f) (161 * nxT T) 161 R) (nxT T) (nxM m) R1 T1 m1 g n)) 0 [some (.ref xp), some (.int (-1)), some (.int (nI (h))), some (.int (nI (b))), some (.int (nI (v))), none, none] [] (Ω (row q f) rt R T m R1 T1 m1 g n) 0 0
  refine G_iload_n dX3_give_0 rfl ?_
  refine G_callSv dX3_give_1 kX3_give_X3_requireHolder ⟨rfl, rfl⟩ ⟨Nat.zero_le _, Nat.zero_le _⟩ (c_reqHolderN) rfl rfl rfl ?_
  refine G_iload_n dX3_give_4 rfl ?_
  refine G_callSv dX3_give_5 kX3_give_X3_requireHolder ⟨rfl, rfl⟩ ⟨Nat.zero_le _, Nat.zero_le _⟩ (c_reqHolder (h := h) (by omega)) rfl rfl rfl ?_
  refine G_iload_n dX3_give_8 rfl ?_
  refine G_iconst (v := 4) dX3_give_9 (by decide) ?_
  refine G_callSv dX3_give_10 kX3_give_X3_requireIndex ⟨rfl, rfl⟩ ⟨Nat.zero_le _, Nat.zero_le _⟩ (c_reqIndex (a := b) (b := 4) (by omega) (by omega)) rfl rfl rfl ?_
  refine G_iload dX3_give_13 rfl ?_
  refine G_iconst (v := 1) dX3_give_15 (by decide) ?_
  refine G_bipush (v := 12) dX3_give_16 (by decide) ?_
  refine G_callSv dX3_give_18 kX3_give_X3_requireRange ⟨rfl, rfl⟩ ⟨Nat.zero_le _, Nat.zero_le _⟩ (c_reqRange (v := v) (a := 1) (b := 12) (by omega) (by omega) (by omega)) rfl rfl rfl ?_
  refine G_iload_n dX3_give_21 rfl ?_
  refine G_iload_n dX3_give_22 rfl ?_
  refine G_icmp_eq 30 dX3_give_23 (by decide) (fun c23 => ?_) (fun c23 => ?_)
  · exact absurd c23.symm (nI_m1 (by omega))
  · refine G_iconst (v := 1) dX3_give_26 (by decide) ?_
    refine G_goto 31 dX3_give_27 (by decide) ?_
    refine G_callSv dX3_give_31 kX3_give_X3_requireArgument ⟨rfl, rfl⟩ ⟨Nat.zero_le _, Nat.zero_le _⟩ (c_reqArgument) rfl rfl rfl ?_
    refine G_iload_n dX3_give_34 rfl ?_
    refine G_iload_n dX3_give_35 rfl ?_
    refine G_callSi dX3_give_36 kX3_give_X0_sharesPlace ⟨rfl, rfl⟩ ⟨Nat.zero_le _, Nat.zero_le _⟩ (c_sharesPlaceN (b := b) (by omega)) rfl rfl rfl ?_
    refine G_istore dX3_give_39 rfl (L' := [some (.ref xp), some (.int (-1)), some (.int (nI (h))), some (.int (nI (b))), some (.int (nI (v))), some (.int (nI (53 + b))), none]) rfl ?_
    refine G_iload_n dX3_give_41 rfl ?_
    refine G_iload_n dX3_give_42 rfl ?_
    refine G_callSi dX3_give_43 kX3_give_X0_sharesPlace ⟨rfl, rfl⟩ ⟨Nat.zero_le _, Nat.zero_le _⟩ (c_sharesPlace (h := h) (b := b) (by omega) (by omega)) rfl rfl rfl ?_
    refine G_istore dX3_give_46 rfl (L' := [some (.ref xp), some (.int (-1)), some (.int (nI (h))), some (.int (nI (b))), some (.int (nI (v))), some (.int (nI (53 + b))), some (.int (nI (57 + b + 4 * h)))]) rfl ?_
    refine G_aload_n dX3_give_48 rfl ?_
    refine G_getf dX3_give_49 fX3_give_12 (hΩ.1 _ _ _ _ _ _ _ _ _ _) (rfl) ?_
    refine G_iload dX3_give_52 rfl ?_
    refine G_callVi dX3_give_54 kX3_give_X0_at ⟨rfl, rfl⟩ ⟨Nat.zero_le _, Nat.zero_le _⟩ (c_atQ ((hΩ.2.1 rt R1 T1 m1 g n).lv R T m) (j := 53 + b) (i := b) (by omega) (by omega)) rfl rfl ((((hΩ.2.1 rt R1 T1 m1 g n).lv R T m) _).1) rfl rfl ?_
    refine G_iload dX3_give_57 rfl ?_
    refine G_icmp_lt 66 dX3_give_59 (by decide) (fun c59 => ?_) (fun c59 => ?_)
    · exact absurd c59 (Int32.not_lt.mpr hq)
    · refine G_iconst (v := 1) dX3_give_62 (by decide) ?_
      refine G_goto 67 dX3_give_63 (by decide) ?_
      refine G_callSv dX3_give_67 kX3_give_X3_requireState ⟨rfl, rfl⟩ ⟨Nat.zero_le _, Nat.zero_le _⟩ (c_reqState) rfl rfl rfl ?_
      refine G_aload_n dX3_give_70 rfl ?_
      refine G_getf dX3_give_71 fX3_give_24 (hΩ.1 _ _ _ _ _ _ _ _ _ _) (rfl) ?_
      refine G_aload_n dX3_give_74 rfl ?_
      refine G_getf dX3_give_75 fX3_give_12 (hΩ.1 _ _ _ _ _ _ _ _ _ _) (rfl) ?_
      refine G_callVv dX3_give_78 kX3_give_X1_push ⟨rfl, rfl⟩ ⟨Nat.zero_le _, Nat.zero_le _⟩ (c_push (hΩ.2.1 rt R1 T1 m1 g n) (by omega) (by omega)) rfl rfl (((hΩ.2.1 rt R1 T1 m1 g n).2 _ _ _ _).1) rfl rfl ?_
      refine G_aload_n dX3_give_81 rfl ?_
      refine G_getf dX3_give_82 fX3_give_12 (hΩ.1 _ _ _ _ _ _ _ _ _ _) (rfl) ?_
      refine G_iload dX3_give_85 rfl ?_
      refine G_iload dX3_give_87 rfl ?_
      refine G_ineg dX3_give_89 ?_
      obtain ⟨f1, ef1⟩ : ∃ z : mj_S, z = upd q (b) (q (b) + (-(nI (v)))) := ⟨_, rfl⟩
      refine G_callVv dX3_give_90 kX3_give_X0_add ⟨rfl, rfl⟩ ⟨Nat.zero_le _, Nat.zero_le _⟩ (c_addQ ((hΩ.2.1 rt R1 T1 m1 g n).lv (s_blit (row q f) (161 * nxT T) 161 R) (nxT T) (nxM m)) (j := 53 + b) (i := b) (by omega) (by omega) ef1) rfl rfl ((((hΩ.2.1 rt R1 T1 m1 g n).lv (s_blit (row q f) (161 * nxT T) 161 R) (nxT T) (nxM m)) _).1) rfl rfl ?_
      refine G_aload_n dX3_give_93 rfl ?_
      refine G_getf dX3_give_94 fX3_give_12 (hΩ.1 _ _ _ _ _ _ _ _ _ _) (rfl) ?_
      refine G_iload dX3_give_97 rfl ?_
      refine G_iload dX3_give_99 rfl ?_
      obtain ⟨f2, ef2⟩ : ∃ z : mj_S, z = upd f (53 + b + 4 * h) (f (53 + b + 4 * h) + (nI (v))) := ⟨_, rfl⟩
      refine G_callVv dX3_give_101 kX3_give_X0_add ⟨rfl, rfl⟩ ⟨Nat.zero_le _, Nat.zero_le _⟩ (c_addH ((hΩ.2.1 rt R1 T1 m1 g n).lv (s_blit (row q f) (161 * nxT T) 161 R) (nxT T) (nxM m)) (j := 57 + b + 4 * h) (j' := 53 + b + 4 * h) (by omega) (by omega) ef2) rfl rfl ((((hΩ.2.1 rt R1 T1 m1 g n).lv (s_blit (row q f) (161 * nxT T) 161 R) (nxT T) (nxM m)) _).1) rfl rfl ?_
      refine G_aload_n dX3_give_104 rfl ?_
      refine G_getf dX3_give_105 fX3_give_12 (hΩ.1 _ _ _ _ _ _ _ _ _ _) (rfl) ?_
      refine G_iload dX3_give_108 rfl ?_
      refine G_callVi dX3_give_110 kX3_give_X0_at ⟨rfl, rfl⟩ ⟨Nat.zero_le _, Nat.zero_le _⟩ (c_atH ((hΩ.2.1 rt R1 T1 m1 g n).lv (s_blit (row q f) (161 * nxT T) 161 R) (nxT T) (nxM m)) (j := 57 + b + 4 * h) (j' := 53 + b + 4 * h) (by omega) (by omega)) rfl rfl ((((hΩ.2.1 rt R1 T1 m1 g n).lv (s_blit (row q f) (161 * nxT T) 161 R) (nxT T) (nxM m)) _).1) rfl rfl ?_
      exact G_iret dX3_give_113 ⟨Nat.zero_le _, Nat.zero_le _⟩ (by subst ef2; subst ef1; rfl)
theorem x_giveT (hΩ : CV xp lp ap tp up hp rp kp sp yp zp Ω) {q f rt R R1 g : mj_S} {T m T1 m1 n : Nat} (hT : T < 6) (hm : m ≤ 6) {g0 : Nat} (hg : g0 < 5) {b : Nat} (hb : b < 4) {v : Nat} (hv : 1 ≤ v ∧ v ≤ 12) (hq : nI v ≤ f (53 + b + 4 * g0)) : MC l yX3_give wsX3_give rmX3_give false [.ref xp, .int (nI (g0)), .int (-1), .int (nI (b)), .int (nI (v))] (Ω (row q f) rt R T m R1 T1 m1 g n) (some (.int ((upd q b (q b + nI v)) b))) (Ω (row (upd q b (q b + nI v)) (upd f (53 + b + 4 * g0) (f (53 + b + 4 * g0) + (-(nI (v)))))) rt (s_blit (row q f) (161 * nxT T) 161 R) (nxT T) (nxM m) R1 T1 m1 g n) := by
  refine mj_MC (cc := cX3_give) (nl := 7) (ret := (some .int)) (plainFor_of_name (by decide)) rfl (⟨_, rfl, rfl⟩) (Nat.le_of_ble_eq_true rfl) ?_
  show GG l cX3_give MX3_give false (.inl ((some (.int ((upd q b (q b + nI v)) b))), Ω (row (upd q b (q b + nI v)) (upd f (53 + b + 4 * g0) (f (53 + b + 4 * g0) + (-(nI (v)))))) rt (s_blit (row q f) (161 * nxT T) 161 R) (nxT T) (nxM m) R1 T1 m1 g n)) 0 [some (.ref xp), some (.int (nI (g0))), some (.int (-1)), some (.int (nI (b))), some (.int (nI (v))), none, none] [] (Ω (row q f) rt R T m R1 T1 m1 g n) 0 0
  refine G_iload_n dX3_give_0 rfl ?_
  refine G_callSv dX3_give_1 kX3_give_X3_requireHolder ⟨rfl, rfl⟩ ⟨Nat.zero_le _, Nat.zero_le _⟩ (c_reqHolder (h := g0) (by omega)) rfl rfl rfl ?_
  refine G_iload_n dX3_give_4 rfl ?_
  refine G_callSv dX3_give_5 kX3_give_X3_requireHolder ⟨rfl, rfl⟩ ⟨Nat.zero_le _, Nat.zero_le _⟩ (c_reqHolderN) rfl rfl rfl ?_
  refine G_iload_n dX3_give_8 rfl ?_
  refine G_iconst (v := 4) dX3_give_9 (by decide) ?_
  refine G_callSv dX3_give_10 kX3_give_X3_requireIndex ⟨rfl, rfl⟩ ⟨Nat.zero_le _, Nat.zero_le _⟩ (c_reqIndex (a := b) (b := 4) (by omega) (by omega)) rfl rfl rfl ?_
  refine G_iload dX3_give_13 rfl ?_
  refine G_iconst (v := 1) dX3_give_15 (by decide) ?_
  refine G_bipush (v := 12) dX3_give_16 (by decide) ?_
  refine G_callSv dX3_give_18 kX3_give_X3_requireRange ⟨rfl, rfl⟩ ⟨Nat.zero_le _, Nat.zero_le _⟩ (c_reqRange (v := v) (a := 1) (b := 12) (by omega) (by omega) (by omega)) rfl rfl rfl ?_
  refine G_iload_n dX3_give_21 rfl ?_
  refine G_iload_n dX3_give_22 rfl ?_
  refine G_icmp_eq 30 dX3_give_23 (by decide) (fun c23 => ?_) (fun c23 => ?_)
  · exact absurd c23 (nI_m1 (by omega))
  · refine G_iconst (v := 1) dX3_give_26 (by decide) ?_
    refine G_goto 31 dX3_give_27 (by decide) ?_
    refine G_callSv dX3_give_31 kX3_give_X3_requireArgument ⟨rfl, rfl⟩ ⟨Nat.zero_le _, Nat.zero_le _⟩ (c_reqArgument) rfl rfl rfl ?_
    refine G_iload_n dX3_give_34 rfl ?_
    refine G_iload_n dX3_give_35 rfl ?_
    refine G_callSi dX3_give_36 kX3_give_X0_sharesPlace ⟨rfl, rfl⟩ ⟨Nat.zero_le _, Nat.zero_le _⟩ (c_sharesPlace (h := g0) (b := b) (by omega) (by omega)) rfl rfl rfl ?_
    refine G_istore dX3_give_39 rfl (L' := [some (.ref xp), some (.int (nI (g0))), some (.int (-1)), some (.int (nI (b))), some (.int (nI (v))), some (.int (nI (57 + b + 4 * g0))), none]) rfl ?_
    refine G_iload_n dX3_give_41 rfl ?_
    refine G_iload_n dX3_give_42 rfl ?_
    refine G_callSi dX3_give_43 kX3_give_X0_sharesPlace ⟨rfl, rfl⟩ ⟨Nat.zero_le _, Nat.zero_le _⟩ (c_sharesPlaceN (b := b) (by omega)) rfl rfl rfl ?_
    refine G_istore dX3_give_46 rfl (L' := [some (.ref xp), some (.int (nI (g0))), some (.int (-1)), some (.int (nI (b))), some (.int (nI (v))), some (.int (nI (57 + b + 4 * g0))), some (.int (nI (53 + b)))]) rfl ?_
    refine G_aload_n dX3_give_48 rfl ?_
    refine G_getf dX3_give_49 fX3_give_12 (hΩ.1 _ _ _ _ _ _ _ _ _ _) (rfl) ?_
    refine G_iload dX3_give_52 rfl ?_
    refine G_callVi dX3_give_54 kX3_give_X0_at ⟨rfl, rfl⟩ ⟨Nat.zero_le _, Nat.zero_le _⟩ (c_atH ((hΩ.2.1 rt R1 T1 m1 g n).lv R T m) (j := 57 + b + 4 * g0) (j' := 53 + b + 4 * g0) (by omega) (by omega)) rfl rfl ((((hΩ.2.1 rt R1 T1 m1 g n).lv R T m) _).1) rfl rfl ?_
    refine G_iload dX3_give_57 rfl ?_
    refine G_icmp_lt 66 dX3_give_59 (by decide) (fun c59 => ?_) (fun c59 => ?_)
    · exact absurd c59 (Int32.not_lt.mpr hq)
    · refine G_iconst (v := 1) dX3_give_62 (by decide) ?_
      refine G_goto 67 dX3_give_63 (by decide) ?_
      refine G_callSv dX3_give_67 kX3_give_X3_requireState ⟨rfl, rfl⟩ ⟨Nat.zero_le _, Nat.zero_le _⟩ (c_reqState) rfl rfl rfl ?_
      refine G_aload_n dX3_give_70 rfl ?_
      refine G_getf dX3_give_71 fX3_give_24 (hΩ.1 _ _ _ _ _ _ _ _ _ _) (rfl) ?_
      refine G_aload_n dX3_give_74 rfl ?_
      refine G_getf dX3_give_75 fX3_give_12 (hΩ.1 _ _ _ _ _ _ _ _ _ _) (rfl) ?_
      refine G_callVv dX3_give_78 kX3_give_X1_push ⟨rfl, rfl⟩ ⟨Nat.zero_le _, Nat.zero_le _⟩ (c_push (hΩ.2.1 rt R1 T1 m1 g n) (by omega) (by omega)) rfl rfl (((hΩ.2.1 rt R1 T1 m1 g n).2 _ _ _ _).1) rfl rfl ?_
      refine G_aload_n dX3_give_81 rfl ?_
      refine G_getf dX3_give_82 fX3_give_12 (hΩ.1 _ _ _ _ _ _ _ _ _ _) (rfl) ?_
      refine G_iload dX3_give_85 rfl ?_
      refine G_iload dX3_give_87 rfl ?_
      refine G_ineg dX3_give_89 ?_
      obtain ⟨f1, ef1⟩ : ∃ z : mj_S, z = upd f (53 + b + 4 * g0) (f (53 + b + 4 * g0) + (-(nI (v)))) := ⟨_, rfl⟩
      refine G_callVv dX3_give_90 kX3_give_X0_add ⟨rfl, rfl⟩ ⟨Nat.zero_le _, Nat.zero_le _⟩ (c_addH ((hΩ.2.1 rt R1 T1 m1 g n).lv (s_blit (row q f) (161 * nxT T) 161 R) (nxT T) (nxM m)) (j := 57 + b + 4 * g0) (j' := 53 + b + 4 * g0) (by omega) (by omega) ef1) rfl rfl ((((hΩ.2.1 rt R1 T1 m1 g n).lv (s_blit (row q f) (161 * nxT T) 161 R) (nxT T) (nxM m)) _).1) rfl rfl ?_
      refine G_aload_n dX3_give_93 rfl ?_
      refine G_getf dX3_give_94 fX3_give_12 (hΩ.1 _ _ _ _ _ _ _ _ _ _) (rfl) ?_
      refine G_iload dX3_give_97 rfl ?_
      refine G_iload dX3_give_99 rfl ?_
      obtain ⟨f2, ef2⟩ : ∃ z : mj_S, z = upd q (b) (q (b) + (nI (v))) := ⟨_, rfl⟩
      refine G_callVv dX3_give_101 kX3_give_X0_add ⟨rfl, rfl⟩ ⟨Nat.zero_le _, Nat.zero_le _⟩ (c_addQ ((hΩ.2.1 rt R1 T1 m1 g n).lv (s_blit (row q f) (161 * nxT T) 161 R) (nxT T) (nxM m)) (j := 53 + b) (i := b) (by omega) (by omega) ef2) rfl rfl ((((hΩ.2.1 rt R1 T1 m1 g n).lv (s_blit (row q f) (161 * nxT T) 161 R) (nxT T) (nxM m)) _).1) rfl rfl ?_
      refine G_aload_n dX3_give_104 rfl ?_
      refine G_getf dX3_give_105 fX3_give_12 (hΩ.1 _ _ _ _ _ _ _ _ _ _) (rfl) ?_
      refine G_iload dX3_give_108 rfl ?_
      refine G_callVi dX3_give_110 kX3_give_X0_at ⟨rfl, rfl⟩ ⟨Nat.zero_le _, Nat.zero_le _⟩ (c_atQ ((hΩ.2.1 rt R1 T1 m1 g n).lv (s_blit (row q f) (161 * nxT T) 161 R) (nxT T) (nxM m)) (j := 53 + b) (i := b) (by omega) (by omega)) rfl rfl ((((hΩ.2.1 rt R1 T1 m1 g n).lv (s_blit (row q f) (161 * nxT T) 161 R) (nxT T) (nxM m)) _).1) rfl rfl ?_
      exact G_iret dX3_give_113 ⟨Nat.zero_le _, Nat.zero_le _⟩ (by subst ef2; subst ef1; rfl)
theorem x_giveG (hΩ : CV xp lp ap tp up hp rp kp sp yp zp Ω) {q f rt R R1 g : mj_S} {T m T1 m1 n : Nat} (hT : T < 6) (hm : m ≤ 6) {g0 : Nat} (hg : g0 < 5) {h : Nat} (hh : h < 5) (hgh : ¬ g0 = h) {b : Nat} (hb : b < 4) {v : Nat} (hv : 1 ≤ v ∧ v ≤ 12) (hq : nI v ≤ f (53 + b + 4 * g0)) : MC l yX3_give wsX3_give rmX3_give false [.ref xp, .int (nI (g0)), .int (nI (h)), .int (nI (b)), .int (nI (v))] (Ω (row q f) rt R T m R1 T1 m1 g n) (some (.int ((upd (upd f (53 + b + 4 * g0) (f (53 + b + 4 * g0) + (-(nI (v))))) (53 + b + 4 * h) ((upd f (53 + b + 4 * g0) (f (53 + b + 4 * g0) + (-(nI (v))))) (53 + b + 4 * h) + nI v)) (53 + b + 4 * h)))) (Ω (row q (upd (upd f (53 + b + 4 * g0) (f (53 + b + 4 * g0) + (-(nI (v))))) (53 + b + 4 * h) ((upd f (53 + b + 4 * g0) (f (53 + b + 4 * g0) + (-(nI (v))))) (53 + b + 4 * h) + nI v))) rt (s_blit (row q f) (161 * nxT T) 161 R) (nxT T) (nxM m) R1 T1 m1 g n) := by
  refine mj_MC (cc := cX3_give) (nl := 7) (ret := (some .int)) (plainFor_of_name (by decide)) rfl (⟨_, rfl, rfl⟩) (Nat.le_of_ble_eq_true rfl) ?_
  show GG l cX3_give MX3_give false (.inl ((some (.int ((upd (upd f (53 + b + 4 * g0) (f (53 + b + 4 * g0) + (-(nI (v))))) (53 + b + 4 * h) ((upd f (53 + b + 4 * g0) (f (53 + b + 4 * g0) + (-(nI (v))))) (53 + b + 4 * h) + nI v)) (53 + b + 4 * h)))), Ω (row q (upd (upd f (53 + b + 4 * g0) (f (53 + b + 4 * g0) + (-(nI (v))))) (53 + b + 4 * h) ((upd f (53 + b + 4 * g0) (f (53 + b + 4 * g0) + (-(nI (v))))) (53 + b + 4 * h) + nI v))) rt (s_blit (row q f) (161 * nxT T) 161 R) (nxT T) (nxM m) R1 T1 m1 g n)) 0 [some (.ref xp), some (.int (nI (g0))), some (.int (nI (h))), some (.int (nI (b))), some (.int (nI (v))), none, none] [] (Ω (row q f) rt R T m R1 T1 m1 g n) 0 0
  refine G_iload_n dX3_give_0 rfl ?_
  refine G_callSv dX3_give_1 kX3_give_X3_requireHolder ⟨rfl, rfl⟩ ⟨Nat.zero_le _, Nat.zero_le _⟩ (c_reqHolder (h := g0) (by omega)) rfl rfl rfl ?_
  refine G_iload_n dX3_give_4 rfl ?_
  refine G_callSv dX3_give_5 kX3_give_X3_requireHolder ⟨rfl, rfl⟩ ⟨Nat.zero_le _, Nat.zero_le _⟩ (c_reqHolder (h := h) (by omega)) rfl rfl rfl ?_
  refine G_iload_n dX3_give_8 rfl ?_
  refine G_iconst (v := 4) dX3_give_9 (by decide) ?_
  refine G_callSv dX3_give_10 kX3_give_X3_requireIndex ⟨rfl, rfl⟩ ⟨Nat.zero_le _, Nat.zero_le _⟩ (c_reqIndex (a := b) (b := 4) (by omega) (by omega)) rfl rfl rfl ?_
  refine G_iload dX3_give_13 rfl ?_
  refine G_iconst (v := 1) dX3_give_15 (by decide) ?_
  refine G_bipush (v := 12) dX3_give_16 (by decide) ?_
  refine G_callSv dX3_give_18 kX3_give_X3_requireRange ⟨rfl, rfl⟩ ⟨Nat.zero_le _, Nat.zero_le _⟩ (c_reqRange (v := v) (a := 1) (b := 12) (by omega) (by omega) (by omega)) rfl rfl rfl ?_
  refine G_iload_n dX3_give_21 rfl ?_
  refine G_iload_n dX3_give_22 rfl ?_
  refine G_icmp_eqN (a := g0) (c := h) 30 dX3_give_23 (by decide) (by omega) (fun c23 => ?_) (fun c23 => ?_)
  · exact (show False by omega).elim
  · refine G_iconst (v := 1) dX3_give_26 (by decide) ?_
    refine G_goto 31 dX3_give_27 (by decide) ?_
    refine G_callSv dX3_give_31 kX3_give_X3_requireArgument ⟨rfl, rfl⟩ ⟨Nat.zero_le _, Nat.zero_le _⟩ (c_reqArgument) rfl rfl rfl ?_
    refine G_iload_n dX3_give_34 rfl ?_
    refine G_iload_n dX3_give_35 rfl ?_
    refine G_callSi dX3_give_36 kX3_give_X0_sharesPlace ⟨rfl, rfl⟩ ⟨Nat.zero_le _, Nat.zero_le _⟩ (c_sharesPlace (h := g0) (b := b) (by omega) (by omega)) rfl rfl rfl ?_
    refine G_istore dX3_give_39 rfl (L' := [some (.ref xp), some (.int (nI (g0))), some (.int (nI (h))), some (.int (nI (b))), some (.int (nI (v))), some (.int (nI (57 + b + 4 * g0))), none]) rfl ?_
    refine G_iload_n dX3_give_41 rfl ?_
    refine G_iload_n dX3_give_42 rfl ?_
    refine G_callSi dX3_give_43 kX3_give_X0_sharesPlace ⟨rfl, rfl⟩ ⟨Nat.zero_le _, Nat.zero_le _⟩ (c_sharesPlace (h := h) (b := b) (by omega) (by omega)) rfl rfl rfl ?_
    refine G_istore dX3_give_46 rfl (L' := [some (.ref xp), some (.int (nI (g0))), some (.int (nI (h))), some (.int (nI (b))), some (.int (nI (v))), some (.int (nI (57 + b + 4 * g0))), some (.int (nI (57 + b + 4 * h)))]) rfl ?_
    refine G_aload_n dX3_give_48 rfl ?_
    refine G_getf dX3_give_49 fX3_give_12 (hΩ.1 _ _ _ _ _ _ _ _ _ _) (rfl) ?_
    refine G_iload dX3_give_52 rfl ?_
    refine G_callVi dX3_give_54 kX3_give_X0_at ⟨rfl, rfl⟩ ⟨Nat.zero_le _, Nat.zero_le _⟩ (c_atH ((hΩ.2.1 rt R1 T1 m1 g n).lv R T m) (j := 57 + b + 4 * g0) (j' := 53 + b + 4 * g0) (by omega) (by omega)) rfl rfl ((((hΩ.2.1 rt R1 T1 m1 g n).lv R T m) _).1) rfl rfl ?_
    refine G_iload dX3_give_57 rfl ?_
    refine G_icmp_lt 66 dX3_give_59 (by decide) (fun c59 => ?_) (fun c59 => ?_)
    · exact absurd c59 (Int32.not_lt.mpr hq)
    · refine G_iconst (v := 1) dX3_give_62 (by decide) ?_
      refine G_goto 67 dX3_give_63 (by decide) ?_
      refine G_callSv dX3_give_67 kX3_give_X3_requireState ⟨rfl, rfl⟩ ⟨Nat.zero_le _, Nat.zero_le _⟩ (c_reqState) rfl rfl rfl ?_
      refine G_aload_n dX3_give_70 rfl ?_
      refine G_getf dX3_give_71 fX3_give_24 (hΩ.1 _ _ _ _ _ _ _ _ _ _) (rfl) ?_
      refine G_aload_n dX3_give_74 rfl ?_
      refine G_getf dX3_give_75 fX3_give_12 (hΩ.1 _ _ _ _ _ _ _ _ _ _) (rfl) ?_
      refine G_callVv dX3_give_78 kX3_give_X1_push ⟨rfl, rfl⟩ ⟨Nat.zero_le _, Nat.zero_le _⟩ (c_push (hΩ.2.1 rt R1 T1 m1 g n) (by omega) (by omega)) rfl rfl (((hΩ.2.1 rt R1 T1 m1 g n).2 _ _ _ _).1) rfl rfl ?_
      refine G_aload_n dX3_give_81 rfl ?_
      refine G_getf dX3_give_82 fX3_give_12 (hΩ.1 _ _ _ _ _ _ _ _ _ _) (rfl) ?_
      refine G_iload dX3_give_85 rfl ?_
      refine G_iload dX3_give_87 rfl ?_
      refine G_ineg dX3_give_89 ?_
      obtain ⟨f1, ef1⟩ : ∃ z : mj_S, z = upd f (53 + b + 4 * g0) (f (53 + b + 4 * g0) + (-(nI (v)))) := ⟨_, rfl⟩
      refine G_callVv dX3_give_90 kX3_give_X0_add ⟨rfl, rfl⟩ ⟨Nat.zero_le _, Nat.zero_le _⟩ (c_addH ((hΩ.2.1 rt R1 T1 m1 g n).lv (s_blit (row q f) (161 * nxT T) 161 R) (nxT T) (nxM m)) (j := 57 + b + 4 * g0) (j' := 53 + b + 4 * g0) (by omega) (by omega) ef1) rfl rfl ((((hΩ.2.1 rt R1 T1 m1 g n).lv (s_blit (row q f) (161 * nxT T) 161 R) (nxT T) (nxM m)) _).1) rfl rfl ?_
      refine G_aload_n dX3_give_93 rfl ?_
      refine G_getf dX3_give_94 fX3_give_12 (hΩ.1 _ _ _ _ _ _ _ _ _ _) (rfl) ?_
      refine G_iload dX3_give_97 rfl ?_
      refine G_iload dX3_give_99 rfl ?_
      obtain ⟨f2, ef2⟩ : ∃ z : mj_S, z = upd f1 (53 + b + 4 * h) (f1 (53 + b + 4 * h) + (nI (v))) := ⟨_, rfl⟩
      refine G_callVv dX3_give_101 kX3_give_X0_add ⟨rfl, rfl⟩ ⟨Nat.zero_le _, Nat.zero_le _⟩ (c_addH ((hΩ.2.1 rt R1 T1 m1 g n).lv (s_blit (row q f) (161 * nxT T) 161 R) (nxT T) (nxM m)) (j := 57 + b + 4 * h) (j' := 53 + b + 4 * h) (by omega) (by omega) ef2) rfl rfl ((((hΩ.2.1 rt R1 T1 m1 g n).lv (s_blit (row q f) (161 * nxT T) 161 R) (nxT T) (nxM m)) _).1) rfl rfl ?_
      refine G_aload_n dX3_give_104 rfl ?_
      refine G_getf dX3_give_105 fX3_give_12 (hΩ.1 _ _ _ _ _ _ _ _ _ _) (rfl) ?_
      refine G_iload dX3_give_108 rfl ?_
      refine G_callVi dX3_give_110 kX3_give_X0_at ⟨rfl, rfl⟩ ⟨Nat.zero_le _, Nat.zero_le _⟩ (c_atH ((hΩ.2.1 rt R1 T1 m1 g n).lv (s_blit (row q f) (161 * nxT T) 161 R) (nxT T) (nxM m)) (j := 57 + b + 4 * h) (j' := 53 + b + 4 * h) (by omega) (by omega)) rfl rfl ((((hΩ.2.1 rt R1 T1 m1 g n).lv (s_blit (row q f) (161 * nxT T) 161 R) (nxT T) (nxM m)) _).1) rfl rfl ?_
      exact G_iret dX3_give_113 ⟨Nat.zero_le _, Nat.zero_le _⟩ (by subst ef2; subst ef1; rfl)
theorem x_undo (hΩ : CV xp lp ap tp up hp rp kp sp yp zp Ω) {q f rt R R1 g : mj_S} {T m T1 m1 n : Nat} (hT : T < 6) (hm : m < 6) {q' f' : mj_S} (hF : ∀ j, j < 161 → R (161 * T + j) = row q' f' j) : MC l yX3_undo wsX3_undo rmX3_undo false [.ref xp] (Ω (row q f) rt R T (m + 1) R1 T1 m1 g n) (some (.int (nI m))) (Ω (row (q') (f')) rt R (pvT T) m R1 T1 m1 g n) := by
  refine mj_MC (cc := cX3_undo) (nl := 1) (ret := (some .int)) (plainFor_of_name (by decide)) rfl (⟨_, rfl, rfl⟩) (Nat.le_of_ble_eq_true rfl) ?_
  show GG l cX3_undo MX3_undo false (.inl ((some (.int (nI m))), Ω (row (q') (f')) rt R (pvT T) m R1 T1 m1 g n)) 0 [some (.ref xp)] [] (Ω (row q f) rt R T (m + 1) R1 T1 m1 g n) 0 0
  refine G_aload_n dX3_undo_0 rfl ?_
  refine G_getf dX3_undo_1 fX3_undo_24 (hΩ.1 _ _ _ _ _ _ _ _ _ _) (rfl) ?_
  refine G_callVi dX3_undo_4 kX3_undo_X1_size ⟨rfl, rfl⟩ ⟨Nat.zero_le _, Nat.zero_le _⟩ (c_size (hΩ.2.1 rt R1 T1 m1 g n)) rfl rfl (((hΩ.2.1 rt R1 T1 m1 g n).2 _ _ _ _).1) rfl rfl ?_
  refine G_if_leN (a := (m + 1)) 14 dX3_undo_7 (by decide) (by omega) (fun c7 => ?_) (fun c7 => ?_)
  · exact (show False by omega).elim
  · refine G_iconst (v := 1) dX3_undo_10 (by decide) ?_
    refine G_goto 15 dX3_undo_11 (by decide) ?_
    refine G_callSv dX3_undo_15 kX3_undo_X3_requireState ⟨rfl, rfl⟩ ⟨Nat.zero_le _, Nat.zero_le _⟩ (c_reqState) rfl rfl rfl ?_
    refine G_aload_n dX3_undo_18 rfl ?_
    refine G_getf dX3_undo_19 fX3_undo_24 (hΩ.1 _ _ _ _ _ _ _ _ _ _) (rfl) ?_
    refine G_aload_n dX3_undo_22 rfl ?_
    refine G_getf dX3_undo_23 fX3_undo_12 (hΩ.1 _ _ _ _ _ _ _ _ _ _) (rfl) ?_
    refine G_callVv dX3_undo_26 kX3_undo_X1_showTop ⟨rfl, rfl⟩ ⟨Nat.zero_le _, Nat.zero_le _⟩ (c_showTop (hΩ.2.1 rt R1 T1 m1 g n) (by omega)) rfl rfl (((hΩ.2.1 rt R1 T1 m1 g n).2 _ _ _ _).1) rfl rfl ?_
    refine G_aeq (f' := row q' f') (((hΩ.2.1 rt R1 T1 m1 g n).lv R T (m + 1)) _).2.1 (fun j hj => ?_) ((((hΩ.2.1 rt R1 T1 m1 g n).lv R T (m + 1)) _).2.2 _) ?_
    · rw [show s_take R (161 * T) 161 (row q f) = itr (fun i a => upd a i (R (161 * T + i))) 161 0 (row q f) from rfl, take_at, if_pos (by omega)]; exact hF j hj
    refine G_aload_n dX3_undo_29 rfl ?_
    refine G_getf dX3_undo_30 fX3_undo_24 (hΩ.1 _ _ _ _ _ _ _ _ _ _) (rfl) ?_
    refine G_callVv dX3_undo_33 kX3_undo_X1_dropTop ⟨rfl, rfl⟩ ⟨Nat.zero_le _, Nat.zero_le _⟩ (c_dropTop (hΩ.2.1 rt R1 T1 m1 g n) (by omega) (by omega)) rfl rfl (((hΩ.2.1 rt R1 T1 m1 g n).2 _ _ _ _).1) rfl rfl ?_
    refine G_aload_n dX3_undo_36 rfl ?_
    refine G_getf dX3_undo_37 fX3_undo_24 (hΩ.1 _ _ _ _ _ _ _ _ _ _) (rfl) ?_
    refine G_callVi dX3_undo_40 kX3_undo_X1_size ⟨rfl, rfl⟩ ⟨Nat.zero_le _, Nat.zero_le _⟩ (c_size (hΩ.2.1 rt R1 T1 m1 g n)) rfl rfl (((hΩ.2.1 rt R1 T1 m1 g n).2 _ _ _ _).1) rfl rfl ?_
    exact G_iret dX3_undo_43 ⟨Nat.zero_le _, Nat.zero_le _⟩ (rfl)
theorem x_restore (hΩ : CV xp lp ap tp up hp rp kp sp yp zp Ω) {q f rt R R1 g : mj_S} {T m T1 m1 n : Nat} (hT : T < 6) (hm : m ≤ 6) {q' f' : mj_S} (hF : ∀ j, j < 161 → R1 (161 * 0 + j) = row q' f' j) : MC l yX3_restore wsX3_restore rmX3_restore false [.ref xp] (Ω (row q f) rt R T m R1 0 1 g n) (some (.int (f' 0))) (Ω (row (q') (f')) rt (s_blit (row q f) (161 * nxT T) 161 R) (nxT T) (nxM m) R1 0 1 g n) := by
  refine mj_MC (cc := cX3_restore) (nl := 1) (ret := (some .int)) (plainFor_of_name (by decide)) rfl (⟨_, rfl, rfl⟩) (Nat.le_of_ble_eq_true rfl) ?_
  show GG l cX3_restore MX3_restore false (.inl ((some (.int (f' 0))), Ω (row (q') (f')) rt (s_blit (row q f) (161 * nxT T) 161 R) (nxT T) (nxM m) R1 0 1 g n)) 0 [some (.ref xp)] [] (Ω (row q f) rt R T m R1 0 1 g n) 0 0
  refine G_aload_n dX3_restore_0 rfl ?_
  refine G_getf dX3_restore_1 fX3_restore_28 (hΩ.1 _ _ _ _ _ _ _ _ _ _) (rfl) ?_
  refine G_callVi dX3_restore_4 kX3_restore_X1_size ⟨rfl, rfl⟩ ⟨Nat.zero_le _, Nat.zero_le _⟩ (c_size (hΩ.2.2.1 rt R T m g n)) rfl rfl (((hΩ.2.2.1 rt R T m g n).2 _ _ _ _).1) rfl rfl ?_
  refine G_if_leN (a := 1) 14 dX3_restore_7 (by decide) (by omega) (fun c7 => ?_) (fun c7 => ?_)
  · exact (show False by omega).elim
  · refine G_iconst (v := 1) dX3_restore_10 (by decide) ?_
    refine G_goto 15 dX3_restore_11 (by decide) ?_
    refine G_callSv dX3_restore_15 kX3_restore_X3_requireState ⟨rfl, rfl⟩ ⟨Nat.zero_le _, Nat.zero_le _⟩ (c_reqState) rfl rfl rfl ?_
    refine G_aload_n dX3_restore_18 rfl ?_
    refine G_getf dX3_restore_19 fX3_restore_24 (hΩ.1 _ _ _ _ _ _ _ _ _ _) (rfl) ?_
    refine G_aload_n dX3_restore_22 rfl ?_
    refine G_getf dX3_restore_23 fX3_restore_12 (hΩ.1 _ _ _ _ _ _ _ _ _ _) (rfl) ?_
    refine G_callVv dX3_restore_26 kX3_restore_X1_push ⟨rfl, rfl⟩ ⟨Nat.zero_le _, Nat.zero_le _⟩ (c_push (hΩ.2.1 rt R1 0 1 g n) (by omega) (by omega)) rfl rfl (((hΩ.2.1 rt R1 0 1 g n).2 _ _ _ _).1) rfl rfl ?_
    refine G_aload_n dX3_restore_29 rfl ?_
    refine G_getf dX3_restore_30 fX3_restore_28 (hΩ.1 _ _ _ _ _ _ _ _ _ _) (rfl) ?_
    refine G_aload_n dX3_restore_33 rfl ?_
    refine G_getf dX3_restore_34 fX3_restore_12 (hΩ.1 _ _ _ _ _ _ _ _ _ _) (rfl) ?_
    refine G_callVv dX3_restore_37 kX3_restore_X1_showTop ⟨rfl, rfl⟩ ⟨Nat.zero_le _, Nat.zero_le _⟩ (c_showTop (hΩ.2.2.1 rt (s_blit (row q f) (161 * nxT T) 161 R) (nxT T) (nxM m) g n) (by omega)) rfl rfl (((hΩ.2.2.1 rt (s_blit (row q f) (161 * nxT T) 161 R) (nxT T) (nxM m) g n).2 _ _ _ _).1) rfl rfl ?_
    refine G_aeq (f' := row q' f') (((hΩ.2.1 rt R1 0 1 g n).lv (s_blit (row q f) (161 * nxT T) 161 R) (nxT T) (nxM m)) _).2.1 (fun j hj => ?_) ((((hΩ.2.1 rt R1 0 1 g n).lv (s_blit (row q f) (161 * nxT T) 161 R) (nxT T) (nxM m)) _).2.2 _) ?_
    · rw [show s_take R1 (161 * 0) 161 (row q f) = itr (fun i a => upd a i (R1 (161 * 0 + i))) 161 0 (row q f) from rfl, take_at, if_pos (by omega)]; exact hF j hj
    refine G_aload_n dX3_restore_40 rfl ?_
    refine G_getf dX3_restore_41 fX3_restore_12 (hΩ.1 _ _ _ _ _ _ _ _ _ _) (rfl) ?_
    refine G_iconst (v := 0) dX3_restore_44 (by decide) ?_
    refine G_callVi dX3_restore_45 kX3_restore_X0_at ⟨rfl, rfl⟩ ⟨Nat.zero_le _, Nat.zero_le _⟩ (c_atL ((hΩ.2.1 rt R1 0 1 g n).lv (s_blit (row q f) (161 * nxT T) 161 R) (nxT T) (nxM m)) (j := 0) (by omega)) rfl rfl ((((hΩ.2.1 rt R1 0 1 g n).lv (s_blit (row q f) (161 * nxT T) 161 R) (nxT T) (nxM m)) _).1) rfl rfl ?_
    exact G_iret dX3_restore_48 ⟨Nat.zero_le _, Nat.zero_le _⟩ (rfl)
theorem x_ifPassed0 (hΩ : CV xp lp ap tp up hp rp kp sp yp zp Ω) {q f rt R R1 g : mj_S} {T m T1 m1 n : Nat} {D : Nat} (ho : oA f D) (hv : vt f) (hD : D < 2147479000) {d : Nat} (hd : 1 ≤ d ∧ d ≤ 60) : MC l yX3_ifPassed wsX3_ifPassed rmX3_ifPassed false [.ref xp, .int (nI (d)), .int 0] (Ω (row q f) rt R T m R1 T1 m1 g n) (some (.int (s_would f d 0))) (Ω (row q f) (row q (s_days d f).1) R T m R1 T1 m1 g n) := by
  refine mj_MC (cc := cX3_ifPassed) (nl := 4) (ret := (some .int)) (plainFor_of_name (by decide)) rfl (⟨_, rfl, rfl⟩) (Nat.le_of_ble_eq_true rfl) ?_
  show GG l cX3_ifPassed MX3_ifPassed false (.inl ((some (.int (s_would f d 0))), Ω (row q f) (row q (s_days d f).1) R T m R1 T1 m1 g n)) 0 [some (.ref xp), some (.int (nI (d))), some (.int 0), none] [] (Ω (row q f) rt R T m R1 T1 m1 g n) 0 0
  refine G_iload_n dX3_ifPassed_0 rfl ?_
  refine G_iconst (v := 1) dX3_ifPassed_1 (by decide) ?_
  refine G_bipush (v := 60) dX3_ifPassed_2 (by decide) ?_
  refine G_callSv dX3_ifPassed_4 kX3_ifPassed_X3_requireRange ⟨rfl, rfl⟩ ⟨Nat.zero_le _, Nat.zero_le _⟩ (c_reqRange (v := d) (a := 1) (b := 60) (by omega) (by omega) (by omega)) rfl rfl rfl ?_
  refine G_iload_n dX3_ifPassed_7 rfl ?_
  refine G_iconst (v := 0) dX3_ifPassed_8 (by decide) ?_
  refine G_iconst (v := 2) dX3_ifPassed_9 (by decide) ?_
  refine G_callSv dX3_ifPassed_10 kX3_ifPassed_X3_requireRange ⟨rfl, rfl⟩ ⟨Nat.zero_le _, Nat.zero_le _⟩ (c_reqRange (v := 0) (a := 0) (b := 2) (by omega) (by omega) (by omega)) rfl rfl rfl ?_
  refine G_aload_n dX3_ifPassed_13 rfl ?_
  refine G_getf dX3_ifPassed_14 fX3_ifPassed_16 (hΩ.1 _ _ _ _ _ _ _ _ _ _) (rfl) ?_
  refine G_aload_n dX3_ifPassed_17 rfl ?_
  refine G_getf dX3_ifPassed_18 fX3_ifPassed_12 (hΩ.1 _ _ _ _ _ _ _ _ _ _) (rfl) ?_
  refine G_callVv dX3_ifPassed_21 kX3_ifPassed_X0_copyFrom ⟨rfl, rfl⟩ ⟨Nat.zero_le _, Nat.zero_le _⟩ (c_copyFrom (hΩ.ll R T m R1 T1 m1 g n)) rfl rfl (((hΩ.2.2.2.1 (row q f) R T m R1 T1 m1 g n) _).1) rfl rfl ?_
  refine G_aeq (f' := (row q f)) ((hΩ.2.2.2.1 (row q f) R T m R1 T1 m1 g n) _).2.1 (fun j hj => ?_) (((hΩ.2.2.2.1 (row q f) R T m R1 T1 m1 g n) _).2.2 _) ?_
  · rw [copy_at, if_pos (by omega)]
  refine G_aload_n dX3_ifPassed_24 rfl ?_
  refine G_getf dX3_ifPassed_25 fX3_ifPassed_16 (hΩ.1 _ _ _ _ _ _ _ _ _ _) (rfl) ?_
  refine G_iload_n dX3_ifPassed_28 rfl ?_
  refine G_callVi dX3_ifPassed_29 kX3_ifPassed_X0_passDays ⟨rfl, rfl⟩ ⟨Nat.zero_le _, Nat.zero_le _⟩ (c_passDays (hΩ.2.2.2.1 (row q f) R T m R1 T1 m1 g n) (n := d) ho hv (by omega)) rfl rfl (((hΩ.2.2.2.1 (row q f) R T m R1 T1 m1 g n) _).1) rfl rfl ?_
  refine G_istore_n dX3_ifPassed_32 rfl (L' := [some (.ref xp), some (.int (nI (d))), some (.int 0), some (.int (s_days (d) f).2)]) rfl ?_
  refine G_iload_n dX3_ifPassed_33 rfl ?_
  refine G_if_neN (a := 0) 39 dX3_ifPassed_34 (by decide) (by omega) (fun c34 => ?_) (fun c34 => ?_)
  · exact (show False by omega).elim
  · refine G_iload_n dX3_ifPassed_37 rfl ?_
    exact G_iret dX3_ifPassed_38 ⟨Nat.zero_le _, Nat.zero_le _⟩ (rfl)
theorem x_ifPassed1 (hΩ : CV xp lp ap tp up hp rp kp sp yp zp Ω) {q f rt R R1 g : mj_S} {T m T1 m1 n : Nat} {D : Nat} (ho : oA f D) (hv : vt f) (hD : D < 2147479000) {d : Nat} (hd : 1 ≤ d ∧ d ≤ 60) : MC l yX3_ifPassed wsX3_ifPassed rmX3_ifPassed false [.ref xp, .int (nI (d)), .int 1] (Ω (row q f) rt R T m R1 T1 m1 g n) (some (.int (s_would f d 1))) (Ω (row q f) (row q (s_days d f).1) R T m R1 T1 m1 g n) := by
  refine mj_MC (cc := cX3_ifPassed) (nl := 4) (ret := (some .int)) (plainFor_of_name (by decide)) rfl (⟨_, rfl, rfl⟩) (Nat.le_of_ble_eq_true rfl) ?_
  show GG l cX3_ifPassed MX3_ifPassed false (.inl ((some (.int (s_would f d 1))), Ω (row q f) (row q (s_days d f).1) R T m R1 T1 m1 g n)) 0 [some (.ref xp), some (.int (nI (d))), some (.int 1), none] [] (Ω (row q f) rt R T m R1 T1 m1 g n) 0 0
  refine G_iload_n dX3_ifPassed_0 rfl ?_
  refine G_iconst (v := 1) dX3_ifPassed_1 (by decide) ?_
  refine G_bipush (v := 60) dX3_ifPassed_2 (by decide) ?_
  refine G_callSv dX3_ifPassed_4 kX3_ifPassed_X3_requireRange ⟨rfl, rfl⟩ ⟨Nat.zero_le _, Nat.zero_le _⟩ (c_reqRange (v := d) (a := 1) (b := 60) (by omega) (by omega) (by omega)) rfl rfl rfl ?_
  refine G_iload_n dX3_ifPassed_7 rfl ?_
  refine G_iconst (v := 0) dX3_ifPassed_8 (by decide) ?_
  refine G_iconst (v := 2) dX3_ifPassed_9 (by decide) ?_
  refine G_callSv dX3_ifPassed_10 kX3_ifPassed_X3_requireRange ⟨rfl, rfl⟩ ⟨Nat.zero_le _, Nat.zero_le _⟩ (c_reqRange (v := 1) (a := 0) (b := 2) (by omega) (by omega) (by omega)) rfl rfl rfl ?_
  refine G_aload_n dX3_ifPassed_13 rfl ?_
  refine G_getf dX3_ifPassed_14 fX3_ifPassed_16 (hΩ.1 _ _ _ _ _ _ _ _ _ _) (rfl) ?_
  refine G_aload_n dX3_ifPassed_17 rfl ?_
  refine G_getf dX3_ifPassed_18 fX3_ifPassed_12 (hΩ.1 _ _ _ _ _ _ _ _ _ _) (rfl) ?_
  refine G_callVv dX3_ifPassed_21 kX3_ifPassed_X0_copyFrom ⟨rfl, rfl⟩ ⟨Nat.zero_le _, Nat.zero_le _⟩ (c_copyFrom (hΩ.ll R T m R1 T1 m1 g n)) rfl rfl (((hΩ.2.2.2.1 (row q f) R T m R1 T1 m1 g n) _).1) rfl rfl ?_
  refine G_aeq (f' := (row q f)) ((hΩ.2.2.2.1 (row q f) R T m R1 T1 m1 g n) _).2.1 (fun j hj => ?_) (((hΩ.2.2.2.1 (row q f) R T m R1 T1 m1 g n) _).2.2 _) ?_
  · rw [copy_at, if_pos (by omega)]
  refine G_aload_n dX3_ifPassed_24 rfl ?_
  refine G_getf dX3_ifPassed_25 fX3_ifPassed_16 (hΩ.1 _ _ _ _ _ _ _ _ _ _) (rfl) ?_
  refine G_iload_n dX3_ifPassed_28 rfl ?_
  refine G_callVi dX3_ifPassed_29 kX3_ifPassed_X0_passDays ⟨rfl, rfl⟩ ⟨Nat.zero_le _, Nat.zero_le _⟩ (c_passDays (hΩ.2.2.2.1 (row q f) R T m R1 T1 m1 g n) (n := d) ho hv (by omega)) rfl rfl (((hΩ.2.2.2.1 (row q f) R T m R1 T1 m1 g n) _).1) rfl rfl ?_
  refine G_istore_n dX3_ifPassed_32 rfl (L' := [some (.ref xp), some (.int (nI (d))), some (.int 1), some (.int (s_days (d) f).2)]) rfl ?_
  refine G_iload_n dX3_ifPassed_33 rfl ?_
  refine G_if_neN (a := 1) 39 dX3_ifPassed_34 (by decide) (by omega) (fun c34 => ?_) (fun c34 => ?_)
  · refine G_iload_n dX3_ifPassed_39 rfl ?_
    refine G_iconst (v := 1) dX3_ifPassed_40 (by decide) ?_
    refine G_icmp_neN (a := 1) (c := 1) 52 dX3_ifPassed_41 (by decide) (by omega) (fun c41 => ?_) (fun c41 => ?_)
    · exact (show False by omega).elim
    · refine G_aload_n dX3_ifPassed_44 rfl ?_
      refine G_getf dX3_ifPassed_45 fX3_ifPassed_16 (hΩ.1 _ _ _ _ _ _ _ _ _ _) (rfl) ?_
      refine G_callVi dX3_ifPassed_48 kX3_ifPassed_X0_hearthsShort ⟨rfl, rfl⟩ ⟨Nat.zero_le _, Nat.zero_le _⟩ (c_hearthsShort (hΩ.2.2.2.1 (row q f) R T m R1 T1 m1 g n)) rfl rfl (((hΩ.2.2.2.1 (row q f) R T m R1 T1 m1 g n) _).1) rfl rfl ?_
      exact G_iret dX3_ifPassed_51 ⟨Nat.zero_le _, Nat.zero_le _⟩ (rfl)
  · exact (show False by omega).elim
theorem x_ifPassed2 (hΩ : CV xp lp ap tp up hp rp kp sp yp zp Ω) {q f rt R R1 g : mj_S} {T m T1 m1 n : Nat} {D : Nat} (ho : oA f D) (hv : vt f) (hD : D < 2147479000) {d : Nat} (hd : 1 ≤ d ∧ d ≤ 60) : MC l yX3_ifPassed wsX3_ifPassed rmX3_ifPassed false [.ref xp, .int (nI (d)), .int 2] (Ω (row q f) rt R T m R1 T1 m1 g n) (some (.int (s_would f d 2))) (Ω (row q f) (row q (s_days d f).1) R T m R1 T1 m1 g n) := by
  refine mj_MC (cc := cX3_ifPassed) (nl := 4) (ret := (some .int)) (plainFor_of_name (by decide)) rfl (⟨_, rfl, rfl⟩) (Nat.le_of_ble_eq_true rfl) ?_
  show GG l cX3_ifPassed MX3_ifPassed false (.inl ((some (.int (s_would f d 2))), Ω (row q f) (row q (s_days d f).1) R T m R1 T1 m1 g n)) 0 [some (.ref xp), some (.int (nI (d))), some (.int 2), none] [] (Ω (row q f) rt R T m R1 T1 m1 g n) 0 0
  refine G_iload_n dX3_ifPassed_0 rfl ?_
  refine G_iconst (v := 1) dX3_ifPassed_1 (by decide) ?_
  refine G_bipush (v := 60) dX3_ifPassed_2 (by decide) ?_
  refine G_callSv dX3_ifPassed_4 kX3_ifPassed_X3_requireRange ⟨rfl, rfl⟩ ⟨Nat.zero_le _, Nat.zero_le _⟩ (c_reqRange (v := d) (a := 1) (b := 60) (by omega) (by omega) (by omega)) rfl rfl rfl ?_
  refine G_iload_n dX3_ifPassed_7 rfl ?_
  refine G_iconst (v := 0) dX3_ifPassed_8 (by decide) ?_
  refine G_iconst (v := 2) dX3_ifPassed_9 (by decide) ?_
  refine G_callSv dX3_ifPassed_10 kX3_ifPassed_X3_requireRange ⟨rfl, rfl⟩ ⟨Nat.zero_le _, Nat.zero_le _⟩ (c_reqRange (v := 2) (a := 0) (b := 2) (by omega) (by omega) (by omega)) rfl rfl rfl ?_
  refine G_aload_n dX3_ifPassed_13 rfl ?_
  refine G_getf dX3_ifPassed_14 fX3_ifPassed_16 (hΩ.1 _ _ _ _ _ _ _ _ _ _) (rfl) ?_
  refine G_aload_n dX3_ifPassed_17 rfl ?_
  refine G_getf dX3_ifPassed_18 fX3_ifPassed_12 (hΩ.1 _ _ _ _ _ _ _ _ _ _) (rfl) ?_
  refine G_callVv dX3_ifPassed_21 kX3_ifPassed_X0_copyFrom ⟨rfl, rfl⟩ ⟨Nat.zero_le _, Nat.zero_le _⟩ (c_copyFrom (hΩ.ll R T m R1 T1 m1 g n)) rfl rfl (((hΩ.2.2.2.1 (row q f) R T m R1 T1 m1 g n) _).1) rfl rfl ?_
  refine G_aeq (f' := (row q f)) ((hΩ.2.2.2.1 (row q f) R T m R1 T1 m1 g n) _).2.1 (fun j hj => ?_) (((hΩ.2.2.2.1 (row q f) R T m R1 T1 m1 g n) _).2.2 _) ?_
  · rw [copy_at, if_pos (by omega)]
  refine G_aload_n dX3_ifPassed_24 rfl ?_
  refine G_getf dX3_ifPassed_25 fX3_ifPassed_16 (hΩ.1 _ _ _ _ _ _ _ _ _ _) (rfl) ?_
  refine G_iload_n dX3_ifPassed_28 rfl ?_
  refine G_callVi dX3_ifPassed_29 kX3_ifPassed_X0_passDays ⟨rfl, rfl⟩ ⟨Nat.zero_le _, Nat.zero_le _⟩ (c_passDays (hΩ.2.2.2.1 (row q f) R T m R1 T1 m1 g n) (n := d) ho hv (by omega)) rfl rfl (((hΩ.2.2.2.1 (row q f) R T m R1 T1 m1 g n) _).1) rfl rfl ?_
  refine G_istore_n dX3_ifPassed_32 rfl (L' := [some (.ref xp), some (.int (nI (d))), some (.int 2), some (.int (s_days (d) f).2)]) rfl ?_
  refine G_iload_n dX3_ifPassed_33 rfl ?_
  refine G_if_neN (a := 2) 39 dX3_ifPassed_34 (by decide) (by omega) (fun c34 => ?_) (fun c34 => ?_)
  · refine G_iload_n dX3_ifPassed_39 rfl ?_
    refine G_iconst (v := 1) dX3_ifPassed_40 (by decide) ?_
    refine G_icmp_neN (a := 2) (c := 1) 52 dX3_ifPassed_41 (by decide) (by omega) (fun c41 => ?_) (fun c41 => ?_)
    · refine G_aload_n dX3_ifPassed_52 rfl ?_
      refine G_getf dX3_ifPassed_53 fX3_ifPassed_16 (hΩ.1 _ _ _ _ _ _ _ _ _ _) (rfl) ?_
      refine G_bipush (v := 40) dX3_ifPassed_56 (by decide) ?_
      refine G_iconst (v := 5) dX3_ifPassed_58 (by decide) ?_
      refine G_callVi dX3_ifPassed_59 kX3_ifPassed_X0_sum ⟨rfl, rfl⟩ ⟨Nat.zero_le _, Nat.zero_le _⟩ (c_sumL (hΩ.2.2.2.1 (row q f) R T m R1 T1 m1 g n) (a := 40) (m := 5) (by omega)) rfl rfl (((hΩ.2.2.2.1 (row q f) R T m R1 T1 m1 g n) _).1) rfl rfl ?_
      refine G_aload_n dX3_ifPassed_62 rfl ?_
      refine G_getf dX3_ifPassed_63 fX3_ifPassed_12 (hΩ.1 _ _ _ _ _ _ _ _ _ _) (rfl) ?_
      refine G_bipush (v := 40) dX3_ifPassed_66 (by decide) ?_
      refine G_iconst (v := 5) dX3_ifPassed_68 (by decide) ?_
      refine G_callVi dX3_ifPassed_69 kX3_ifPassed_X0_sum ⟨rfl, rfl⟩ ⟨Nat.zero_le _, Nat.zero_le _⟩ (c_sumL ((hΩ.2.1 (row q ((s_days (d) f).1)) R1 T1 m1 g n).lv R T m) (a := 40) (m := 5) (by omega)) rfl rfl ((((hΩ.2.1 (row q ((s_days (d) f).1)) R1 T1 m1 g n).lv R T m) _).1) rfl rfl ?_
      refine G_isub dX3_ifPassed_72 ?_
      exact G_iret dX3_ifPassed_73 ⟨Nat.zero_le _, Nat.zero_le _⟩ (rfl)
    · exact (show False by omega).elim
  · exact (show False by omega).elim
theorem xl_until (hΩ : CV xp lp ap tp up hp rp kp sp yp zp Ω) {q f R R1 g : mj_S} {T m T1 m1 n : Nat} {h : Nat} (hh : h < 5) : ∀ (d c D : Nat) (e : mj_S) (ho : oA e D) (hv : vt e) (hD : D + d < 2147479990), c + d = 201 → GG l cX3_enoughIn MX3_enoughIn false (.inl (some (.int (if s_un h d c e = 201 then -1 else nI (s_un h d c e))), Ω (row q f) (row q (s_und h d e)) R T m R1 T1 m1 g n)) 18 [some (.ref xp), some (.int (nI (h))), some (.int (nI (c)))] [] (Ω (row q f) (row q e) R T m R1 T1 m1 g n) 0 0
  | 0, c, D, e, ho, hv, hD, hc => by
    refine G_iload_n dX3_enoughIn_18 rfl ?_
    refine G_sipush (v := 200) dX3_enoughIn_19 (by decide) ?_
    refine G_icmp_gtN (a := c) (c := 200) 53 dX3_enoughIn_22 (by decide) (by omega) (fun c22 => ?_) (fun c22 => ?_)
    · refine G_iconst (v := (-1)) dX3_enoughIn_53 (by decide) ?_
      exact G_iret dX3_enoughIn_54 ⟨Nat.zero_le _, Nat.zero_le _⟩ (by rw [s_un, if_pos (by omega)]; rfl)
    · exact (show False by omega).elim
  | d + 1, c, D, e, ho, hv, hD, hc => by
    refine G_iload_n dX3_enoughIn_18 rfl ?_
    refine G_sipush (v := 200) dX3_enoughIn_19 (by decide) ?_
    refine G_icmp_gtN (a := c) (c := 200) 53 dX3_enoughIn_22 (by decide) (by omega) (fun c22 => ?_) (fun c22 => ?_)
    · exact (show False by omega).elim
    · refine G_aload_n dX3_enoughIn_25 rfl ?_
      refine G_getf dX3_enoughIn_26 fX3_enoughIn_16 (hΩ.1 _ _ _ _ _ _ _ _ _ _) (rfl) ?_
      refine G_iload_n dX3_enoughIn_29 rfl ?_
      refine G_callVi dX3_enoughIn_30 kX3_enoughIn_X0_shortBy ⟨rfl, rfl⟩ ⟨Nat.zero_le _, Nat.zero_le _⟩ (c_shortBy (hΩ.2.2.2.1 (row q f) R T m R1 T1 m1 g n) (h := h) (by omega)) rfl rfl (((hΩ.2.2.2.1 (row q f) R T m R1 T1 m1 g n) _).1) rfl rfl ?_
      refine G_if_ne 38 dX3_enoughIn_33 (by decide) (fun c33 => ?_) (fun c33 => ?_)
      · refine G_aload_n dX3_enoughIn_38 rfl ?_
        refine G_getf dX3_enoughIn_39 fX3_enoughIn_16 (hΩ.1 _ _ _ _ _ _ _ _ _ _) (rfl) ?_
        refine G_iconst (v := 1) dX3_enoughIn_42 (by decide) ?_
        refine G_callVi dX3_enoughIn_43 kX3_enoughIn_X0_passDays ⟨rfl, rfl⟩ ⟨Nat.zero_le _, Nat.zero_le _⟩ (c_passDays (hΩ.2.2.2.1 (row q f) R T m R1 T1 m1 g n) (n := 1) ho hv (by omega)) rfl rfl (((hΩ.2.2.2.1 (row q f) R T m R1 T1 m1 g n) _).1) rfl rfl ?_
        refine G_pop dX3_enoughIn_46 rfl ?_
        refine G_iincN (a := c) (s := c + 1) dX3_enoughIn_47 rfl (by omega) (L' := [some (.ref xp), some (.int (nI (h))), some (.int (nI (c + 1)))]) rfl ?_
        refine G_goto 18 dX3_enoughIn_50 (by decide) ?_
        obtain ⟨k1, k2, -⟩ := day_ok ho hv
        rw [s_un, s_und, if_neg (fun z => c33 (s_sh_0.mpr z)), if_neg (fun z => c33 (s_sh_0.mpr z))]
        exact xl_until hΩ hh d (c + 1) (D + 1) (s_day e).1 k1 k2 (by omega) (by omega)
      · refine G_iload_n dX3_enoughIn_36 rfl ?_
        exact G_iret dX3_enoughIn_37 ⟨Nat.zero_le _, Nat.zero_le _⟩ (by rw [s_un, s_und, if_pos (s_sh_0.mp c33), if_pos (s_sh_0.mp c33), if_neg (by omega)])
theorem x_enoughIn (hΩ : CV xp lp ap tp up hp rp kp sp yp zp Ω) {q f rt R R1 g : mj_S} {T m T1 m1 n : Nat} {D : Nat} (ho : oA f D) (hv : vt f) (hD : D < 2147479000) {h : Nat} (hh : h < 5) : MC l yX3_enoughIn wsX3_enoughIn rmX3_enoughIn false [.ref xp, .int (nI (h))] (Ω (row q f) rt R T m R1 T1 m1 g n) (some (.int (s_until f h))) (Ω (row q f) (row q (s_und h 201 f)) R T m R1 T1 m1 g n) := by
  refine mj_MC (cc := cX3_enoughIn) (nl := 3) (ret := (some .int)) (plainFor_of_name (by decide)) rfl (⟨_, rfl, rfl⟩) (Nat.le_of_ble_eq_true rfl) ?_
  show GG l cX3_enoughIn MX3_enoughIn false (.inl ((some (.int (s_until f h))), Ω (row q f) (row q (s_und h 201 f)) R T m R1 T1 m1 g n)) 0 [some (.ref xp), some (.int (nI (h))), none] [] (Ω (row q f) rt R T m R1 T1 m1 g n) 0 0
  refine G_iload_n dX3_enoughIn_0 rfl ?_
  refine G_iconst (v := 5) dX3_enoughIn_1 (by decide) ?_
  refine G_callSv dX3_enoughIn_2 kX3_enoughIn_X3_requireIndex ⟨rfl, rfl⟩ ⟨Nat.zero_le _, Nat.zero_le _⟩ (c_reqIndex (a := h) (b := 5) (by omega) (by omega)) rfl rfl rfl ?_
  refine G_aload_n dX3_enoughIn_5 rfl ?_
  refine G_getf dX3_enoughIn_6 fX3_enoughIn_16 (hΩ.1 _ _ _ _ _ _ _ _ _ _) (rfl) ?_
  refine G_aload_n dX3_enoughIn_9 rfl ?_
  refine G_getf dX3_enoughIn_10 fX3_enoughIn_12 (hΩ.1 _ _ _ _ _ _ _ _ _ _) (rfl) ?_
  refine G_callVv dX3_enoughIn_13 kX3_enoughIn_X0_copyFrom ⟨rfl, rfl⟩ ⟨Nat.zero_le _, Nat.zero_le _⟩ (c_copyFrom (hΩ.ll R T m R1 T1 m1 g n)) rfl rfl (((hΩ.2.2.2.1 (row q f) R T m R1 T1 m1 g n) _).1) rfl rfl ?_
  refine G_aeq (f' := (row q f)) ((hΩ.2.2.2.1 (row q f) R T m R1 T1 m1 g n) _).2.1 (fun j hj => ?_) (((hΩ.2.2.2.1 (row q f) R T m R1 T1 m1 g n) _).2.2 _) ?_
  · rw [copy_at, if_pos (by omega)]
  refine G_iconst (v := 0) dX3_enoughIn_16 (by decide) ?_
  refine G_istore_n dX3_enoughIn_17 rfl (L' := [some (.ref xp), some (.int (nI (h))), some (.int 0)]) rfl ?_
  exact xl_until hΩ hh 201 0 D f ho hv (by omega) (by omega)
theorem xl_best (hΩ : CV xp lp ap tp up hp rp kp sp yp zp Ω) {q f R R1 g : mj_S} {T m T1 m1 n : Nat} {D : Nat} (ho : oA f D) (hv : vt f) (hD : D < 2147479000) {k h : Nat} (hk : k < 6) (hh : h < 5) {res : Int32 × Int32} {rt1 : mj_S} : ∀ (d c : Nat) (best most : Int32) (rt : mj_S) (y6 : Option Value), c + d = 4 → res = itr (s_best1 f k h) d c (best, most) → rt1 = itr (s_btr1 q f k h) d c rt → GG l cX3_bestBank MX3_bestBank false (.inl (some (.int res.1), Ω (row q f) rt1 R T m R1 T1 m1 g n)) 19 [some (.ref xp), some (.int (nI (k))), some (.int (nI (h))), some (.int best), some (.int most), some (.int (nI (c))), y6] [] (Ω (row q f) rt R T m R1 T1 m1 g n) 0 0
  | 0, c, best, most, rt, y6, hc, hr, hq => by
    refine G_iload dX3_bestBank_19 rfl ?_
    refine G_iconst (v := 4) dX3_bestBank_21 (by decide) ?_
    refine G_icmp_geN (a := c) (c := 4) 108 dX3_bestBank_22 (by decide) (by omega) (fun c22 => ?_) (fun c22 => ?_)
    · refine G_iload_n dX3_bestBank_108 rfl ?_
      exact G_iret dX3_bestBank_109 ⟨Nat.zero_le _, Nat.zero_le _⟩ (by rw [hr, hq, itr_0, itr_0])
    · exact (show False by omega).elim
  | d + 1, c, best, most, rt, y6, hc, hr, hq => by
    refine G_iload dX3_bestBank_19 rfl ?_
    refine G_iconst (v := 4) dX3_bestBank_21 (by decide) ?_
    refine G_icmp_geN (a := c) (c := 4) 108 dX3_bestBank_22 (by decide) (by omega) (fun c22 => ?_) (fun c22 => ?_)
    · exact (show False by omega).elim
    · refine G_aload_n dX3_bestBank_25 rfl ?_
      refine G_getf dX3_bestBank_26 fX3_bestBank_12 (hΩ.1 _ _ _ _ _ _ _ _ _ _) (rfl) ?_
      refine G_iload_n dX3_bestBank_29 rfl ?_
      refine G_iload dX3_bestBank_30 rfl ?_
      refine G_callVi dX3_bestBank_32 kX3_bestBank_X0_reasonAgainst ⟨rfl, rfl⟩ ⟨Nat.zero_le _, Nat.zero_le _⟩ (c_reasonAgainst ((hΩ.2.1 rt R1 T1 m1 g n).lv R T m) (h := h) (b := c) (by omega) (by omega)) rfl rfl ((((hΩ.2.1 rt R1 T1 m1 g n).lv R T m) _).1) rfl rfl ?_
      refine G_if_ne 102 dX3_bestBank_35 (by decide) (fun c35 => ?_) (fun c35 => ?_)
      · refine G_iincN (a := c) (s := c + 1) dX3_bestBank_102 rfl (by omega) (L' := [some (.ref xp), some (.int (nI (k))), some (.int (nI (h))), some (.int best), some (.int most), some (.int (nI (c + 1))), y6]) rfl ?_
        refine G_goto 19 dX3_bestBank_105 (by decide) ?_
        exact xl_best hΩ ho hv hD hk hh d (c + 1) _ _ _ _ (by omega) (by rw [hr, itr_s, s_best1, if_neg c35]) (by rw [hq, itr_s, s_btr1, if_neg c35])
      · refine G_aload_n dX3_bestBank_38 rfl ?_
        refine G_getf dX3_bestBank_39 fX3_bestBank_16 (hΩ.1 _ _ _ _ _ _ _ _ _ _) (rfl) ?_
        refine G_aload_n dX3_bestBank_42 rfl ?_
        refine G_getf dX3_bestBank_43 fX3_bestBank_12 (hΩ.1 _ _ _ _ _ _ _ _ _ _) (rfl) ?_
        refine G_callVv dX3_bestBank_46 kX3_bestBank_X0_copyFrom ⟨rfl, rfl⟩ ⟨Nat.zero_le _, Nat.zero_le _⟩ (c_copyFrom (hΩ.ll R T m R1 T1 m1 g n)) rfl rfl (((hΩ.2.2.2.1 (row q f) R T m R1 T1 m1 g n) _).1) rfl rfl ?_
        refine G_aeq (f' := (row q f)) ((hΩ.2.2.2.1 (row q f) R T m R1 T1 m1 g n) _).2.1 (fun j hj => ?_) (((hΩ.2.2.2.1 (row q f) R T m R1 T1 m1 g n) _).2.2 _) ?_
        · rw [copy_at, if_pos (by omega)]
        refine G_aload_n dX3_bestBank_49 rfl ?_
        refine G_getf dX3_bestBank_50 fX3_bestBank_16 (hΩ.1 _ _ _ _ _ _ _ _ _ _) (rfl) ?_
        refine G_iload_n dX3_bestBank_53 rfl ?_
        refine G_iload_n dX3_bestBank_54 rfl ?_
        refine G_iload dX3_bestBank_55 rfl ?_
        refine G_callVv dX3_bestBank_57 kX3_bestBank_X0_setToWork ⟨rfl, rfl⟩ ⟨Nat.zero_le _, Nat.zero_le _⟩ (c_setToWork (hΩ.2.2.2.1 (row q f) R T m R1 T1 m1 g n) (c := k) (by omega)) rfl rfl (((hΩ.2.2.2.1 (row q f) R T m R1 T1 m1 g n) _).1) rfl rfl ?_
        have ho1 := oA_setw ho hk (Or.inr ⟨h, c, hh, by omega, rfl, rfl⟩)
        have hv1 := vt_setw (u := nI h) (v := nI c) hk hv
        refine G_aload_n dX3_bestBank_60 rfl ?_
        refine G_getf dX3_bestBank_61 fX3_bestBank_16 (hΩ.1 _ _ _ _ _ _ _ _ _ _) (rfl) ?_
        refine G_bipush (v := 20) dX3_bestBank_64 (by decide) ?_
        refine G_callVi dX3_bestBank_66 kX3_bestBank_X0_passDays ⟨rfl, rfl⟩ ⟨Nat.zero_le _, Nat.zero_le _⟩ (c_passDays (hΩ.2.2.2.1 (row q f) R T m R1 T1 m1 g n) (n := 20) ho1 hv1 (by omega)) rfl rfl (((hΩ.2.2.2.1 (row q f) R T m R1 T1 m1 g n) _).1) rfl rfl ?_
        refine G_pop dX3_bestBank_69 rfl ?_
        refine G_aload_n dX3_bestBank_70 rfl ?_
        refine G_getf dX3_bestBank_71 fX3_bestBank_16 (hΩ.1 _ _ _ _ _ _ _ _ _ _) (rfl) ?_
        refine G_bipush (v := 15) dX3_bestBank_74 (by decide) ?_
        refine G_iload_n dX3_bestBank_76 rfl ?_
        refine G_iaddN (a := 15) (c := h) (s := 15 + h) dX3_bestBank_77 (by omega) ?_
        refine G_callVi dX3_bestBank_78 kX3_bestBank_X0_at ⟨rfl, rfl⟩ ⟨Nat.zero_le _, Nat.zero_le _⟩ (c_atL (hΩ.2.2.2.1 (row q f) R T m R1 T1 m1 g n) (j := 15 + h) (by omega)) rfl rfl (((hΩ.2.2.2.1 (row q f) R T m R1 T1 m1 g n) _).1) rfl rfl ?_
        refine G_istore dX3_bestBank_81 rfl (L' := [some (.ref xp), some (.int (nI (k))), some (.int (nI (h))), some (.int best), some (.int most), some (.int (nI (c))), some (.int ((s_days (20) (s_setw f (k) (nI (h)) (nI (c)))).1 (15 + h)))]) rfl ?_
        refine G_iload_n dX3_bestBank_83 rfl ?_
        refine G_iconst (v := (-1)) dX3_bestBank_84 (by decide) ?_
        refine G_icmp_eq 95 dX3_bestBank_85 (by decide) (fun c85 => ?_) (fun c85 => ?_)
        · refine G_iload dX3_bestBank_95 rfl ?_
          refine G_istore_n dX3_bestBank_97 rfl (L' := [some (.ref xp), some (.int (nI (k))), some (.int (nI (h))), some (.int (nI (c))), some (.int most), some (.int (nI (c))), some (.int ((s_days (20) (s_setw f (k) (nI (h)) (nI (c)))).1 (15 + h)))]) rfl ?_
          refine G_iload dX3_bestBank_98 rfl ?_
          refine G_istore dX3_bestBank_100 rfl (L' := [some (.ref xp), some (.int (nI (k))), some (.int (nI (h))), some (.int (nI (c))), some (.int ((s_days (20) (s_setw f (k) (nI (h)) (nI (c)))).1 (15 + h))), some (.int (nI (c))), some (.int ((s_days (20) (s_setw f (k) (nI (h)) (nI (c)))).1 (15 + h)))]) rfl ?_
          refine G_iincN (a := c) (s := c + 1) dX3_bestBank_102 rfl (by omega) (L' := [some (.ref xp), some (.int (nI (k))), some (.int (nI (h))), some (.int (nI (c))), some (.int ((s_days (20) (s_setw f (k) (nI (h)) (nI (c)))).1 (15 + h))), some (.int (nI (c + 1))), some (.int ((s_days (20) (s_setw f (k) (nI (h)) (nI (c)))).1 (15 + h)))]) rfl ?_
          refine G_goto 19 dX3_bestBank_105 (by decide) ?_
          have es : s_best1 f k h c (best, most) = (nI c, s_home f k h c) := by
            rw [s_best1, if_pos c35]
            exact if_pos (Or.inl c85)
          exact xl_best hΩ ho hv hD hk hh d (c + 1) _ _ _ _ (by omega) (by rw [hr, itr_s, es]; rfl) (by rw [hq, itr_s, s_btr1, if_pos c35])
        · refine G_iload dX3_bestBank_88 rfl ?_
          refine G_iload dX3_bestBank_90 rfl ?_
          refine G_icmp_le 102 dX3_bestBank_92 (by decide) (fun c92 => ?_) (fun c92 => ?_)
          · refine G_iincN (a := c) (s := c + 1) dX3_bestBank_102 rfl (by omega) (L' := [some (.ref xp), some (.int (nI (k))), some (.int (nI (h))), some (.int best), some (.int most), some (.int (nI (c + 1))), some (.int ((s_days (20) (s_setw f (k) (nI (h)) (nI (c)))).1 (15 + h)))]) rfl ?_
            refine G_goto 19 dX3_bestBank_105 (by decide) ?_
            have es : s_best1 f k h c (best, most) = (best, most) := by
              rw [s_best1, if_pos c35]
              exact if_neg (fun z => z.elim c85 (Int32.not_lt.mpr c92))
            exact xl_best hΩ ho hv hD hk hh d (c + 1) _ _ _ _ (by omega) (by rw [hr, itr_s, es]) (by rw [hq, itr_s, s_btr1, if_pos c35])
          · refine G_iload dX3_bestBank_95 rfl ?_
            refine G_istore_n dX3_bestBank_97 rfl (L' := [some (.ref xp), some (.int (nI (k))), some (.int (nI (h))), some (.int (nI (c))), some (.int most), some (.int (nI (c))), some (.int ((s_days (20) (s_setw f (k) (nI (h)) (nI (c)))).1 (15 + h)))]) rfl ?_
            refine G_iload dX3_bestBank_98 rfl ?_
            refine G_istore dX3_bestBank_100 rfl (L' := [some (.ref xp), some (.int (nI (k))), some (.int (nI (h))), some (.int (nI (c))), some (.int ((s_days (20) (s_setw f (k) (nI (h)) (nI (c)))).1 (15 + h))), some (.int (nI (c))), some (.int ((s_days (20) (s_setw f (k) (nI (h)) (nI (c)))).1 (15 + h)))]) rfl ?_
            refine G_iincN (a := c) (s := c + 1) dX3_bestBank_102 rfl (by omega) (L' := [some (.ref xp), some (.int (nI (k))), some (.int (nI (h))), some (.int (nI (c))), some (.int ((s_days (20) (s_setw f (k) (nI (h)) (nI (c)))).1 (15 + h))), some (.int (nI (c + 1))), some (.int ((s_days (20) (s_setw f (k) (nI (h)) (nI (c)))).1 (15 + h)))]) rfl ?_
            refine G_goto 19 dX3_bestBank_105 (by decide) ?_
            have es : s_best1 f k h c (best, most) = (nI c, s_home f k h c) := by
              rw [s_best1, if_pos c35]
              exact if_pos (Or.inr (Int32.not_le.mp c92))
            exact xl_best hΩ ho hv hD hk hh d (c + 1) _ _ _ _ (by omega) (by rw [hr, itr_s, es]; rfl) (by rw [hq, itr_s, s_btr1, if_pos c35])
theorem x_bestBank (hΩ : CV xp lp ap tp up hp rp kp sp yp zp Ω) {q f rt R R1 g : mj_S} {T m T1 m1 n : Nat} {D : Nat} (ho : oA f D) (hv : vt f) (hD : D < 2147479000) {k h : Nat} (hk : k < 6) (hh : h < 5) : MC l yX3_bestBank wsX3_bestBank rmX3_bestBank false [.ref xp, .int (nI (k)), .int (nI (h))] (Ω (row q f) rt R T m R1 T1 m1 g n) (some (.int (s_best f k h))) (Ω (row q f) (itr (s_btr1 q f k h) 4 0 rt) R T m R1 T1 m1 g n) := by
  refine mj_MC (cc := cX3_bestBank) (nl := 7) (ret := (some .int)) (plainFor_of_name (by decide)) rfl (⟨_, rfl, rfl⟩) (Nat.le_of_ble_eq_true rfl) ?_
  show GG l cX3_bestBank MX3_bestBank false (.inl ((some (.int (s_best f k h))), Ω (row q f) (itr (s_btr1 q f k h) 4 0 rt) R T m R1 T1 m1 g n)) 0 [some (.ref xp), some (.int (nI (k))), some (.int (nI (h))), none, none, none, none] [] (Ω (row q f) rt R T m R1 T1 m1 g n) 0 0
  refine G_iload_n dX3_bestBank_0 rfl ?_
  refine G_bipush (v := 6) dX3_bestBank_1 (by decide) ?_
  refine G_callSv dX3_bestBank_3 kX3_bestBank_X3_requireIndex ⟨rfl, rfl⟩ ⟨Nat.zero_le _, Nat.zero_le _⟩ (c_reqIndex (a := k) (b := 6) (by omega) (by omega)) rfl rfl rfl ?_
  refine G_iload_n dX3_bestBank_6 rfl ?_
  refine G_iconst (v := 5) dX3_bestBank_7 (by decide) ?_
  refine G_callSv dX3_bestBank_8 kX3_bestBank_X3_requireIndex ⟨rfl, rfl⟩ ⟨Nat.zero_le _, Nat.zero_le _⟩ (c_reqIndex (a := h) (b := 5) (by omega) (by omega)) rfl rfl rfl ?_
  refine G_iconst (v := (-1)) dX3_bestBank_11 (by decide) ?_
  refine G_istore_n dX3_bestBank_12 rfl (L' := [some (.ref xp), some (.int (nI (k))), some (.int (nI (h))), some (.int (-1)), none, none, none]) rfl ?_
  refine G_iconst (v := 0) dX3_bestBank_13 (by decide) ?_
  refine G_istore dX3_bestBank_14 rfl (L' := [some (.ref xp), some (.int (nI (k))), some (.int (nI (h))), some (.int (-1)), some (.int 0), none, none]) rfl ?_
  refine G_iconst (v := 0) dX3_bestBank_16 (by decide) ?_
  refine G_istore dX3_bestBank_17 rfl (L' := [some (.ref xp), some (.int (nI (k))), some (.int (nI (h))), some (.int (-1)), some (.int 0), some (.int 0), none]) rfl ?_
  exact xl_best hΩ ho hv hD hk hh 4 0 (-1) 0 rt _ (by omega) rfl rfl
theorem x_pp99 (hΩ : CV xp lp ap tp up hp rp kp sp yp zp Ω) {q f rt R R1 g : mj_S} {T m T1 m1 n : Nat} {D : Nat} (ho : oA f D) (hv : vt f) (hD : D < 2147479000) {t : Nat → Nat} (hX : TX g n t) {i : Nat} (hi : i < 900) (hs : sg t n i = 99) (h1 : s_nm t n (i + 1) < 6) (h2 : s_nm t n (3 + i) < 5) (h3 : s_nm t n (5 + i) < 4) (hr : s_why f (s_nm t n (3 + i)) (s_nm t n (5 + i)) = 0) : MC l yX3_playPart wsX3_playPart rmX3_playPart false [.ref xp, .int (nI (i))] (Ω (row q f) rt R T m R1 T1 m1 g n) (some (.int (nI (s_do t n i f).1))) (Ω (row q ((s_do t n i f).2)) rt R T m R1 T1 m1 g n) := by
  refine mj_MC (cc := cX3_playPart) (nl := 6) (ret := (some .boolean)) (plainFor_of_name (by decide)) rfl (⟨_, rfl, nb1 (s_do_le _ _ _ _)⟩) (Nat.le_of_ble_eq_true rfl) ?_
  show GG l cX3_playPart MX3_playPart false (.inl ((some (.int (nI (s_do t n i f).1))), Ω (row q ((s_do t n i f).2)) rt R T m R1 T1 m1 g n)) 0 [some (.ref xp), some (.int (nI (i))), none, none, none, none] [] (Ω (row q f) rt R T m R1 T1 m1 g n) 0 0
  refine G_aload_n dX3_playPart_0 rfl ?_
  refine G_getf dX3_playPart_1 fX3_playPart_34 (hΩ.1 _ _ _ _ _ _ _ _ _ _) (rfl) ?_
  refine G_iload_n dX3_playPart_4 rfl ?_
  have := sg_le hX (i)
  refine G_callVi dX3_playPart_5 kX3_playPart_X2_signAt ⟨rfl, rfl⟩ ⟨Nat.zero_le _, Nat.zero_le _⟩ (c_signAt (hΩ.2.2.2.2 (row q f) rt R T m R1 T1 m1) hX (i := i) (by omega)) rfl rfl (((hΩ.2.2.2.2 (row q f) rt R T m R1 T1 m1) _ _).1) rfl rfl ?_
  refine G_eqi (congrArg nI hs) ?_
  refine G_istore_n dX3_playPart_8 rfl (L' := [some (.ref xp), some (.int (nI (i))), some (.int 99), none, none, none]) rfl ?_
  refine G_aload_n dX3_playPart_9 rfl ?_
  refine G_getf dX3_playPart_10 fX3_playPart_34 (hΩ.1 _ _ _ _ _ _ _ _ _ _) (rfl) ?_
  refine G_iload_n dX3_playPart_13 rfl ?_
  refine G_iconst (v := 1) dX3_playPart_14 (by decide) ?_
  refine G_iaddN (a := i) (c := 1) (s := i + 1) dX3_playPart_15 (by omega) ?_
  refine G_callVi dX3_playPart_16 kX3_playPart_X2_numberAt ⟨rfl, rfl⟩ ⟨Nat.zero_le _, Nat.zero_le _⟩ (c_numberAt (hΩ.2.2.2.2 (row q f) rt R T m R1 T1 m1) hX (i := i + 1) (by omega)) rfl rfl (((hΩ.2.2.2.2 (row q f) rt R T m R1 T1 m1) _ _).1) rfl rfl ?_
  refine G_istore_n dX3_playPart_19 rfl (L' := [some (.ref xp), some (.int (nI (i))), some (.int 99), some (.int (nI ((s_nm t n (i + 1))))), none, none]) rfl ?_
  refine G_iload_n dX3_playPart_20 rfl ?_
  refine G_bipush (v := 99) dX3_playPart_21 (by decide) ?_
  refine G_icmp_neN (a := 99) (c := 99) 81 dX3_playPart_23 (by decide) (by omega) (fun c23 => ?_) (fun c23 => ?_)
  · exact (show False by omega).elim
  · refine G_aload_n dX3_playPart_26 rfl ?_
    refine G_getf dX3_playPart_27 fX3_playPart_34 (hΩ.1 _ _ _ _ _ _ _ _ _ _) (rfl) ?_
    refine G_iload_n dX3_playPart_30 rfl ?_
    refine G_iconst (v := 3) dX3_playPart_31 (by decide) ?_
    refine G_iaddN (a := i) (c := 3) (s := 3 + i) dX3_playPart_32 (by omega) ?_
    refine G_callVi dX3_playPart_33 kX3_playPart_X2_numberAt ⟨rfl, rfl⟩ ⟨Nat.zero_le _, Nat.zero_le _⟩ (c_numberAt (hΩ.2.2.2.2 (row q f) rt R T m R1 T1 m1) hX (i := 3 + i) (by omega)) rfl rfl (((hΩ.2.2.2.2 (row q f) rt R T m R1 T1 m1) _ _).1) rfl rfl ?_
    refine G_istore dX3_playPart_36 rfl (L' := [some (.ref xp), some (.int (nI (i))), some (.int 99), some (.int (nI ((s_nm t n (i + 1))))), some (.int (nI ((s_nm t n (3 + i))))), none]) rfl ?_
    refine G_aload_n dX3_playPart_38 rfl ?_
    refine G_getf dX3_playPart_39 fX3_playPart_34 (hΩ.1 _ _ _ _ _ _ _ _ _ _) (rfl) ?_
    refine G_iload_n dX3_playPart_42 rfl ?_
    refine G_iconst (v := 5) dX3_playPart_43 (by decide) ?_
    refine G_iaddN (a := i) (c := 5) (s := 5 + i) dX3_playPart_44 (by omega) ?_
    refine G_callVi dX3_playPart_45 kX3_playPart_X2_numberAt ⟨rfl, rfl⟩ ⟨Nat.zero_le _, Nat.zero_le _⟩ (c_numberAt (hΩ.2.2.2.2 (row q f) rt R T m R1 T1 m1) hX (i := 5 + i) (by omega)) rfl rfl (((hΩ.2.2.2.2 (row q f) rt R T m R1 T1 m1) _ _).1) rfl rfl ?_
    refine G_istore dX3_playPart_48 rfl (L' := [some (.ref xp), some (.int (nI (i))), some (.int 99), some (.int (nI ((s_nm t n (i + 1))))), some (.int (nI ((s_nm t n (3 + i))))), some (.int (nI ((s_nm t n (5 + i)))))]) rfl ?_
    refine G_aload_n dX3_playPart_50 rfl ?_
    refine G_getf dX3_playPart_51 fX3_playPart_12 (hΩ.1 _ _ _ _ _ _ _ _ _ _) (rfl) ?_
    refine G_iload dX3_playPart_54 rfl ?_
    refine G_iload dX3_playPart_56 rfl ?_
    refine G_callVi dX3_playPart_58 kX3_playPart_X0_reasonAgainst ⟨rfl, rfl⟩ ⟨Nat.zero_le _, Nat.zero_le _⟩ (c_reasonAgainst ((hΩ.2.1 rt R1 T1 m1 g n).lv R T m) (h := (s_nm t n (3 + i))) (b := (s_nm t n (5 + i))) (by omega) (by omega)) rfl rfl ((((hΩ.2.1 rt R1 T1 m1 g n).lv R T m) _).1) rfl rfl ?_
    refine G_if_eq 66 dX3_playPart_61 (by decide) (fun c61 => ?_) (fun c61 => ?_)
    · refine G_aload_n dX3_playPart_66 rfl ?_
      refine G_getf dX3_playPart_67 fX3_playPart_12 (hΩ.1 _ _ _ _ _ _ _ _ _ _) (rfl) ?_
      refine G_iload_n dX3_playPart_70 rfl ?_
      refine G_iload dX3_playPart_71 rfl ?_
      refine G_iload dX3_playPart_73 rfl ?_
      refine G_callVv dX3_playPart_75 kX3_playPart_X0_setToWork ⟨rfl, rfl⟩ ⟨Nat.zero_le _, Nat.zero_le _⟩ (c_setToWork ((hΩ.2.1 rt R1 T1 m1 g n).lv R T m) (c := (s_nm t n (i + 1))) (by omega)) rfl rfl ((((hΩ.2.1 rt R1 T1 m1 g n).lv R T m) _).1) rfl rfl ?_
      refine G_goto 123 dX3_playPart_78 (by decide) ?_
      refine G_iconst (v := 1) dX3_playPart_123 (by decide) ?_
      exact G_iret dX3_playPart_124 ⟨Nat.zero_le _, Nat.zero_le _⟩ (by rw [show s_do t n i f = (1, (s_setw f (s_nm t n (i + 1)) (nI (s_nm t n (3 + i))) (nI (s_nm t n (5 + i))))) from by have hr' := hr; rw [Nat.add_comm 3 i, Nat.add_comm 5 i] at hr'; rw [s_do, Nat.add_comm 3 i, Nat.add_comm 5 i, if_pos hs, if_pos hr']]; rfl)
    · exact absurd hr c61
theorem x_pp99n (hΩ : CV xp lp ap tp up hp rp kp sp yp zp Ω) {q f rt R R1 g : mj_S} {T m T1 m1 n : Nat} {D : Nat} (ho : oA f D) (hv : vt f) (hD : D < 2147479000) {t : Nat → Nat} (hX : TX g n t) {i : Nat} (hi : i < 900) (hs : sg t n i = 99) (h1 : s_nm t n (i + 1) < 6) (h2 : s_nm t n (3 + i) < 5) (h3 : s_nm t n (5 + i) < 4) (hr : ¬ s_why f (s_nm t n (3 + i)) (s_nm t n (5 + i)) = 0) : MC l yX3_playPart wsX3_playPart rmX3_playPart false [.ref xp, .int (nI (i))] (Ω (row q f) rt R T m R1 T1 m1 g n) (some (.int (nI (s_do t n i f).1))) (Ω (row q ((s_do t n i f).2)) rt R T m R1 T1 m1 g n) := by
  refine mj_MC (cc := cX3_playPart) (nl := 6) (ret := (some .boolean)) (plainFor_of_name (by decide)) rfl (⟨_, rfl, nb1 (s_do_le _ _ _ _)⟩) (Nat.le_of_ble_eq_true rfl) ?_
  show GG l cX3_playPart MX3_playPart false (.inl ((some (.int (nI (s_do t n i f).1))), Ω (row q ((s_do t n i f).2)) rt R T m R1 T1 m1 g n)) 0 [some (.ref xp), some (.int (nI (i))), none, none, none, none] [] (Ω (row q f) rt R T m R1 T1 m1 g n) 0 0
  refine G_aload_n dX3_playPart_0 rfl ?_
  refine G_getf dX3_playPart_1 fX3_playPart_34 (hΩ.1 _ _ _ _ _ _ _ _ _ _) (rfl) ?_
  refine G_iload_n dX3_playPart_4 rfl ?_
  have := sg_le hX (i)
  refine G_callVi dX3_playPart_5 kX3_playPart_X2_signAt ⟨rfl, rfl⟩ ⟨Nat.zero_le _, Nat.zero_le _⟩ (c_signAt (hΩ.2.2.2.2 (row q f) rt R T m R1 T1 m1) hX (i := i) (by omega)) rfl rfl (((hΩ.2.2.2.2 (row q f) rt R T m R1 T1 m1) _ _).1) rfl rfl ?_
  refine G_eqi (congrArg nI hs) ?_
  refine G_istore_n dX3_playPart_8 rfl (L' := [some (.ref xp), some (.int (nI (i))), some (.int 99), none, none, none]) rfl ?_
  refine G_aload_n dX3_playPart_9 rfl ?_
  refine G_getf dX3_playPart_10 fX3_playPart_34 (hΩ.1 _ _ _ _ _ _ _ _ _ _) (rfl) ?_
  refine G_iload_n dX3_playPart_13 rfl ?_
  refine G_iconst (v := 1) dX3_playPart_14 (by decide) ?_
  refine G_iaddN (a := i) (c := 1) (s := i + 1) dX3_playPart_15 (by omega) ?_
  refine G_callVi dX3_playPart_16 kX3_playPart_X2_numberAt ⟨rfl, rfl⟩ ⟨Nat.zero_le _, Nat.zero_le _⟩ (c_numberAt (hΩ.2.2.2.2 (row q f) rt R T m R1 T1 m1) hX (i := i + 1) (by omega)) rfl rfl (((hΩ.2.2.2.2 (row q f) rt R T m R1 T1 m1) _ _).1) rfl rfl ?_
  refine G_istore_n dX3_playPart_19 rfl (L' := [some (.ref xp), some (.int (nI (i))), some (.int 99), some (.int (nI ((s_nm t n (i + 1))))), none, none]) rfl ?_
  refine G_iload_n dX3_playPart_20 rfl ?_
  refine G_bipush (v := 99) dX3_playPart_21 (by decide) ?_
  refine G_icmp_neN (a := 99) (c := 99) 81 dX3_playPart_23 (by decide) (by omega) (fun c23 => ?_) (fun c23 => ?_)
  · exact (show False by omega).elim
  · refine G_aload_n dX3_playPart_26 rfl ?_
    refine G_getf dX3_playPart_27 fX3_playPart_34 (hΩ.1 _ _ _ _ _ _ _ _ _ _) (rfl) ?_
    refine G_iload_n dX3_playPart_30 rfl ?_
    refine G_iconst (v := 3) dX3_playPart_31 (by decide) ?_
    refine G_iaddN (a := i) (c := 3) (s := 3 + i) dX3_playPart_32 (by omega) ?_
    refine G_callVi dX3_playPart_33 kX3_playPart_X2_numberAt ⟨rfl, rfl⟩ ⟨Nat.zero_le _, Nat.zero_le _⟩ (c_numberAt (hΩ.2.2.2.2 (row q f) rt R T m R1 T1 m1) hX (i := 3 + i) (by omega)) rfl rfl (((hΩ.2.2.2.2 (row q f) rt R T m R1 T1 m1) _ _).1) rfl rfl ?_
    refine G_istore dX3_playPart_36 rfl (L' := [some (.ref xp), some (.int (nI (i))), some (.int 99), some (.int (nI ((s_nm t n (i + 1))))), some (.int (nI ((s_nm t n (3 + i))))), none]) rfl ?_
    refine G_aload_n dX3_playPart_38 rfl ?_
    refine G_getf dX3_playPart_39 fX3_playPart_34 (hΩ.1 _ _ _ _ _ _ _ _ _ _) (rfl) ?_
    refine G_iload_n dX3_playPart_42 rfl ?_
    refine G_iconst (v := 5) dX3_playPart_43 (by decide) ?_
    refine G_iaddN (a := i) (c := 5) (s := 5 + i) dX3_playPart_44 (by omega) ?_
    refine G_callVi dX3_playPart_45 kX3_playPart_X2_numberAt ⟨rfl, rfl⟩ ⟨Nat.zero_le _, Nat.zero_le _⟩ (c_numberAt (hΩ.2.2.2.2 (row q f) rt R T m R1 T1 m1) hX (i := 5 + i) (by omega)) rfl rfl (((hΩ.2.2.2.2 (row q f) rt R T m R1 T1 m1) _ _).1) rfl rfl ?_
    refine G_istore dX3_playPart_48 rfl (L' := [some (.ref xp), some (.int (nI (i))), some (.int 99), some (.int (nI ((s_nm t n (i + 1))))), some (.int (nI ((s_nm t n (3 + i))))), some (.int (nI ((s_nm t n (5 + i)))))]) rfl ?_
    refine G_aload_n dX3_playPart_50 rfl ?_
    refine G_getf dX3_playPart_51 fX3_playPart_12 (hΩ.1 _ _ _ _ _ _ _ _ _ _) (rfl) ?_
    refine G_iload dX3_playPart_54 rfl ?_
    refine G_iload dX3_playPart_56 rfl ?_
    refine G_callVi dX3_playPart_58 kX3_playPart_X0_reasonAgainst ⟨rfl, rfl⟩ ⟨Nat.zero_le _, Nat.zero_le _⟩ (c_reasonAgainst ((hΩ.2.1 rt R1 T1 m1 g n).lv R T m) (h := (s_nm t n (3 + i))) (b := (s_nm t n (5 + i))) (by omega) (by omega)) rfl rfl ((((hΩ.2.1 rt R1 T1 m1 g n).lv R T m) _).1) rfl rfl ?_
    refine G_if_eq 66 dX3_playPart_61 (by decide) (fun c61 => ?_) (fun c61 => ?_)
    · exact absurd c61 hr
    · refine G_iconst (v := 0) dX3_playPart_64 (by decide) ?_
      exact G_iret dX3_playPart_65 ⟨Nat.zero_le _, Nat.zero_le _⟩ (by rw [show s_do t n i f = (0, f) from by have hr' := hr; rw [Nat.add_comm 3 i, Nat.add_comm 5 i] at hr'; rw [s_do, if_pos hs, if_neg hr']]; rfl)
theorem x_pp114 (hΩ : CV xp lp ap tp up hp rp kp sp yp zp Ω) {q f rt R R1 g : mj_S} {T m T1 m1 n : Nat} {D : Nat} (ho : oA f D) (hv : vt f) (hD : D < 2147479000) {t : Nat → Nat} (hX : TX g n t) {i : Nat} (hi : i < 900) (hs : sg t n i = 114) (h1 : s_nm t n (i + 1) < 6) : MC l yX3_playPart wsX3_playPart rmX3_playPart false [.ref xp, .int (nI (i))] (Ω (row q f) rt R T m R1 T1 m1 g n) (some (.int (nI (s_do t n i f).1))) (Ω (row q ((s_do t n i f).2)) rt R T m R1 T1 m1 g n) := by
  refine mj_MC (cc := cX3_playPart) (nl := 6) (ret := (some .boolean)) (plainFor_of_name (by decide)) rfl (⟨_, rfl, nb1 (s_do_le _ _ _ _)⟩) (Nat.le_of_ble_eq_true rfl) ?_
  show GG l cX3_playPart MX3_playPart false (.inl ((some (.int (nI (s_do t n i f).1))), Ω (row q ((s_do t n i f).2)) rt R T m R1 T1 m1 g n)) 0 [some (.ref xp), some (.int (nI (i))), none, none, none, none] [] (Ω (row q f) rt R T m R1 T1 m1 g n) 0 0
  refine G_aload_n dX3_playPart_0 rfl ?_
  refine G_getf dX3_playPart_1 fX3_playPart_34 (hΩ.1 _ _ _ _ _ _ _ _ _ _) (rfl) ?_
  refine G_iload_n dX3_playPart_4 rfl ?_
  have := sg_le hX (i)
  refine G_callVi dX3_playPart_5 kX3_playPart_X2_signAt ⟨rfl, rfl⟩ ⟨Nat.zero_le _, Nat.zero_le _⟩ (c_signAt (hΩ.2.2.2.2 (row q f) rt R T m R1 T1 m1) hX (i := i) (by omega)) rfl rfl (((hΩ.2.2.2.2 (row q f) rt R T m R1 T1 m1) _ _).1) rfl rfl ?_
  refine G_eqi (congrArg nI hs) ?_
  refine G_istore_n dX3_playPart_8 rfl (L' := [some (.ref xp), some (.int (nI (i))), some (.int 114), none, none, none]) rfl ?_
  refine G_aload_n dX3_playPart_9 rfl ?_
  refine G_getf dX3_playPart_10 fX3_playPart_34 (hΩ.1 _ _ _ _ _ _ _ _ _ _) (rfl) ?_
  refine G_iload_n dX3_playPart_13 rfl ?_
  refine G_iconst (v := 1) dX3_playPart_14 (by decide) ?_
  refine G_iaddN (a := i) (c := 1) (s := i + 1) dX3_playPart_15 (by omega) ?_
  refine G_callVi dX3_playPart_16 kX3_playPart_X2_numberAt ⟨rfl, rfl⟩ ⟨Nat.zero_le _, Nat.zero_le _⟩ (c_numberAt (hΩ.2.2.2.2 (row q f) rt R T m R1 T1 m1) hX (i := i + 1) (by omega)) rfl rfl (((hΩ.2.2.2.2 (row q f) rt R T m R1 T1 m1) _ _).1) rfl rfl ?_
  refine G_istore_n dX3_playPart_19 rfl (L' := [some (.ref xp), some (.int (nI (i))), some (.int 114), some (.int (nI ((s_nm t n (i + 1))))), none, none]) rfl ?_
  refine G_iload_n dX3_playPart_20 rfl ?_
  refine G_bipush (v := 99) dX3_playPart_21 (by decide) ?_
  refine G_icmp_neN (a := 114) (c := 99) 81 dX3_playPart_23 (by decide) (by omega) (fun c23 => ?_) (fun c23 => ?_)
  · refine G_iload_n dX3_playPart_81 rfl ?_
    refine G_bipush (v := 114) dX3_playPart_82 (by decide) ?_
    refine G_icmp_neN (a := 114) (c := 114) 98 dX3_playPart_84 (by decide) (by omega) (fun c84 => ?_) (fun c84 => ?_)
    · exact (show False by omega).elim
    · refine G_aload_n dX3_playPart_87 rfl ?_
      refine G_getf dX3_playPart_88 fX3_playPart_12 (hΩ.1 _ _ _ _ _ _ _ _ _ _) (rfl) ?_
      refine G_iload_n dX3_playPart_91 rfl ?_
      refine G_callVv dX3_playPart_92 kX3_playPart_X0_letRest ⟨rfl, rfl⟩ ⟨Nat.zero_le _, Nat.zero_le _⟩ (c_letRest ((hΩ.2.1 rt R1 T1 m1 g n).lv R T m) (c := (s_nm t n (i + 1))) (by omega)) rfl rfl ((((hΩ.2.1 rt R1 T1 m1 g n).lv R T m) _).1) rfl rfl ?_
      refine G_goto 123 dX3_playPart_95 (by decide) ?_
      refine G_iconst (v := 1) dX3_playPart_123 (by decide) ?_
      exact G_iret dX3_playPart_124 ⟨Nat.zero_le _, Nat.zero_le _⟩ (by rw [show s_do t n i f = (1, (s_setw f (s_nm t n (i + 1)) (-1) (-1))) from by rw [s_do, if_neg (by omega), if_pos hs]]; rfl)
  · exact (show False by omega).elim
theorem x_pp43 (hΩ : CV xp lp ap tp up hp rp kp sp yp zp Ω) {q f rt R R1 g : mj_S} {T m T1 m1 n : Nat} {D : Nat} (ho : oA f D) (hv : vt f) (hD : D < 2147479000) {t : Nat → Nat} (hX : TX g n t) {i : Nat} (hi : i < 900) (hs : sg t n i = 43) (h1 : s_nm t n (i + 1) ≤ 60) : MC l yX3_playPart wsX3_playPart rmX3_playPart false [.ref xp, .int (nI (i))] (Ω (row q f) rt R T m R1 T1 m1 g n) (some (.int (nI (s_do t n i f).1))) (Ω (row q ((s_do t n i f).2)) rt R T m R1 T1 m1 g n) := by
  refine mj_MC (cc := cX3_playPart) (nl := 6) (ret := (some .boolean)) (plainFor_of_name (by decide)) rfl (⟨_, rfl, nb1 (s_do_le _ _ _ _)⟩) (Nat.le_of_ble_eq_true rfl) ?_
  show GG l cX3_playPart MX3_playPart false (.inl ((some (.int (nI (s_do t n i f).1))), Ω (row q ((s_do t n i f).2)) rt R T m R1 T1 m1 g n)) 0 [some (.ref xp), some (.int (nI (i))), none, none, none, none] [] (Ω (row q f) rt R T m R1 T1 m1 g n) 0 0
  refine G_aload_n dX3_playPart_0 rfl ?_
  refine G_getf dX3_playPart_1 fX3_playPart_34 (hΩ.1 _ _ _ _ _ _ _ _ _ _) (rfl) ?_
  refine G_iload_n dX3_playPart_4 rfl ?_
  have := sg_le hX (i)
  refine G_callVi dX3_playPart_5 kX3_playPart_X2_signAt ⟨rfl, rfl⟩ ⟨Nat.zero_le _, Nat.zero_le _⟩ (c_signAt (hΩ.2.2.2.2 (row q f) rt R T m R1 T1 m1) hX (i := i) (by omega)) rfl rfl (((hΩ.2.2.2.2 (row q f) rt R T m R1 T1 m1) _ _).1) rfl rfl ?_
  refine G_eqi (congrArg nI hs) ?_
  refine G_istore_n dX3_playPart_8 rfl (L' := [some (.ref xp), some (.int (nI (i))), some (.int 43), none, none, none]) rfl ?_
  refine G_aload_n dX3_playPart_9 rfl ?_
  refine G_getf dX3_playPart_10 fX3_playPart_34 (hΩ.1 _ _ _ _ _ _ _ _ _ _) (rfl) ?_
  refine G_iload_n dX3_playPart_13 rfl ?_
  refine G_iconst (v := 1) dX3_playPart_14 (by decide) ?_
  refine G_iaddN (a := i) (c := 1) (s := i + 1) dX3_playPart_15 (by omega) ?_
  refine G_callVi dX3_playPart_16 kX3_playPart_X2_numberAt ⟨rfl, rfl⟩ ⟨Nat.zero_le _, Nat.zero_le _⟩ (c_numberAt (hΩ.2.2.2.2 (row q f) rt R T m R1 T1 m1) hX (i := i + 1) (by omega)) rfl rfl (((hΩ.2.2.2.2 (row q f) rt R T m R1 T1 m1) _ _).1) rfl rfl ?_
  refine G_istore_n dX3_playPart_19 rfl (L' := [some (.ref xp), some (.int (nI (i))), some (.int 43), some (.int (nI ((s_nm t n (i + 1))))), none, none]) rfl ?_
  refine G_iload_n dX3_playPart_20 rfl ?_
  refine G_bipush (v := 99) dX3_playPart_21 (by decide) ?_
  refine G_icmp_neN (a := 43) (c := 99) 81 dX3_playPart_23 (by decide) (by omega) (fun c23 => ?_) (fun c23 => ?_)
  · refine G_iload_n dX3_playPart_81 rfl ?_
    refine G_bipush (v := 114) dX3_playPart_82 (by decide) ?_
    refine G_icmp_neN (a := 43) (c := 114) 98 dX3_playPart_84 (by decide) (by omega) (fun c84 => ?_) (fun c84 => ?_)
    · refine G_iload_n dX3_playPart_98 rfl ?_
      refine G_bipush (v := 43) dX3_playPart_99 (by decide) ?_
      refine G_icmp_neN (a := 43) (c := 43) 116 dX3_playPart_101 (by decide) (by omega) (fun c101 => ?_) (fun c101 => ?_)
      · exact (show False by omega).elim
      · refine G_aload_n dX3_playPart_104 rfl ?_
        refine G_getf dX3_playPart_105 fX3_playPart_12 (hΩ.1 _ _ _ _ _ _ _ _ _ _) (rfl) ?_
        refine G_iload_n dX3_playPart_108 rfl ?_
        refine G_callVi dX3_playPart_109 kX3_playPart_X0_passDays ⟨rfl, rfl⟩ ⟨Nat.zero_le _, Nat.zero_le _⟩ (c_passDays ((hΩ.2.1 rt R1 T1 m1 g n).lv R T m) (n := (s_nm t n (i + 1))) ho hv (by omega)) rfl rfl ((((hΩ.2.1 rt R1 T1 m1 g n).lv R T m) _).1) rfl rfl ?_
        refine G_pop dX3_playPart_112 rfl ?_
        refine G_goto 123 dX3_playPart_113 (by decide) ?_
        refine G_iconst (v := 1) dX3_playPart_123 (by decide) ?_
        exact G_iret dX3_playPart_124 ⟨Nat.zero_le _, Nat.zero_le _⟩ (by rw [show s_do t n i f = (1, (s_days (s_nm t n (i + 1)) f).1) from by rw [s_do, if_neg (by omega), if_neg (by omega), if_pos hs]]; rfl)
    · exact (show False by omega).elim
  · exact (show False by omega).elim
theorem x_pp42 (hΩ : CV xp lp ap tp up hp rp kp sp yp zp Ω) {q f rt R R1 g : mj_S} {T m T1 m1 n : Nat} {D : Nat} (ho : oA f D) (hv : vt f) (hD : D < 2147479000) {t : Nat → Nat} (hX : TX g n t) {i : Nat} (hi : i < 900) (hs : sg t n i = 42) : MC l yX3_playPart wsX3_playPart rmX3_playPart false [.ref xp, .int (nI (i))] (Ω (row q f) rt R T m R1 T1 m1 g n) (some (.int (nI (s_do t n i f).1))) (Ω (row q ((s_do t n i f).2)) rt R T m R1 T1 m1 g n) := by
  refine mj_MC (cc := cX3_playPart) (nl := 6) (ret := (some .boolean)) (plainFor_of_name (by decide)) rfl (⟨_, rfl, nb1 (s_do_le _ _ _ _)⟩) (Nat.le_of_ble_eq_true rfl) ?_
  show GG l cX3_playPart MX3_playPart false (.inl ((some (.int (nI (s_do t n i f).1))), Ω (row q ((s_do t n i f).2)) rt R T m R1 T1 m1 g n)) 0 [some (.ref xp), some (.int (nI (i))), none, none, none, none] [] (Ω (row q f) rt R T m R1 T1 m1 g n) 0 0
  refine G_aload_n dX3_playPart_0 rfl ?_
  refine G_getf dX3_playPart_1 fX3_playPart_34 (hΩ.1 _ _ _ _ _ _ _ _ _ _) (rfl) ?_
  refine G_iload_n dX3_playPart_4 rfl ?_
  have := sg_le hX (i)
  refine G_callVi dX3_playPart_5 kX3_playPart_X2_signAt ⟨rfl, rfl⟩ ⟨Nat.zero_le _, Nat.zero_le _⟩ (c_signAt (hΩ.2.2.2.2 (row q f) rt R T m R1 T1 m1) hX (i := i) (by omega)) rfl rfl (((hΩ.2.2.2.2 (row q f) rt R T m R1 T1 m1) _ _).1) rfl rfl ?_
  refine G_eqi (congrArg nI hs) ?_
  refine G_istore_n dX3_playPart_8 rfl (L' := [some (.ref xp), some (.int (nI (i))), some (.int 42), none, none, none]) rfl ?_
  refine G_aload_n dX3_playPart_9 rfl ?_
  refine G_getf dX3_playPart_10 fX3_playPart_34 (hΩ.1 _ _ _ _ _ _ _ _ _ _) (rfl) ?_
  refine G_iload_n dX3_playPart_13 rfl ?_
  refine G_iconst (v := 1) dX3_playPart_14 (by decide) ?_
  refine G_iaddN (a := i) (c := 1) (s := i + 1) dX3_playPart_15 (by omega) ?_
  refine G_callVi dX3_playPart_16 kX3_playPart_X2_numberAt ⟨rfl, rfl⟩ ⟨Nat.zero_le _, Nat.zero_le _⟩ (c_numberAt (hΩ.2.2.2.2 (row q f) rt R T m R1 T1 m1) hX (i := i + 1) (by omega)) rfl rfl (((hΩ.2.2.2.2 (row q f) rt R T m R1 T1 m1) _ _).1) rfl rfl ?_
  refine G_istore_n dX3_playPart_19 rfl (L' := [some (.ref xp), some (.int (nI (i))), some (.int 42), some (.int (nI ((s_nm t n (i + 1))))), none, none]) rfl ?_
  refine G_iload_n dX3_playPart_20 rfl ?_
  refine G_bipush (v := 99) dX3_playPart_21 (by decide) ?_
  refine G_icmp_neN (a := 42) (c := 99) 81 dX3_playPart_23 (by decide) (by omega) (fun c23 => ?_) (fun c23 => ?_)
  · refine G_iload_n dX3_playPart_81 rfl ?_
    refine G_bipush (v := 114) dX3_playPart_82 (by decide) ?_
    refine G_icmp_neN (a := 42) (c := 114) 98 dX3_playPart_84 (by decide) (by omega) (fun c84 => ?_) (fun c84 => ?_)
    · refine G_iload_n dX3_playPart_98 rfl ?_
      refine G_bipush (v := 43) dX3_playPart_99 (by decide) ?_
      refine G_icmp_neN (a := 42) (c := 43) 116 dX3_playPart_101 (by decide) (by omega) (fun c101 => ?_) (fun c101 => ?_)
      · refine G_aload_n dX3_playPart_116 rfl ?_
        refine G_getf dX3_playPart_117 fX3_playPart_12 (hΩ.1 _ _ _ _ _ _ _ _ _ _) (rfl) ?_
        refine G_callVv dX3_playPart_120 kX3_playPart_X0_turnSnow ⟨rfl, rfl⟩ ⟨Nat.zero_le _, Nat.zero_le _⟩ (c_turnSnow ((hΩ.2.1 rt R1 T1 m1 g n).lv R T m)) rfl rfl ((((hΩ.2.1 rt R1 T1 m1 g n).lv R T m) _).1) rfl rfl ?_
        refine G_iconst (v := 1) dX3_playPart_123 (by decide) ?_
        exact G_iret dX3_playPart_124 ⟨Nat.zero_le _, Nat.zero_le _⟩ (by rw [show s_do t n i f = (1, (s_turn f)) from by rw [s_do, if_neg (by omega), if_neg (by omega), if_neg (by omega)]]; rfl)
      · exact (show False by omega).elim
    · exact (show False by omega).elim
  · exact (show False by omega).elim
theorem x_playPart (hΩ : CV xp lp ap tp up hp rp kp sp yp zp Ω) {q f rt R R1 g : mj_S} {T m T1 m1 n : Nat} {D : Nat} (ho : oA f D) (hv : vt f) (hD : D < 2147479000)  {t : Nat → Nat} (hX : TX g n t) {i : Nat} (hi : i < 900)  {s a b c : Int32} (hP : PC t n i s a b c) : MC l yX3_playPart wsX3_playPart rmX3_playPart false [.ref xp, .int (nI (i))] (Ω (row q f) rt R T m R1 T1 m1 g n) (some (.int (nI (s_do t n i f).1))) (Ω (row q ((s_do t n i f).2)) rt R T m R1 T1 m1 g n) := by
  rcases hP with ⟨e, -, -, h1, -, h2, -, h3⟩ | ⟨e, -, -, h1⟩ | ⟨e, -, -, h1, h2⟩ | ⟨e, -⟩
  · rw [Nat.add_comm i 3] at h2
    rw [Nat.add_comm i 5] at h3
    by_cases hr : s_why f (s_nm t n (3 + i)) (s_nm t n (5 + i)) = 0
    · exact x_pp99 hΩ ho hv hD hX hi e h1 h2 h3 hr
    · exact x_pp99n hΩ ho hv hD hX hi e h1 h2 h3 hr
  · exact x_pp114 hΩ ho hv hD hX hi e h1
  · exact x_pp43 hΩ ho hv hD hX hi e h2
  · exact x_pp42 hΩ ho hv hD hX hi e
theorem xl_play (hΩ : CV xp lp ap tp up hp rp kp sp yp zp Ω) {q rt R R1 g : mj_S} {T m T1 m1 n : Nat} {t : Nat → Nat} (hX : TX g n t) (hA : ∀ x, x < n → s_pb t n x = 1 → ∃ s a b c, PC t n x s a b c) : ∀ (d i k D : Nat) (f : mj_S), i + d = n → oA f D → vt f → D + 60 * d < 2147470000 → k ≤ i → GG l cX3_play MX3_play false (.inl (some (.int (nI (s_pl t n d i f k).2)), Ω (row q ((s_pl t n d i f k).1)) rt R T m R1 T1 m1 g 0)) 25 [some (.ref xp), some (.int (nI (k))), some (.int (nI (i)))] [] (Ω (row q f) rt R T m R1 T1 m1 g n) 0 0
  | 0, i, k, D, f, hin, ho, hv, hD, hk => by
    have h60 := hX.1
    refine G_iload_n dX3_play_25 rfl ?_
    refine G_aload_n dX3_play_26 rfl ?_
    refine G_getf dX3_play_27 fX3_play_34 (hΩ.1 _ _ _ _ _ _ _ _ _ _) (rfl) ?_
    refine G_callVi dX3_play_30 kX3_play_X2_length ⟨rfl, rfl⟩ ⟨Nat.zero_le _, Nat.zero_le _⟩ (c_tlen (hΩ.2.2.2.2 (row q f) rt R T m R1 T1 m1)) rfl rfl (((hΩ.2.2.2.2 (row q f) rt R T m R1 T1 m1) _ _).1) rfl rfl ?_
    refine G_icmp_geN (a := i) (c := n) 67 dX3_play_33 (by decide) (by omega) (fun c33 => ?_) (fun c33 => ?_)
    · refine G_aload_n dX3_play_67 rfl ?_
      refine G_getf dX3_play_68 fX3_play_34 (hΩ.1 _ _ _ _ _ _ _ _ _ _) (rfl) ?_
      refine G_callVv dX3_play_71 kX3_play_X2_wipe ⟨rfl, rfl⟩ ⟨Nat.zero_le _, Nat.zero_le _⟩ (c_wipe (hΩ.2.2.2.2 (row q f) rt R T m R1 T1 m1)) rfl rfl (((hΩ.2.2.2.2 (row q f) rt R T m R1 T1 m1) _ _).1) rfl rfl ?_
      refine G_iload_n dX3_play_74 rfl ?_
      exact G_iret dX3_play_75 ⟨Nat.zero_le _, Nat.zero_le _⟩ (rfl)
    · exact (show False by omega).elim
  | d + 1, i, k, D, f, hin, ho, hv, hD, hk => by
    have h60 := hX.1
    have hle := s_do_le t n i f
    have hpb : s_pb t n i ≤ 1 := by unfold s_pb; split <;> omega
    refine G_iload_n dX3_play_25 rfl ?_
    refine G_aload_n dX3_play_26 rfl ?_
    refine G_getf dX3_play_27 fX3_play_34 (hΩ.1 _ _ _ _ _ _ _ _ _ _) (rfl) ?_
    refine G_callVi dX3_play_30 kX3_play_X2_length ⟨rfl, rfl⟩ ⟨Nat.zero_le _, Nat.zero_le _⟩ (c_tlen (hΩ.2.2.2.2 (row q f) rt R T m R1 T1 m1)) rfl rfl (((hΩ.2.2.2.2 (row q f) rt R T m R1 T1 m1) _ _).1) rfl rfl ?_
    refine G_icmp_geN (a := i) (c := n) 67 dX3_play_33 (by decide) (by omega) (fun c33 => ?_) (fun c33 => ?_)
    · exact (show False by omega).elim
    · refine G_aload_n dX3_play_36 rfl ?_
      refine G_getf dX3_play_37 fX3_play_34 (hΩ.1 _ _ _ _ _ _ _ _ _ _) (rfl) ?_
      refine G_iload_n dX3_play_40 rfl ?_
      refine G_callVi dX3_play_41 kX3_play_X2_isPartBegin ⟨rfl, rfl⟩ ⟨Nat.zero_le _, Nat.zero_le _⟩ (c_isPartBegin (hΩ.2.2.2.2 (row q f) rt R T m R1 T1 m1) hX (i := i) (by omega)) rfl rfl (((hΩ.2.2.2.2 (row q f) rt R T m R1 T1 m1) _ _).1) rfl rfl ?_
      refine G_if_eqN (a := (s_pb t n (i))) 61 dX3_play_44 (by decide) (by omega) (fun c44 => ?_) (fun c44 => ?_)
      · refine G_iincN (a := i) (s := i + 1) dX3_play_61 rfl (by omega) (L' := [some (.ref xp), some (.int (nI (k))), some (.int (nI (i + 1)))]) rfl ?_
        refine G_goto 25 dX3_play_64 (by decide) ?_
        rw [s_pl, if_neg (by omega)]
        exact xl_play hΩ hX hA d (i + 1) k D f (by omega) ho hv (by omega) (by omega)
      · refine G_aload_n dX3_play_47 rfl ?_
        refine G_iload_n dX3_play_48 rfl ?_
        obtain ⟨ps, pa, pb, pc0, hP⟩ := hA i (by omega) (by omega)
        refine G_callVi dX3_play_49 kX3_play_X3_playPart ⟨rfl, rfl⟩ ⟨Nat.zero_le _, Nat.zero_le _⟩ (x_playPart hΩ ho hv (by omega) hX (by omega) hP) rfl rfl (hΩ.1 _ _ _ _ _ _ _ _ _ _) rfl rfl ?_
        refine G_if_neN (a := (s_do t n i f).1) 58 dX3_play_52 (by decide) (by omega) (fun c52 => ?_) (fun c52 => ?_)
        · refine G_iincN (a := k) (s := k + 1) dX3_play_58 rfl (by omega) (L' := [some (.ref xp), some (.int (nI (k + 1))), some (.int (nI (i)))]) rfl ?_
          refine G_iincN (a := i) (s := i + 1) dX3_play_61 rfl (by omega) (L' := [some (.ref xp), some (.int (nI (k + 1))), some (.int (nI (i + 1)))]) rfl ?_
          refine G_goto 25 dX3_play_64 (by decide) ?_
          obtain ⟨D', q1, q2, q3⟩ := do_ok hP ho hv
          rw [s_pl, if_pos (by omega), if_pos (by omega)]
          exact xl_play hΩ hX hA d (i + 1) (k + 1) D' _ (by omega) q2 q3 (by omega) (by omega)
        · refine G_goto 67 dX3_play_55 (by decide) ?_
          refine G_aload_n dX3_play_67 rfl ?_
          refine G_getf dX3_play_68 fX3_play_34 (hΩ.1 _ _ _ _ _ _ _ _ _ _) (rfl) ?_
          refine G_callVv dX3_play_71 kX3_play_X2_wipe ⟨rfl, rfl⟩ ⟨Nat.zero_le _, Nat.zero_le _⟩ (c_wipe (hΩ.2.2.2.2 (row q ((s_do t n i f).2)) rt R T m R1 T1 m1)) rfl rfl (((hΩ.2.2.2.2 (row q ((s_do t n i f).2)) rt R T m R1 T1 m1) _ _).1) rfl rfl ?_
          refine G_iload_n dX3_play_74 rfl ?_
          exact G_iret dX3_play_75 ⟨Nat.zero_le _, Nat.zero_le _⟩ (by rw [s_pl, if_pos (by omega), if_neg (by omega)])
theorem x_play (hΩ : CV xp lp ap tp up hp rp kp sp yp zp Ω) {q f rt R R1 g : mj_S} {T m T1 m1 n : Nat} (hT : T < 6) (hm : m ≤ 6) {D : Nat} (ho : oA f D) (hv : vt f) (hD : D < 2147460000) {t : Nat → Nat} (hX : TX g n t) (hc : s_ep (s_fd t n 0 0) = 1) : MC l yX3_play wsX3_play rmX3_play false [.ref xp] (Ω (row q f) rt R T m R1 T1 m1 g n) (some (.int (nI (s_pl t n n 0 f 0).2))) (Ω (row q ((s_pl t n n 0 f 0).1)) rt (s_blit (row q f) (161 * nxT T) 161 R) (nxT T) (nxM m) R1 T1 m1 g 0) := by
  refine mj_MC (cc := cX3_play) (nl := 3) (ret := (some .int)) (plainFor_of_name (by decide)) rfl (⟨_, rfl, rfl⟩) (Nat.le_of_ble_eq_true rfl) ?_
  show GG l cX3_play MX3_play false (.inl ((some (.int (nI (s_pl t n n 0 f 0).2))), Ω (row q ((s_pl t n n 0 f 0).1)) rt (s_blit (row q f) (161 * nxT T) 161 R) (nxT T) (nxM m) R1 T1 m1 g 0)) 0 [some (.ref xp), none, none] [] (Ω (row q f) rt R T m R1 T1 m1 g n) 0 0
  refine G_aload_n dX3_play_0 rfl ?_
  refine G_getf dX3_play_1 fX3_play_34 (hΩ.1 _ _ _ _ _ _ _ _ _ _) (rfl) ?_
  refine G_callVi dX3_play_4 kX3_play_X2_isComplete ⟨rfl, rfl⟩ ⟨Nat.zero_le _, Nat.zero_le _⟩ (c_isComplete (hΩ.2.2.2.2 (row q f) rt R T m R1 T1 m1) hX) rfl rfl (((hΩ.2.2.2.2 (row q f) rt R T m R1 T1 m1) _ _).1) rfl rfl ?_
  refine G_eqi (congrArg nI hc) ?_
  refine G_callSv dX3_play_7 kX3_play_X3_requireArgument ⟨rfl, rfl⟩ ⟨Nat.zero_le _, Nat.zero_le _⟩ (c_reqArgument) rfl rfl rfl ?_
  refine G_aload_n dX3_play_10 rfl ?_
  refine G_getf dX3_play_11 fX3_play_24 (hΩ.1 _ _ _ _ _ _ _ _ _ _) (rfl) ?_
  refine G_aload_n dX3_play_14 rfl ?_
  refine G_getf dX3_play_15 fX3_play_12 (hΩ.1 _ _ _ _ _ _ _ _ _ _) (rfl) ?_
  refine G_callVv dX3_play_18 kX3_play_X1_push ⟨rfl, rfl⟩ ⟨Nat.zero_le _, Nat.zero_le _⟩ (c_push (hΩ.2.1 rt R1 T1 m1 g n) (by omega) (by omega)) rfl rfl (((hΩ.2.1 rt R1 T1 m1 g n).2 _ _ _ _).1) rfl rfl ?_
  refine G_iconst (v := 0) dX3_play_21 (by decide) ?_
  refine G_istore_n dX3_play_22 rfl (L' := [some (.ref xp), some (.int 0), none]) rfl ?_
  refine G_iconst (v := 0) dX3_play_23 (by decide) ?_
  refine G_istore_n dX3_play_24 rfl (L' := [some (.ref xp), some (.int 0), some (.int 0)]) rfl ?_
  exact xl_play hΩ hX (fun x h1 h2 => all_parts hc (n + 1) 0 (by omega) (DR_0 t n) x (by omega) h1 h2) n 0 0 D f (by omega) ho hv (by have := hX.1; omega) (by omega)
end XB

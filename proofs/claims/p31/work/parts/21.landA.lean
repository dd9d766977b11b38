/-! LAND: leaves, sums, counts -/
def LV (lp ap : Nat) (Ω : mj_S → mj_W) : Prop := ∀ f, (Ω f)[lp]? = some (.inr (0, [.ref ap])) ∧ (Ω f)[ap]? = some (.inl (.int, (161, .inl f))) ∧ ∀ g, (Ω f).set ap (.inl (.int, (161, .inl g))) = Ω g
theorem nx_xor (a b : Nat) : nI a ^^^ nI b = nI (a ^^^ b) := by
  apply Int32.toBitVec_inj.1
  show BitVec.ofNat 32 a ^^^ BitVec.ofNat 32 b = BitVec.ofNat 32 (a ^^^ b)
  apply BitVec.eq_of_getLsbD_eq
  intro i hi
  simp [hi]
section LA
variable {l : Launch} {lp ap : Nat} {Ω : mj_S → mj_W}
theorem c_fmod {w : mj_W} {a c : Nat} (ha : a < 2147483648) (hc : 0 < c ∧ c < 2147483648) : MC l yJ9_floorMod_7cf53 wsJ9_floorMod_7cf53 rmJ9_floorMod_7cf53 false [.int (nI (a)), .int (nI (c))] (w) (some (.int (nI (a % c)))) (w) := by
  refine mj_MC (cc := cJ9_floorMod_7cf53) (nl := 3) (ret := (some .int)) (by decide +kernel) rfl (⟨_, rfl, rfl⟩) (Nat.le_of_ble_eq_true rfl) ?_
  show GG l cJ9_floorMod_7cf53 MJ9_floorMod_7cf53 false (.inl ((some (.int (nI (a % c)))), w)) 0 [some (.int (nI (a))), some (.int (nI (c))), none] [] (w) 0 0
  refine G_iload_n dJ9_floorMod_7cf53_0 rfl ?_
  refine G_iload_n dJ9_floorMod_7cf53_1 rfl ?_
  refine G_iremN (a := a) (c := c) (s := ((a) % c)) dJ9_floorMod_7cf53_2 (by omega) (by omega) ?_
  refine G_istore_n dJ9_floorMod_7cf53_3 rfl (L' := [some (.int (nI (a))), some (.int (nI (c))), some (.int (nI (((a) % c))))]) rfl ?_
  refine G_iload_n dJ9_floorMod_7cf53_4 rfl ?_
  refine G_iload_n dJ9_floorMod_7cf53_5 rfl ?_
  refine G_ixor dJ9_floorMod_7cf53_6 ?_
  obtain ⟨x, hx, ex⟩ : ∃ x : Nat, x < 2147483648 ∧ nI a ^^^ nI c = nI x := ⟨a ^^^ c, Nat.xor_lt_two_pow (n := 31) ha hc.2, nx_xor a c⟩
  refine G_eqi ex ?_
  refine G_if_geN (a := x) 18 dJ9_floorMod_7cf53_7 (by decide) (by omega) ?_
  refine G_iload_n dJ9_floorMod_7cf53_18 rfl ?_
  exact G_iret dJ9_floorMod_7cf53_19 ⟨Nat.zero_le _, Nat.zero_le _⟩ (rfl)
theorem c_at (hΩ : LV lp ap Ω) {r : mj_S} {j : Nat} (hj : j < 161) : MC l yX0_at wsX0_at rmX0_at false [.ref lp, .int (nI (j))] (Ω r) (some (.int (r j))) (Ω r) := by
  refine mj_MC (cc := cX0_at) (nl := 2) (ret := (some .int)) (plainFor_of_name (by decide)) rfl (⟨_, rfl, rfl⟩) (Nat.le_of_ble_eq_true rfl) ?_
  show GG l cX0_at MX0_at false (.inl ((some (.int (r j))), Ω r)) 0 [some (.ref lp), some (.int (nI (j)))] [] (Ω r) 0 0
  refine G_iload_n dX0_at_0 rfl ?_
  refine G_if_ltN (a := j) 22 dX0_at_1 (by decide) (by omega) ?_
  refine G_iload_n dX0_at_4 rfl ?_
  refine G_aload_n dX0_at_5 rfl ?_
  refine G_getf dX0_at_6 fX0_at_11 ((hΩ _).1) rfl ?_
  refine G_alen (v := 161) dX0_at_9 ((hΩ _).2.1) rfl ?_
  refine G_icmp_geN (a := j) (c := 161) 22 dX0_at_10 (by decide) (by omega) (fun c10 => ?_) (fun c10 => ?_)
  · exact (show False by omega).elim
  · refine G_aload_n dX0_at_13 rfl ?_
    refine G_getf dX0_at_14 fX0_at_11 ((hΩ _).1) rfl ?_
    refine G_iload_n dX0_at_17 rfl ?_
    refine G_ialdN (j := j) dX0_at_18 ((hΩ _).2.1) (by omega) ?_
    refine G_goto 23 dX0_at_19 (by decide) ?_
    exact G_iret dX0_at_23 ⟨Nat.zero_le _, Nat.zero_le _⟩ (rfl)
theorem c_put (hΩ : LV lp ap Ω) {r : mj_S} {j : Nat} {v : Int32} (hj : j < 161) : MC l yX0_put wsX0_put rmX0_put false [.ref lp, .int (nI (j)), .int v] (Ω r) none (Ω (upd r j v)) := by
  refine mj_MC (cc := cX0_put) (nl := 3) (ret := none) (plainFor_of_name (by decide)) rfl (rfl) (Nat.le_of_ble_eq_true rfl) ?_
  show GG l cX0_put MX0_put false (.inl (none, Ω (upd r j v))) 0 [some (.ref lp), some (.int (nI (j))), some (.int v)] [] (Ω r) 0 0
  refine G_iload_n dX0_put_0 rfl ?_
  refine G_if_ltN (a := j) 20 dX0_put_1 (by decide) (by omega) ?_
  refine G_iload_n dX0_put_4 rfl ?_
  refine G_aload_n dX0_put_5 rfl ?_
  refine G_getf dX0_put_6 fX0_put_11 ((hΩ _).1) rfl ?_
  refine G_alen (v := 161) dX0_put_9 ((hΩ _).2.1) rfl ?_
  refine G_icmp_geN (a := j) (c := 161) 20 dX0_put_10 (by decide) (by omega) (fun c10 => ?_) (fun c10 => ?_)
  · exact (show False by omega).elim
  · refine G_aload_n dX0_put_13 rfl ?_
    refine G_getf dX0_put_14 fX0_put_11 ((hΩ _).1) rfl ?_
    refine G_iload_n dX0_put_17 rfl ?_
    refine G_iload_n dX0_put_18 rfl ?_
    refine G_iastN (j := j) dX0_put_19 ((hΩ _).2.1) (by omega) ((hΩ _).2.2 _) ?_
    exact G_vret dX0_put_20 ⟨Nat.zero_le _, Nat.zero_le _⟩ (rfl)
theorem c_add (hΩ : LV lp ap Ω) {r : mj_S} {j : Nat} {v : Int32} (hj : j < 161) : MC l yX0_add wsX0_add rmX0_add false [.ref lp, .int (nI (j)), .int v] (Ω r) none (Ω (upd r j (r j + v))) := by
  refine mj_MC (cc := cX0_add) (nl := 3) (ret := none) (plainFor_of_name (by decide)) rfl (rfl) (Nat.le_of_ble_eq_true rfl) ?_
  show GG l cX0_add MX0_add false (.inl (none, Ω (upd r j (r j + v)))) 0 [some (.ref lp), some (.int (nI (j))), some (.int v)] [] (Ω r) 0 0
  refine G_aload_n dX0_add_0 rfl ?_
  refine G_iload_n dX0_add_1 rfl ?_
  refine G_aload_n dX0_add_2 rfl ?_
  refine G_iload_n dX0_add_3 rfl ?_
  refine G_callVi dX0_add_4 kX0_add_X0_at ⟨rfl, rfl⟩ ⟨Nat.zero_le _, Nat.zero_le _⟩ (c_at hΩ (r := r) (j := j) (by omega)) rfl rfl ((hΩ _).1) rfl rfl ?_
  refine G_iload_n dX0_add_7 rfl ?_
  refine G_iadd dX0_add_8 ?_
  refine G_callVv dX0_add_9 kX0_add_X0_put ⟨rfl, rfl⟩ ⟨Nat.zero_le _, Nat.zero_le _⟩ (c_put hΩ (r := r) (j := j) (v := ((r (j)) + v)) (by omega)) rfl rfl ((hΩ _).1) rfl rfl ?_
  exact G_vret dX0_add_12 ⟨Nat.zero_le _, Nat.zero_le _⟩ (rfl)
theorem c_swap (hΩ : LV lp ap Ω) {r : mj_S} {j : Nat} {v : Int32} (hj : j < 161) : MC l yX0_swap wsX0_swap rmX0_swap false [.ref lp, .int (nI (j)), .int v] (Ω r) (some (.int (r j))) (Ω (upd r j v)) := by
  refine mj_MC (cc := cX0_swap) (nl := 4) (ret := (some .int)) (plainFor_of_name (by decide)) rfl (⟨_, rfl, rfl⟩) (Nat.le_of_ble_eq_true rfl) ?_
  show GG l cX0_swap MX0_swap false (.inl ((some (.int (r j))), Ω (upd r j v))) 0 [some (.ref lp), some (.int (nI (j))), some (.int v), none] [] (Ω r) 0 0
  refine G_aload_n dX0_swap_0 rfl ?_
  refine G_iload_n dX0_swap_1 rfl ?_
  refine G_callVi dX0_swap_2 kX0_swap_X0_at ⟨rfl, rfl⟩ ⟨Nat.zero_le _, Nat.zero_le _⟩ (c_at hΩ (r := r) (j := j) (by omega)) rfl rfl ((hΩ _).1) rfl rfl ?_
  refine G_istore_n dX0_swap_5 rfl (L' := [some (.ref lp), some (.int (nI (j))), some (.int v), some (.int (r (j)))]) rfl ?_
  refine G_aload_n dX0_swap_6 rfl ?_
  refine G_iload_n dX0_swap_7 rfl ?_
  refine G_iload_n dX0_swap_8 rfl ?_
  refine G_callVv dX0_swap_9 kX0_swap_X0_put ⟨rfl, rfl⟩ ⟨Nat.zero_le _, Nat.zero_le _⟩ (c_put hΩ (r := r) (j := j) (v := v) (by omega)) rfl rfl ((hΩ _).1) rfl rfl ?_
  refine G_iload_n dX0_swap_12 rfl ?_
  exact G_iret dX0_swap_13 ⟨Nat.zero_le _, Nat.zero_le _⟩ (rfl)
theorem c_plotOf {w : mj_W} {h b : Nat} : MC l yX0_plotOf wsX0_plotOf rmX0_plotOf false [.int (nI (h)), .int (nI (b))] (w) (some (.int (nI (b + 4 * h)))) (w) := by
  refine mj_MC (cc := cX0_plotOf) (nl := 2) (ret := (some .int)) (plainFor_of_name (by decide)) rfl (⟨_, rfl, rfl⟩) (Nat.le_of_ble_eq_true rfl) ?_
  show GG l cX0_plotOf MX0_plotOf false (.inl ((some (.int (nI (b + 4 * h)))), w)) 0 [some (.int (nI (h))), some (.int (nI (b)))] [] (w) 0 0
  refine G_iload_n dX0_plotOf_0 rfl ?_
  refine G_iconst (v := 4) dX0_plotOf_1 (by decide) ?_
  refine G_imulN (a := h) (c := 4) (s := 4 * h) dX0_plotOf_2 (by omega) ?_
  refine G_iload_n dX0_plotOf_3 rfl ?_
  refine G_iaddN (a := 4 * h) (c := b) (s := b + 4 * h) dX0_plotOf_4 (by omega) ?_
  exact G_iret dX0_plotOf_5 ⟨Nat.zero_le _, Nat.zero_le _⟩ (rfl)
theorem c_plotOfN {w : mj_W} {h b s : Nat} (hs : b + 4 * h = s) : MC l yX0_plotOf wsX0_plotOf rmX0_plotOf false [.int (nI h), .int (nI b)] w (some (.int (nI s))) w := by subst hs; exact c_plotOf
theorem c_half {w : mj_W} {x : Int32} : MC l yX0_halfRoundedUp wsX0_halfRoundedUp rmX0_halfRoundedUp false [.int x] (w) (some (.int ((x + 1) / 2))) (w) := by
  refine mj_MC (cc := cX0_halfRoundedUp) (nl := 1) (ret := (some .int)) (plainFor_of_name (by decide)) rfl (⟨_, rfl, rfl⟩) (Nat.le_of_ble_eq_true rfl) ?_
  show GG l cX0_halfRoundedUp MX0_halfRoundedUp false (.inl ((some (.int ((x + 1) / 2))), w)) 0 [some (.int x)] [] (w) 0 0
  refine G_iload_n dX0_halfRoundedUp_0 rfl ?_
  refine G_iconst (v := 1) dX0_halfRoundedUp_1 (by decide) ?_
  refine G_iadd dX0_halfRoundedUp_2 ?_
  refine G_iconst (v := 2) dX0_halfRoundedUp_3 (by decide) ?_
  refine G_idiv dX0_halfRoundedUp_4 (by decide) ?_
  exact G_iret dX0_halfRoundedUp_5 ⟨Nat.zero_le _, Nat.zero_le _⟩ (rfl)
theorem c_atL (hΩ : LV lp ap Ω) {q f : mj_S} {j : Nat} (h : j < 53) : MC l yX0_at wsX0_at rmX0_at false [.ref lp, .int (nI j)] (Ω (row q f)) (some (.int (f j))) (Ω (row q f)) := by
  have e := c_at hΩ (l := l) (r := row q f) (j := j) (by omega)
  rwa [row_lo h] at e
theorem c_atH (hΩ : LV lp ap Ω) {q f : mj_S} {j j' : Nat} (h : j = j' + 4) (h' : 53 ≤ j' ∧ j' < 157) : MC l yX0_at wsX0_at rmX0_at false [.ref lp, .int (nI j)] (Ω (row q f)) (some (.int (f j'))) (Ω (row q f)) := by
  have e := c_at hΩ (l := l) (r := row q f) (j := j) (by omega)
  rwa [row_hi h h'.1] at e
theorem c_atQ (hΩ : LV lp ap Ω) {q f : mj_S} {j i : Nat} (h : j = 53 + i) (h' : i < 4) : MC l yX0_at wsX0_at rmX0_at false [.ref lp, .int (nI j)] (Ω (row q f)) (some (.int (q i))) (Ω (row q f)) := by
  have e := c_at hΩ (l := l) (r := row q f) (j := j) (by omega)
  rwa [row_q h h'] at e
theorem c_putL (hΩ : LV lp ap Ω) {q f f1 : mj_S} {j : Nat} {v : Int32} (h : j < 53) (e1 : f1 = upd f j v) : MC l yX0_put wsX0_put rmX0_put false [.ref lp, .int (nI j), .int v] (Ω (row q f)) none (Ω (row q f1)) := by
  have e := c_put hΩ (l := l) (r := row q f) (j := j) (v := v) (by omega)
  rwa [row_put_lo h, ← e1] at e
theorem c_putH (hΩ : LV lp ap Ω) {q f f1 : mj_S} {j j' : Nat} {v : Int32} (h : j = j' + 4) (h' : 53 ≤ j' ∧ j' < 157) (e1 : f1 = upd f j' v) : MC l yX0_put wsX0_put rmX0_put false [.ref lp, .int (nI j), .int v] (Ω (row q f)) none (Ω (row q f1)) := by
  have e := c_put hΩ (l := l) (r := row q f) (j := j) (v := v) (by omega)
  rwa [row_put_hi h h'.1, ← e1] at e
theorem c_addL (hΩ : LV lp ap Ω) {q f f1 : mj_S} {j : Nat} {v : Int32} (h : j < 53) (e1 : f1 = upd f j (f j + v)) : MC l yX0_add wsX0_add rmX0_add false [.ref lp, .int (nI j), .int v] (Ω (row q f)) none (Ω (row q f1)) := by
  have e := c_add hΩ (l := l) (r := row q f) (j := j) (v := v) (by omega)
  rwa [row_put_lo h, row_lo h, ← e1] at e
theorem c_addH (hΩ : LV lp ap Ω) {q f f1 : mj_S} {j j' : Nat} {v : Int32} (h : j = j' + 4) (h' : 53 ≤ j' ∧ j' < 157) (e1 : f1 = upd f j' (f j' + v)) : MC l yX0_add wsX0_add rmX0_add false [.ref lp, .int (nI j), .int v] (Ω (row q f)) none (Ω (row q f1)) := by
  have e := c_add hΩ (l := l) (r := row q f) (j := j) (v := v) (by omega)
  rwa [row_put_hi h h'.1, row_hi h h'.1, ← e1] at e
theorem c_addQ (hΩ : LV lp ap Ω) {q f q1 : mj_S} {j i : Nat} {v : Int32} (h : j = 53 + i) (h' : i < 4) (e1 : q1 = upd q i (q i + v)) : MC l yX0_add wsX0_add rmX0_add false [.ref lp, .int (nI j), .int v] (Ω (row q f)) none (Ω (row q1 f)) := by
  have e := c_add hΩ (l := l) (r := row q f) (j := j) (v := v) (by omega)
  rwa [row_put_q h h', row_q h h', ← e1] at e
theorem c_swapL (hΩ : LV lp ap Ω) {q f f1 : mj_S} {j : Nat} {v : Int32} (h : j < 53) (e1 : f1 = upd f j v) : MC l yX0_swap wsX0_swap rmX0_swap false [.ref lp, .int (nI j), .int v] (Ω (row q f)) (some (.int (f j))) (Ω (row q f1)) := by
  have e := c_swap hΩ (l := l) (r := row q f) (j := j) (v := v) (by omega)
  rwa [row_put_lo h, row_lo h, ← e1] at e
theorem c_swapH (hΩ : LV lp ap Ω) {q f f1 : mj_S} {j j' : Nat} {v : Int32} (h : j = j' + 4) (h' : 53 ≤ j' ∧ j' < 157) (e1 : f1 = upd f j' v) : MC l yX0_swap wsX0_swap rmX0_swap false [.ref lp, .int (nI j), .int v] (Ω (row q f)) (some (.int (f j'))) (Ω (row q f1)) := by
  have e := c_swap hΩ (l := l) (r := row q f) (j := j) (v := v) (by omega)
  rwa [row_put_hi h h'.1, row_hi h h'.1, ← e1] at e
theorem lp_sum (hΩ : LV lp ap Ω) {r : mj_S} {a m : Nat} (ha : a + m ≤ 161) {res : Int32} : ∀ (d c : Nat) (x : Int32), c + d = m → res = itr (fun i x => x + r (a + i)) d c x → GG l cX0_sum MX0_sum false (.inl (some (.int res), Ω r)) 5 [some (.ref lp), some (.int (nI a)), some (.int (nI m)), some (.int x), some (.int (nI c))] [] (Ω r) 0 0
  | 0, c, x, hc, hr => by
    refine G_iload dX0_sum_5 rfl ?_
    refine G_iload_n dX0_sum_7 rfl ?_
    refine G_icmp_geN (a := c) (c := m) 28 dX0_sum_8 (by decide) (by omega) (fun c8 => ?_) (fun c8 => ?_)
    · refine G_iload_n dX0_sum_28 rfl ?_
      exact G_iret dX0_sum_29 ⟨Nat.zero_le _, Nat.zero_le _⟩ (by rw [hr, itr_0])
    · exact (show False by omega).elim
  | d + 1, c, x, hc, hr => by
    refine G_iload dX0_sum_5 rfl ?_
    refine G_iload_n dX0_sum_7 rfl ?_
    refine G_icmp_geN (a := c) (c := m) 28 dX0_sum_8 (by decide) (by omega) (fun c8 => ?_) (fun c8 => ?_)
    · exact (show False by omega).elim
    · refine G_iload_n dX0_sum_11 rfl ?_
      refine G_aload_n dX0_sum_12 rfl ?_
      refine G_iload_n dX0_sum_13 rfl ?_
      refine G_iload dX0_sum_14 rfl ?_
      refine G_iaddN (a := a) (c := c) (s := a + c) dX0_sum_16 (by omega) ?_
      refine G_callVi dX0_sum_17 kX0_sum_X0_at ⟨rfl, rfl⟩ ⟨Nat.zero_le _, Nat.zero_le _⟩ (c_at hΩ (r := r) (j := a + c) (by omega)) rfl rfl ((hΩ _).1) rfl rfl ?_
      refine G_iadd dX0_sum_20 ?_
      refine G_istore_n dX0_sum_21 rfl (L' := [some (.ref lp), some (.int (nI (a))), some (.int (nI (m))), some (.int (x + (r (a + c)))), some (.int (nI (c)))]) rfl ?_
      refine G_iincN (a := c) (s := c + 1) dX0_sum_22 rfl (by omega) (L' := [some (.ref lp), some (.int (nI (a))), some (.int (nI (m))), some (.int (x + (r (a + c)))), some (.int (nI (c + 1)))]) rfl ?_
      refine G_goto 5 dX0_sum_25 (by decide) ?_
      exact lp_sum hΩ ha d (c + 1) (x + (r (a + c))) (by omega) hr
theorem c_sum (hΩ : LV lp ap Ω) {r : mj_S} {a m : Nat} (ha : a + m ≤ 161) : MC l yX0_sum wsX0_sum rmX0_sum false [.ref lp, .int (nI (a)), .int (nI (m))] (Ω r) (some (.int (s_sum r a m))) (Ω r) := by
  refine mj_MC (cc := cX0_sum) (nl := 5) (ret := (some .int)) (plainFor_of_name (by decide)) rfl (⟨_, rfl, rfl⟩) (Nat.le_of_ble_eq_true rfl) ?_
  show GG l cX0_sum MX0_sum false (.inl ((some (.int (s_sum r a m))), Ω r)) 0 [some (.ref lp), some (.int (nI (a))), some (.int (nI (m))), none, none] [] (Ω r) 0 0
  refine G_iconst (v := 0) dX0_sum_0 (by decide) ?_
  refine G_istore_n dX0_sum_1 rfl (L' := [some (.ref lp), some (.int (nI (a))), some (.int (nI (m))), some (.int 0), none]) rfl ?_
  refine G_iconst (v := 0) dX0_sum_2 (by decide) ?_
  refine G_istore dX0_sum_3 rfl (L' := [some (.ref lp), some (.int (nI (a))), some (.int (nI (m))), some (.int 0), some (.int 0)]) rfl ?_
  exact lp_sum hΩ ha m 0 _ (by omega) rfl
theorem c_sumL (hΩ : LV lp ap Ω) {q f : mj_S} {a m : Nat} (h : a + m ≤ 53) : MC l yX0_sum wsX0_sum rmX0_sum false [.ref lp, .int (nI a), .int (nI m)] (Ω (row q f)) (some (.int (s_sum f a m))) (Ω (row q f)) := by
  have e := c_sum hΩ (l := l) (r := row q f) (a := a) (m := m) (by omega)
  have e2 : s_sum (row q f) a m = s_sum f a m := itr_congr _ _ _ (fun k _ h2 x => by rw [row_lo (by omega)])
  rwa [e2] at e
theorem c_sumH (hΩ : LV lp ap Ω) {q f : mj_S} {a a' m : Nat} (h : a = a' + 4) (h' : 53 ≤ a' ∧ a' + m ≤ 157) : MC l yX0_sum wsX0_sum rmX0_sum false [.ref lp, .int (nI a), .int (nI m)] (Ω (row q f)) (some (.int (s_sum f a' m))) (Ω (row q f)) := by
  have e := c_sum hΩ (l := l) (r := row q f) (a := a) (m := m) (by omega)
  have e2 : s_sum (row q f) a m = s_sum f a' m := itr_congr _ _ _ (fun k _ h2 x => by rw [row_hi (j' := a' + k) (by omega) (by omega)])
  rwa [e2] at e
end LA

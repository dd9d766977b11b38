/-! STEPS: a call on both sides, and what is related behind it -/
def WW (r rt R : mj_S) (T m : Nat) (R1 : mj_S) (T1 m1 : Nat) (g : mj_S) (n : Nat) (th : Int32) (f sp sv : mj_S) (m2 : Nat) (sn : mj_S) (hs : Int32) (bf : mj_S) (ln ai : Nat) (sg fi se t3 : Int32) (hh : Int64) (o : Nat → Int64) : mj_W := [.inr (3, [.ref 1, .ref 3, .ref 5, .ref 7, .ref 9]), .inr (0, [.ref 2]), .inl (.int, (161, .inl r)), .inr (0, [.ref 4]), .inl (.int, (161, .inl rt)), .inr (1, [.ref 6, .int (nI 6), .int (nI T), .int (nI m)]), .inl (.int, (161 * 6, .inl R)), .inr (1, [.ref 8, .int (nI 1), .int (nI T1), .int (nI m1)]), .inl (.int, (161 * 1, .inl R1)), .inr (2, [.ref 10, .int (nI n)]), .inl (.char, (60, .inl g)), .inr (4, mfs 12 13 14 15 16 th m2 hs ln ai sg fi se t3 hh), .inl (.int, (157, .inl f)), .inl (.int, (157, .inl sp)), .inl (.int, (942, .inl sv)), .inl (.int, (157, .inl sn)), .inl (.int, (60, .inl bf)), .inl (.long, (1, .inr (.inl o)))]
theorem cvW {th : Int32} {f sp sv : mj_S} {m2 : Nat} {sn : mj_S} {hs : Int32} {bf : mj_S} {ln ai : Nat} {sg fi se t3 : Int32} {hh : Int64} {o : Nat → Int64} : CV 0 1 2 3 4 5 6 7 8 9 10 (fun r rt R T m R1 T1 m1 g n => WW r rt R T m R1 T1 m1 g n th f sp sv m2 sn hs bf ln ai sg fi se t3 hh o) := ⟨fun _ _ _ _ _ _ _ _ _ _ => rfl, fun _ _ _ _ _ _ => ⟨⟨by decide, by decide⟩, fun _ _ _ _ => ⟨rfl, rfl, rfl, rfl, fun _ _ => rfl, fun _ => rfl, fun _ => rfl⟩⟩, fun _ _ _ _ _ _ => ⟨⟨by decide, by decide⟩, fun _ _ _ _ => ⟨rfl, rfl, rfl, rfl, fun _ _ => rfl, fun _ => rfl, fun _ => rfl⟩⟩, fun _ _ _ _ _ _ _ _ _ _ => ⟨rfl, rfl, fun _ => rfl⟩, fun _ _ _ _ _ _ _ _ _ _ => ⟨rfl, rfl, fun _ => rfl, fun _ => rfl⟩⟩
theorem mvW {r rt R : mj_S} {T m : Nat} {R1 : mj_S} {T1 m1 : Nat} {g : mj_S} {n : Nat} {o : Nat → Int64} : MV 11 12 13 14 15 16 (fun th f sp sv m2 sn hs bf ln ai sg fi se t3 hh => WW r rt R T m R1 T1 m1 g n th f sp sv m2 sn hs bf ln ai sg fi se t3 hh o) := fun _ _ _ _ _ _ _ _ _ _ _ _ _ _ _ => ⟨rfl, rfl, rfl, rfl, rfl, rfl, fun _ _ _ _ _ _ _ _ _ _ => rfl, fun _ => rfl, fun _ => rfl, fun _ => rfl, fun _ => rfl, fun _ => rfl⟩
def LI (B : Nat) (w : mj_W) : Prop := ∃ (f rt R : mj_S) (T m : Nat) (R1 : mj_S) (m1 : Nat) (g : mj_S) (n : Nat) (th : Int32) (sp sv sn : mj_S) (hs : Int32) (bf : mj_S) (ai : Nat) (sg fi se t3 : Int32) (hh : Int64) (o : Nat → Int64) (t : Nat → Nat), w = WW (row (s_com f) f) rt R T m R1 0 m1 g n th f sp sv m sn hs bf n ai sg fi se t3 hh o ∧ Inv B f R T m R1 m1 g n sv sn hs bf t
/-- a call that may throw: the helper of the law, then the reference, then what it threw -/
def StH (l : Launch) (yH : MethodName) (wsH : List Cond) (rmH : Room) (yM : MethodName) (wsM : List Cond) (rmM : Room) (as : List Value) (w : mj_W) (C : Nat) : Prop := ∃ (kk bb : Int32) (w1 w2 : mj_W) (o : Nat → Int64) (fs1 fs2 : List Value), MCE l yH wsH rmH ctN false (.ref 0 :: (as ++ [.ref 17])) w (some (.int kk)) w1 ∧ MC l yM wsM rmM false (.ref 11 :: as) w1 (some (.int bb)) w2 ∧ MC l yX4_thrown wsX4_thrown rmX4_thrown false [.ref 11] w2 (some (.int kk)) w2 ∧ w1[11]? = some (.inr (4, fs1)) ∧ w2[11]? = some (.inr (4, fs2)) ∧ w2[17]? = some (.inl (.long, (1, .inr (.inl o)))) ∧ (kk = 0 → o 0 = bb.toInt64) ∧ LI C w2
/-- a call that throws nothing -/
def StV {α : Type} (mk : α → Value) (l : Launch) (yX : MethodName) (wsX : List Cond) (rmX : Room) (yM : MethodName) (wsM : List Cond) (rmM : Room) (w : mj_W) (C : Nat) : Prop := ∃ (v : α) (w1 w2 : mj_W) (fs0 fs1 : List Value), MC l yX wsX rmX false [.ref 0] w (some (mk v)) w1 ∧ MC l yM wsM rmM false [.ref 11] w1 (some (mk v)) w2 ∧ w[0]? = some (.inr (3, fs0)) ∧ w1[11]? = some (.inr (4, fs1)) ∧ LI C w2
theorem mkOK {l : Launch} {yH yM : MethodName} {wsH wsM : List Cond} {rmH rmM : Room} {as : List Value} {w : mj_W} {C : Nat} {v : Int32} {f' rt' R' : mj_S} {T' m' : Nat} {R1' : mj_S} {m1' : Nat} {g' : mj_S} {n' : Nat} {th : Int32} {f sp sv : mj_S} {m2 : Nat} {sn : mj_S} {hs : Int32} {bf : mj_S} {ln ai : Nat} {sg fi se t3 : Int32} {hh : Int64} {o' : Nat → Int64} {sp' sv' sn' : mj_S} {hs' : Int32} {bf' : mj_S} {ai' : Nat} {sg' fi' se' t3' : Int32} {hh' : Int64} {t' : Nat → Nat} (hH : MCE l yH wsH rmH ctN false (.ref 0 :: (as ++ [.ref 17])) w (some (.int 0)) (WW (row (s_com f') f') rt' R' T' m' R1' 0 m1' g' n' th f sp sv m2 sn hs bf ln ai sg fi se t3 hh o')) (ho : o' 0 = v.toInt64) (hM : MC l yM wsM rmM false (.ref 11 :: as) (WW (row (s_com f') f') rt' R' T' m' R1' 0 m1' g' n' th f sp sv m2 sn hs bf ln ai sg fi se t3 hh o') (some (.int v)) (WW (row (s_com f') f') rt' R' T' m' R1' 0 m1' g' n' 0 f' sp' sv' m' sn' hs' bf' n' ai' sg' fi' se' t3' hh' o')) (hI : Inv C f' R' T' m' R1' m1' g' n' sv' sn' hs' bf' t') : StH l yH wsH rmH yM wsM rmM as w C := ⟨0, v, _, _, o', _, _, hH, hM, m_thrown mvW, rfl, rfl, rfl, fun _ => ho, ⟨_, _, _, _, _, _, _, _, _, _, _, _, _, _, _, _, _, _, _, _, _, _, _, rfl, hI⟩⟩
theorem mkBad {l : Launch} {yH yM : MethodName} {wsH wsM : List Cond} {rmH rmM : Room} {as : List Value} {C : Nat} {k : Int32} {f rt R : mj_S} {T m : Nat} {R1 : mj_S} {m1 : Nat} {g : mj_S} {n : Nat} {th : Int32} {sp sv sn : mj_S} {hs : Int32} {bf : mj_S} {ai : Nat} {sg fi se t3 : Int32} {hh : Int64} {o : Nat → Int64} {ai' : Nat} {sg' fi' se' t3' : Int32} {hh' : Int64} {t : Nat → Nat} (hk : ¬ k = 0) (hH : MCE l yH wsH rmH ctN false (.ref 0 :: (as ++ [.ref 17])) (WW (row (s_com f) f) rt R T m R1 0 m1 g n th f sp sv m sn hs bf n ai sg fi se t3 hh o) (some (.int k)) (WW (row (s_com f) f) rt R T m R1 0 m1 g n th f sp sv m sn hs bf n ai sg fi se t3 hh o)) (hM : MC l yM wsM rmM false (.ref 11 :: as) (WW (row (s_com f) f) rt R T m R1 0 m1 g n th f sp sv m sn hs bf n ai sg fi se t3 hh o) (some (.int 0)) (WW (row (s_com f) f) rt R T m R1 0 m1 g n k f sp sv m sn hs bf n ai' sg' fi' se' t3' hh' o)) (hI : Inv C f R T m R1 m1 g n sv sn hs bf t) : StH l yH wsH rmH yM wsM rmM as (WW (row (s_com f) f) rt R T m R1 0 m1 g n th f sp sv m sn hs bf n ai sg fi se t3 hh o) C := ⟨k, 0, _, _, o, _, _, hH, hM, m_thrown mvW, rfl, rfl, rfl, fun e => absurd e hk, ⟨_, _, _, _, _, _, _, _, _, _, _, _, _, _, _, _, _, _, _, _, _, _, _, rfl, hI⟩⟩
theorem mkV {α : Type} {mk : α → Value} {l : Launch} {yX yM : MethodName} {wsX wsM : List Cond} {rmX rmM : Room} {C : Nat} {v : α} {f rt R : mj_S} {T m : Nat} {R1 : mj_S} {m1 : Nat} {g : mj_S} {n : Nat} {sp sv sn : mj_S} {hs th : Int32} {bf : mj_S} {ai : Nat} {sg fi se t3 : Int32} {hh : Int64} {o : Nat → Int64} {f' rt' R' : mj_S} {T' m' : Nat} {R1' : mj_S} {m1' : Nat} {g' : mj_S} {n' : Nat} {th' : Int32} {sp' sv' sn' : mj_S} {hs' : Int32} {bf' : mj_S} {ai' : Nat} {sg' fi' se' t3' : Int32} {hh' : Int64} {t' : Nat → Nat} (hX : MC l yX wsX rmX false [.ref 0] (WW (row (s_com f) f) rt R T m R1 0 m1 g n th f sp sv m sn hs bf n ai sg fi se t3 hh o) (some (mk v)) (WW (row (s_com f') f') rt' R' T' m' R1' 0 m1' g' n' th f sp sv m sn hs bf n ai sg fi se t3 hh o)) (hM : MC l yM wsM rmM false [.ref 11] (WW (row (s_com f') f') rt' R' T' m' R1' 0 m1' g' n' th f sp sv m sn hs bf n ai sg fi se t3 hh o) (some (mk v)) (WW (row (s_com f') f') rt' R' T' m' R1' 0 m1' g' n' th' f' sp' sv' m' sn' hs' bf' n' ai' sg' fi' se' t3' hh' o)) (hI : Inv C f' R' T' m' R1' m1' g' n' sv' sn' hs' bf' t') : StV mk l yX wsX rmX yM wsM rmM (WW (row (s_com f) f) rt R T m R1 0 m1 g n th f sp sv m sn hs bf n ai sg fi se t3 hh o) C := ⟨v, _, _, _, _, hX, hM, rfl, rfl, ⟨_, _, _, _, _, _, _, _, _, _, _, _, _, _, _, _, _, _, _, _, _, _, _, rfl, hI⟩⟩
theorem nat_in {x : Int32} {a b : Nat} (ha : a < 2147483648) (hb : b < 2147483648) (h : nI a ≤ x ∧ x ≤ nI b) : ∃ v : Nat, (a ≤ v ∧ v ≤ b) ∧ x = nI v := by
  obtain ⟨v, hv, rfl⟩ := nI_of2 (M := nI b) (n := b) (nI_toInt hb) (Int32.not_lt.mpr (Int32.le_trans (nI_pos' ha) h.1)) h.2
  exact ⟨v, ⟨(nI_leI ha (by omega)).mp h.1, hv⟩, rfl⟩
theorem nat_m1 {x : Int32} (h : -1 ≤ x ∧ x ≤ 4) : x = -1 ∨ ∃ v : Nat, v < 5 ∧ x = nI v := by
  by_cases h0 : x < 0
  · exact Or.inl (Int32.le_antisymm (lt_le (by decide) h0) h.1)
  · obtain ⟨j, hj, rfl⟩ := nI_of2 (n := 4) (by decide) h0 h.2
    exact Or.inr ⟨j, by omega, rfl⟩
theorem ep_01 {x : Nat} (h : ¬ s_ep x = 1) : s_ep x = 0 := by
  unfold s_ep at h ⊢
  split <;> simp_all
theorem turn_1 (f : mj_S) : s_turn f 1 = 1 - f 1 := by
  unfold s_turn
  split
  · have h : ∀ d c (a : mj_S), itr (fun c a => s_setw a c (-1) (-1)) d c a 1 = a 1 := by
      intro d
      induction d with
      | zero => intro c a; rfl
      | succ d ih =>
        intro c a
        rw [itr_s, ih, s_setw, upd_n (by omega), upd_n (by omega)]
    rw [h, upd_s]
  · rw [upd_s]
theorem TX_app {g : mj_S} {n c : Nat} {t : Nat → Nat} (h : TX g n t) (hn : n < 60) (hc : 33 ≤ c ∧ c ≤ 126) : TX (upd g n (nI c)) (n + 1) (fun i => if i = n then c else t i) := by
  refine ⟨by omega, fun i hi => ?_⟩
  by_cases e : i = n
  · subst e
    simp only [if_pos]
    exact ⟨upd_s _ _ _, hc⟩
  · simp only [if_neg e]
    rw [upd_n e]
    exact h.2 i (by omega)
theorem TX_0 (g : mj_S) (t : Nat → Nat) : TX g 0 t := ⟨by omega, fun i hi => absurd hi (Nat.not_lt_zero i)⟩
theorem i_addneg (a b : Int32) : a + -b = a - b := by
  apply Int32.toBitVec_inj.1
  simp only [Int32.toBitVec_sub, Int32.toBitVec_add, Int32.toBitVec_neg]
  grind
theorem i_t1 (a b c : Int32) : a + b - (b - c) = a + c := by
  apply Int32.toBitVec_inj.1
  simp only [Int32.toBitVec_sub, Int32.toBitVec_add]
  grind
theorem i_t3 (a b : Int32) : a + b - b = a := by
  apply Int32.toBitVec_inj.1
  simp only [Int32.toBitVec_sub, Int32.toBitVec_add]
  grind
theorem i_t2 (a b c : Int32) : a + b - (b + c) = a - c := by
  apply Int32.toBitVec_inj.1
  simp only [Int32.toBitVec_sub, Int32.toBitVec_add]
  grind
theorem comG {f : mj_S} {c a b : Nat} {x : Int32} (hc : c < 5) (ha : a < 5) (hb : b < 4) : ∀ z, z < 4 → s_com (upd (upd f (53 + b + 4 * c) (f (53 + b + 4 * c) - x)) (53 + b + 4 * a) ((upd f (53 + b + 4 * c) (f (53 + b + 4 * c) - x)) (53 + b + 4 * a) + x)) z = s_com f z := by
  intro z hz
  rw [com_upd ha hb z hz]
  by_cases e : z = b
  · subst e
    rw [if_pos rfl, com_upd hc hb z hz, if_pos rfl, i_t2, i_t1]
    exact i_t3 _ _
  · rw [if_neg e, com_upd hc hb z hz, if_neg e]
section ST
variable {l : Launch}
theorem st_hearth (hl : l.stackTraces = false) {B : Nat} {w : mj_W} (hB : B < 2147000000) (h : LI B w) (x0 x1 x2 : Int32) (hx1 : x1 = 0 ∨ x1 = 1) : StH l yL_hearth wsL_hearth rmL_hearth yX4_hearth wsX4_hearth rmX4_hearth [.int x0, .int x1, .int x2] w (B + 4000) := by
  obtain ⟨f, rt, R, T, m, R1, m1, g, n, th, sp, sv, sn, hs, bf, ai, sg, fi, se, t3, hh, o, t, rfl, hI⟩ := h
  obtain ⟨⟨D, hDB, ho, hv⟩, hT, hm, hR, hO, hS, hX, hX2⟩ := id hI
  rcases hx1 with rfl | rfl
  · by_cases h0 : 0 ≤ x0 ∧ x0 ≤ 4
    · obtain ⟨a, ha, rfl⟩ := nat_in (a := 0) (b := 4) (by decide) (by decide) h0
      by_cases h2 : 50 ≤ x2 ∧ x2 ≤ 900
      · obtain ⟨v, hv2, rfl⟩ := nat_in (a := 50) (b := 900) (by decide) (by decide) h2
        have e1 : MC l yX3_hearth wsX3_hearth rmX3_hearth false [.ref 0, .int (nI a), .int 0, .int (nI v)] (WW (row (s_com f) f) rt R T m R1 0 m1 g n th f sp sv m sn hs bf n ai sg fi se t3 hh o) (some (.int (f (10 + a)))) (WW (row (s_com (upd (upd f (5 + a) 0) (10 + a) (nI v))) (upd (upd f (5 + a) 0) (10 + a) (nI v))) rt (s_blit (row (s_com f) f) (161 * nxT T) 161 R) (nxT T) (nxM m) R1 0 m1 g n th f sp sv m sn hs bf n ai sg fi se t3 hh o) := by
          rw [← row_same (sS_hearth (by omega)) (upd (upd f (5 + a) 0) (10 + a) (nI v))]
          exact x_hearth0 cvW hT hm (by omega) hv2
        have e2 : MC l yX4_hearth wsX4_hearth rmX4_hearth false [.ref 11, .int (nI a), .int 0, .int (nI v)] (WW (row (s_com (upd (upd f (5 + a) 0) (10 + a) (nI v))) (upd (upd f (5 + a) 0) (10 + a) (nI v))) rt (s_blit (row (s_com f) f) (161 * nxT T) 161 R) (nxT T) (nxM m) R1 0 m1 g n th f sp sv m sn hs bf n ai sg fi se t3 hh (vp_updL o 0 (((f (10 + a)) : Int32)).toInt64)) (some (.int (f (10 + a)))) (WW (row (s_com (upd (upd f (5 + a) 0) (10 + a) (nI v))) (upd (upd f (5 + a) 0) (10 + a) (nI v))) rt (s_blit (row (s_com f) f) (161 * nxT T) 161 R) (nxT T) (nxM m) R1 0 m1 g n 0 (upd (upd f (5 + a) 0) (10 + a) (nI v)) sp (s_save f sv m) (nxM m) sn hs bf n ai sg fi se t3 hh (vp_updL o 0 (((f (10 + a)) : Int32)).toInt64)) := by
          rw [← svm_nx hm, show (upd (upd f (5 + a) 0) (10 + a) (nI v)) = upd (upd f (10 + a) (nI v)) (5 + a) 0 from upd_comm (by omega)]
          exact m_hearth0 mvW hm (by omega) hv2
        exact mkOK (lh_hearth_0 (xp := 0) (op := 17) e1 rfl rfl) pk_uLs e2 (hI.push (by omega) (okS_upd ((okS_wid ⟨D, hDB, ho, hv⟩ (by omega) (by decide)).mono (by omega)) (by unfold inA; omega) (by unfold inT; omega)))
      · exact mkBad (k := 2) (by decide) (lh_hearth_2 (xp := 0) (x_hearth_2 hl (by omega) h2) rfl) (m_hearth_20 mvW (by omega) h2) (hI.mono (by omega))
    · exact mkBad (k := 1) (by decide) (lh_hearth_1 (xp := 0) (x_hearth_1 hl h0) rfl) (m_hearth_10 mvW h0) (hI.mono (by omega))
  · by_cases h0 : 0 ≤ x0 ∧ x0 ≤ 4
    · obtain ⟨a, ha, rfl⟩ := nat_in (a := 0) (b := 4) (by decide) (by decide) h0
      by_cases h2 : 50 ≤ x2 ∧ x2 ≤ 900
      · obtain ⟨v, hv2, rfl⟩ := nat_in (a := 50) (b := 900) (by decide) (by decide) h2
        have e1 : MC l yX3_hearth wsX3_hearth rmX3_hearth false [.ref 0, .int (nI a), .int 1, .int (nI v)] (WW (row (s_com f) f) rt R T m R1 0 m1 g n th f sp sv m sn hs bf n ai sg fi se t3 hh o) (some (.int (f (10 + a)))) (WW (row (s_com (upd (upd f (5 + a) 1) (10 + a) (nI v))) (upd (upd f (5 + a) 1) (10 + a) (nI v))) rt (s_blit (row (s_com f) f) (161 * nxT T) 161 R) (nxT T) (nxM m) R1 0 m1 g n th f sp sv m sn hs bf n ai sg fi se t3 hh o) := by
          rw [← row_same (sS_hearth (by omega)) (upd (upd f (5 + a) 1) (10 + a) (nI v))]
          exact x_hearth1 cvW hT hm (by omega) hv2
        have e2 : MC l yX4_hearth wsX4_hearth rmX4_hearth false [.ref 11, .int (nI a), .int 1, .int (nI v)] (WW (row (s_com (upd (upd f (5 + a) 1) (10 + a) (nI v))) (upd (upd f (5 + a) 1) (10 + a) (nI v))) rt (s_blit (row (s_com f) f) (161 * nxT T) 161 R) (nxT T) (nxM m) R1 0 m1 g n th f sp sv m sn hs bf n ai sg fi se t3 hh (vp_updL o 0 (((f (10 + a)) : Int32)).toInt64)) (some (.int (f (10 + a)))) (WW (row (s_com (upd (upd f (5 + a) 1) (10 + a) (nI v))) (upd (upd f (5 + a) 1) (10 + a) (nI v))) rt (s_blit (row (s_com f) f) (161 * nxT T) 161 R) (nxT T) (nxM m) R1 0 m1 g n 0 (upd (upd f (5 + a) 1) (10 + a) (nI v)) sp (s_save f sv m) (nxM m) sn hs bf n ai sg fi se t3 hh (vp_updL o 0 (((f (10 + a)) : Int32)).toInt64)) := by
          rw [← svm_nx hm, show (upd (upd f (5 + a) 1) (10 + a) (nI v)) = upd (upd f (10 + a) (nI v)) (5 + a) 1 from upd_comm (by omega)]
          exact m_hearth1 mvW hm (by omega) hv2
        exact mkOK (lh_hearth_0 (xp := 0) (op := 17) e1 rfl rfl) pk_uLs e2 (hI.push (by omega) (okS_upd ((okS_wid ⟨D, hDB, ho, hv⟩ (by omega) (by decide)).mono (by omega)) (by unfold inA; omega) (by unfold inT; omega)))
      · exact mkBad (k := 2) (by decide) (lh_hearth_2 (xp := 0) (x_hearth_2 hl (by omega) h2) rfl) (m_hearth_21 mvW (by omega) h2) (hI.mono (by omega))
    · exact mkBad (k := 1) (by decide) (lh_hearth_1 (xp := 0) (x_hearth_1 hl h0) rfl) (m_hearth_11 mvW h0) (hI.mono (by omega))
theorem st_track (hl : l.stackTraces = false) {B : Nat} {w : mj_W} (hB : B < 2147000000) (h : LI B w) (x0 x1 : Int32) : StH l yL_track wsL_track rmL_track yX4_track wsX4_track rmX4_track [.int x0, .int x1] w (B + 4000) := by
  obtain ⟨f, rt, R, T, m, R1, m1, g, n, th, sp, sv, sn, hs, bf, ai, sg, fi, se, t3, hh, o, t, rfl, hI⟩ := h
  obtain ⟨⟨D, hDB, ho, hv⟩, hT, hm, hR, hO, hS, hX, hX2⟩ := id hI
  by_cases h0 : 0 ≤ x0 ∧ x0 ≤ 3
  · obtain ⟨a, ha, rfl⟩ := nat_in (a := 0) (b := 3) (by decide) (by decide) h0
    by_cases h2 : 10 ≤ x1 ∧ x1 ≤ 90
    · obtain ⟨v, hv2, rfl⟩ := nat_in (a := 10) (b := 90) (by decide) (by decide) h2
      have e1 : MC l yX3_track wsX3_track rmX3_track false [.ref 0, .int (nI a), .int (nI v)] (WW (row (s_com f) f) rt R T m R1 0 m1 g n th f sp sv m sn hs bf n ai sg fi se t3 hh o) (some (.int (f (49 + a)))) (WW (row (s_com (upd f (49 + a) (nI v))) (upd f (49 + a) (nI v))) rt (s_blit (row (s_com f) f) (161 * nxT T) 161 R) (nxT T) (nxM m) R1 0 m1 g n th f sp sv m sn hs bf n ai sg fi se t3 hh o) := by
        rw [← row_same (sS_upd (sS_rf f) (by omega)) (upd f (49 + a) (nI v))]
        exact x_track cvW hT hm (by omega) hv2
      have e2 : MC l yX4_track wsX4_track rmX4_track false [.ref 11, .int (nI a), .int (nI v)] (WW (row (s_com (upd f (49 + a) (nI v))) (upd f (49 + a) (nI v))) rt (s_blit (row (s_com f) f) (161 * nxT T) 161 R) (nxT T) (nxM m) R1 0 m1 g n th f sp sv m sn hs bf n ai sg fi se t3 hh (vp_updL o 0 (((f (49 + a)) : Int32)).toInt64)) (some (.int (f (49 + a)))) (WW (row (s_com (upd f (49 + a) (nI v))) (upd f (49 + a) (nI v))) rt (s_blit (row (s_com f) f) (161 * nxT T) 161 R) (nxT T) (nxM m) R1 0 m1 g n 0 (upd f (49 + a) (nI v)) sp (s_save f sv m) (nxM m) sn hs bf n ai sg fi se t3 hh (vp_updL o 0 (((f (49 + a)) : Int32)).toInt64)) := by
        rw [← svm_nx hm]
        exact m_track mvW hm (by omega) hv2
      exact mkOK (lh_track_0 (xp := 0) (op := 17) e1 rfl rfl) pk_uLs e2 (hI.push (by omega) ((okS_track ⟨D, hDB, ho, hv⟩ (by omega) (by omega)).mono (by omega)))
    · exact mkBad (k := 2) (by decide) (lh_track_2 (xp := 0) (x_track_2 hl (by omega) h2) rfl) (m_track_2 mvW (by omega) h2) (hI.mono (by omega))
  · exact mkBad (k := 1) (by decide) (lh_track_1 (xp := 0) (x_track_1 hl h0) rfl) (m_track_1 mvW h0) (hI.mono (by omega))
theorem st_strength (hl : l.stackTraces = false) {B : Nat} {w : mj_W} (hB : B < 2147000000) (h : LI B w) (x0 x1 : Int32) : StH l yL_strength wsL_strength rmL_strength yX4_strength wsX4_strength rmX4_strength [.int x0, .int x1] w (B + 4000) := by
  obtain ⟨f, rt, R, T, m, R1, m1, g, n, th, sp, sv, sn, hs, bf, ai, sg, fi, se, t3, hh, o, t, rfl, hI⟩ := h
  obtain ⟨⟨D, hDB, ho, hv⟩, hT, hm, hR, hO, hS, hX, hX2⟩ := id hI
  by_cases h0 : 0 ≤ x0 ∧ x0 ≤ 5
  · obtain ⟨a, ha, rfl⟩ := nat_in (a := 0) (b := 5) (by decide) (by decide) h0
    by_cases h2 : 5 ≤ x1 ∧ x1 ≤ 40
    · obtain ⟨v, hv2, rfl⟩ := nat_in (a := 5) (b := 40) (by decide) (by decide) h2
      have e1 : MC l yX3_strength wsX3_strength rmX3_strength false [.ref 0, .int (nI a), .int (nI v)] (WW (row (s_com f) f) rt R T m R1 0 m1 g n th f sp sv m sn hs bf n ai sg fi se t3 hh o) (some (.int (f (133 + a)))) (WW (row (s_com (upd f (133 + a) (nI v))) (upd f (133 + a) (nI v))) rt (s_blit (row (s_com f) f) (161 * nxT T) 161 R) (nxT T) (nxM m) R1 0 m1 g n th f sp sv m sn hs bf n ai sg fi se t3 hh o) := by
        rw [← row_same (sS_upd (sS_rf f) (by omega)) (upd f (133 + a) (nI v))]
        exact x_strength cvW hT hm (by omega) hv2
      have e2 : MC l yX4_strength wsX4_strength rmX4_strength false [.ref 11, .int (nI a), .int (nI v)] (WW (row (s_com (upd f (133 + a) (nI v))) (upd f (133 + a) (nI v))) rt (s_blit (row (s_com f) f) (161 * nxT T) 161 R) (nxT T) (nxM m) R1 0 m1 g n th f sp sv m sn hs bf n ai sg fi se t3 hh (vp_updL o 0 (((f (133 + a)) : Int32)).toInt64)) (some (.int (f (133 + a)))) (WW (row (s_com (upd f (133 + a) (nI v))) (upd f (133 + a) (nI v))) rt (s_blit (row (s_com f) f) (161 * nxT T) 161 R) (nxT T) (nxM m) R1 0 m1 g n 0 (upd f (133 + a) (nI v)) sp (s_save f sv m) (nxM m) sn hs bf n ai sg fi se t3 hh (vp_updL o 0 (((f (133 + a)) : Int32)).toInt64)) := by
        rw [← svm_nx hm]
        exact m_strength mvW hm (by omega) hv2
      exact mkOK (lh_strength_0 (xp := 0) (op := 17) e1 rfl rfl) pk_uLs e2 (hI.push (by omega) ((okS_str ⟨D, hDB, ho, hv⟩ (by omega) (by omega)).mono (by omega)))
    · exact mkBad (k := 2) (by decide) (lh_strength_2 (xp := 0) (x_strength_2 hl (by omega) h2) rfl) (m_strength_2 mvW (by omega) h2) (hI.mono (by omega))
  · exact mkBad (k := 1) (by decide) (lh_strength_1 (xp := 0) (x_strength_1 hl h0) rfl) (m_strength_1 mvW h0) (hI.mono (by omega))
theorem st_set (hl : l.stackTraces = false) {B : Nat} {w : mj_W} (hB : B < 2147000000) (h : LI B w) (x0 x1 : Int32) : StH l yL_set wsL_set rmL_set yX4_set wsX4_set rmX4_set [.int x0, .int x1] w (B + 4000) := by
  obtain ⟨f, rt, R, T, m, R1, m1, g, n, th, sp, sv, sn, hs, bf, ai, sg, fi, se, t3, hh, o, t, rfl, hI⟩ := h
  obtain ⟨⟨D, hDB, ho, hv⟩, hT, hm, hR, hO, hS, hX, hX2⟩ := id hI
  by_cases h0 : 0 ≤ x0 ∧ x0 ≤ 2
  · obtain ⟨a, ha, rfl⟩ := nat_in (a := 0) (b := 2) (by decide) (by decide) h0
    rcases (show a = 0 ∨ a = 1 ∨ a = 2 by omega) with rfl | rfl | rfl
    · by_cases h2 : 0 ≤ x1 ∧ x1 ≤ 9
      · obtain ⟨v, hv2, rfl⟩ := nat_in (a := 0) (b := 9) (by decide) (by decide) h2
        have e1 : MC l yX3_set wsX3_set rmX3_set false [.ref 0, .int 0, .int (nI v)] (WW (row (s_com f) f) rt R T m R1 0 m1 g n th f sp sv m sn hs bf n ai sg fi se t3 hh o) (some (.int (f 2))) (WW (row (s_com (upd f 2 (nI v))) (upd f 2 (nI v))) rt (s_blit (row (s_com f) f) (161 * nxT T) 161 R) (nxT T) (nxM m) R1 0 m1 g n th f sp sv m sn hs bf n ai sg fi se t3 hh o) := by
          rw [← row_same (sS_upd (sS_rf f) (by omega)) (upd f 2 (nI v))]
          exact x_set0 cvW hT hm hv2
        have e2 : MC l yX4_set wsX4_set rmX4_set false [.ref 11, .int 0, .int (nI v)] (WW (row (s_com (upd f 2 (nI v))) (upd f 2 (nI v))) rt (s_blit (row (s_com f) f) (161 * nxT T) 161 R) (nxT T) (nxM m) R1 0 m1 g n th f sp sv m sn hs bf n ai sg fi se t3 hh (vp_updL o 0 (((f 2) : Int32)).toInt64)) (some (.int (f 2))) (WW (row (s_com (upd f 2 (nI v))) (upd f 2 (nI v))) rt (s_blit (row (s_com f) f) (161 * nxT T) 161 R) (nxT T) (nxM m) R1 0 m1 g n 0 (upd f 2 (nI v)) sp (s_save f sv m) (nxM m) sn hs bf n ai sg fi se t3 hh (vp_updL o 0 (((f 2) : Int32)).toInt64)) := by
          rw [← svm_nx hm]
          exact m_set0 mvW hm hv2
        exact mkOK (lh_set_0 (xp := 0) (op := 17) e1 rfl rfl) pk_uLs e2 (hI.push (by omega) ((okS_set ⟨D, hDB, ho, hv⟩ (by omega)).mono (by omega)))
      · exact mkBad (k := 2) (by decide) (lh_set_2 (xp := 0) (x_set_20 hl h2) rfl) (m_set_20 mvW h2) (hI.mono (by omega))
    · by_cases h2 : 0 ≤ x1 ∧ x1 ≤ 50
      · obtain ⟨v, hv2, rfl⟩ := nat_in (a := 0) (b := 50) (by decide) (by decide) h2
        have e1 : MC l yX3_set wsX3_set rmX3_set false [.ref 0, .int 1, .int (nI v)] (WW (row (s_com f) f) rt R T m R1 0 m1 g n th f sp sv m sn hs bf n ai sg fi se t3 hh o) (some (.int (f 3))) (WW (row (s_com (upd f 3 (nI v))) (upd f 3 (nI v))) rt (s_blit (row (s_com f) f) (161 * nxT T) 161 R) (nxT T) (nxM m) R1 0 m1 g n th f sp sv m sn hs bf n ai sg fi se t3 hh o) := by
          rw [← row_same (sS_upd (sS_rf f) (by omega)) (upd f 3 (nI v))]
          exact x_set1 cvW hT hm hv2
        have e2 : MC l yX4_set wsX4_set rmX4_set false [.ref 11, .int 1, .int (nI v)] (WW (row (s_com (upd f 3 (nI v))) (upd f 3 (nI v))) rt (s_blit (row (s_com f) f) (161 * nxT T) 161 R) (nxT T) (nxM m) R1 0 m1 g n th f sp sv m sn hs bf n ai sg fi se t3 hh (vp_updL o 0 (((f 3) : Int32)).toInt64)) (some (.int (f 3))) (WW (row (s_com (upd f 3 (nI v))) (upd f 3 (nI v))) rt (s_blit (row (s_com f) f) (161 * nxT T) 161 R) (nxT T) (nxM m) R1 0 m1 g n 0 (upd f 3 (nI v)) sp (s_save f sv m) (nxM m) sn hs bf n ai sg fi se t3 hh (vp_updL o 0 (((f 3) : Int32)).toInt64)) := by
          rw [← svm_nx hm]
          exact m_set1 mvW hm hv2
        exact mkOK (lh_set_0 (xp := 0) (op := 17) e1 rfl rfl) pk_uLs e2 (hI.push (by omega) ((okS_set ⟨D, hDB, ho, hv⟩ (by omega)).mono (by omega)))
      · exact mkBad (k := 2) (by decide) (lh_set_2 (xp := 0) (x_set_21 hl h2) rfl) (m_set_21 mvW h2) (hI.mono (by omega))
    · by_cases h2 : 1 ≤ x1 ∧ x1 ≤ 30
      · obtain ⟨v, hv2, rfl⟩ := nat_in (a := 1) (b := 30) (by decide) (by decide) h2
        have e1 : MC l yX3_set wsX3_set rmX3_set false [.ref 0, .int 2, .int (nI v)] (WW (row (s_com f) f) rt R T m R1 0 m1 g n th f sp sv m sn hs bf n ai sg fi se t3 hh o) (some (.int (f 4))) (WW (row (s_com (upd f 4 (nI v))) (upd f 4 (nI v))) rt (s_blit (row (s_com f) f) (161 * nxT T) 161 R) (nxT T) (nxM m) R1 0 m1 g n th f sp sv m sn hs bf n ai sg fi se t3 hh o) := by
          rw [← row_same (sS_upd (sS_rf f) (by omega)) (upd f 4 (nI v))]
          exact x_set2 cvW hT hm hv2
        have e2 : MC l yX4_set wsX4_set rmX4_set false [.ref 11, .int 2, .int (nI v)] (WW (row (s_com (upd f 4 (nI v))) (upd f 4 (nI v))) rt (s_blit (row (s_com f) f) (161 * nxT T) 161 R) (nxT T) (nxM m) R1 0 m1 g n th f sp sv m sn hs bf n ai sg fi se t3 hh (vp_updL o 0 (((f 4) : Int32)).toInt64)) (some (.int (f 4))) (WW (row (s_com (upd f 4 (nI v))) (upd f 4 (nI v))) rt (s_blit (row (s_com f) f) (161 * nxT T) 161 R) (nxT T) (nxM m) R1 0 m1 g n 0 (upd f 4 (nI v)) sp (s_save f sv m) (nxM m) sn hs bf n ai sg fi se t3 hh (vp_updL o 0 (((f 4) : Int32)).toInt64)) := by
          rw [← svm_nx hm]
          exact m_set2 mvW hm hv2
        exact mkOK (lh_set_0 (xp := 0) (op := 17) e1 rfl rfl) pk_uLs e2 (hI.push (by omega) ((okS_set ⟨D, hDB, ho, hv⟩ (by omega)).mono (by omega)))
      · exact mkBad (k := 2) (by decide) (lh_set_2 (xp := 0) (x_set_22 hl h2) rfl) (m_set_22 mvW h2) (hI.mono (by omega))
  · exact mkBad (k := 1) (by decide) (lh_set_1 (xp := 0) (x_set_1 hl h0) rfl) (m_set_1 mvW h0) (hI.mono (by omega))
theorem st_work (hl : l.stackTraces = false) {B : Nat} {w : mj_W} (hB : B < 2147000000) (h : LI B w) (x0 x1 x2 : Int32) : StH l yL_work wsL_work rmL_work yX4_work wsX4_work rmX4_work [.int x0, .int x1, .int x2] w (B + 4000) := by
  obtain ⟨f, rt, R, T, m, R1, m1, g, n, th, sp, sv, sn, hs, bf, ai, sg, fi, se, t3, hh, o, t, rfl, hI⟩ := h
  obtain ⟨⟨D, hDB, ho, hv⟩, hT, hm, hR, hO, hS, hX, hX2⟩ := id hI
  by_cases h0 : 0 ≤ x0 ∧ x0 ≤ 5
  · obtain ⟨c, hc, rfl⟩ := nat_in (a := 0) (b := 5) (by decide) (by decide) h0
    by_cases h1 : 0 ≤ x1 ∧ x1 ≤ 4
    · obtain ⟨a, ha, rfl⟩ := nat_in (a := 0) (b := 4) (by decide) (by decide) h1
      by_cases h2 : 0 ≤ x2 ∧ x2 ≤ 3
      · obtain ⟨b, hb, rfl⟩ := nat_in (a := 0) (b := 3) (by decide) (by decide) h2
        by_cases hr : s_why f a b = 0
        · skip
          have e1 : MC l yX3_work wsX3_work rmX3_work false [.ref 0, .int (nI c), .int (nI a), .int (nI b)] (WW (row (s_com f) f) rt R T m R1 0 m1 g n th f sp sv m sn hs bf n ai sg fi se t3 hh o) (some (.int (s_cnt (s_setw f c (nI a) (nI b)) (nI a) (nI b)))) (WW (row (s_com (s_setw f c (nI a) (nI b))) (s_setw f c (nI a) (nI b))) rt (s_blit (row (s_com f) f) (161 * nxT T) 161 R) (nxT T) (nxM m) R1 0 m1 g n th f sp sv m sn hs bf n ai sg fi se t3 hh o) := by
            rw [← row_same (sS_setw (sS_rf f)) (s_setw f c (nI a) (nI b))]
            exact x_work cvW hT hm (by omega) (by omega) (by omega) hr
          have e2 : MC l yX4_work wsX4_work rmX4_work false [.ref 11, .int (nI c), .int (nI a), .int (nI b)] (WW (row (s_com (s_setw f c (nI a) (nI b))) (s_setw f c (nI a) (nI b))) rt (s_blit (row (s_com f) f) (161 * nxT T) 161 R) (nxT T) (nxM m) R1 0 m1 g n th f sp sv m sn hs bf n ai sg fi se t3 hh (vp_updL o 0 (((s_cnt (s_setw f c (nI a) (nI b)) (nI a) (nI b)) : Int32)).toInt64)) (some (.int (s_cnt (s_setw f c (nI a) (nI b)) (nI a) (nI b)))) (WW (row (s_com (s_setw f c (nI a) (nI b))) (s_setw f c (nI a) (nI b))) rt (s_blit (row (s_com f) f) (161 * nxT T) 161 R) (nxT T) (nxM m) R1 0 m1 g n 0 (s_setw f c (nI a) (nI b)) sp (s_save f sv m) (nxM m) sn hs bf n ai sg fi se t3 hh (vp_updL o 0 (((s_cnt (s_setw f c (nI a) (nI b)) (nI a) (nI b)) : Int32)).toInt64)) := by
            rw [← svm_nx hm]
            exact m_work mvW hm (by omega) (by omega) (by omega) hr
          exact mkOK (lh_work_0 (xp := 0) (op := 17) e1 rfl rfl) pk_uLs e2 (hI.push (by omega) (⟨D, by omega, oA_setw ho (by omega) (Or.inr ⟨a, b, by omega, by omega, rfl, rfl⟩), vt_setw (by omega) hv⟩))
        · exact mkBad (k := 2) (by decide) (lh_work_2 (xp := 0) (x_work_2 hl cvW (by omega) (by omega) (by omega) hr) rfl) (m_work_2 mvW (by omega) (by omega) (by omega) hr) (hI.mono (by omega))
      · exact mkBad (k := 1) (by decide) (lh_work_1 (xp := 0) (x_work_1b hl (by omega) (by omega) h2) rfl) (m_work_1b mvW (by omega) (by omega) h2) (hI.mono (by omega))
    · exact mkBad (k := 1) (by decide) (lh_work_1 (xp := 0) (x_work_1h hl (by omega) h1) rfl) (m_work_1h mvW (by omega) h1) (hI.mono (by omega))
  · exact mkBad (k := 1) (by decide) (lh_work_1 (xp := 0) (x_work_1c hl h0) rfl) (m_work_1c mvW h0) (hI.mono (by omega))
theorem st_whyNot (hl : l.stackTraces = false) {B : Nat} {w : mj_W} (hB : B < 2147000000) (h : LI B w) (x0 x1 x2 : Int32) : StH l yL_whyNot wsL_whyNot rmL_whyNot yX4_whyNot wsX4_whyNot rmX4_whyNot [.int x0, .int x1, .int x2] w (B + 4000) := by
  obtain ⟨f, rt, R, T, m, R1, m1, g, n, th, sp, sv, sn, hs, bf, ai, sg, fi, se, t3, hh, o, t, rfl, hI⟩ := h
  obtain ⟨⟨D, hDB, ho, hv⟩, hT, hm, hR, hO, hS, hX, hX2⟩ := id hI
  by_cases h0 : 0 ≤ x0 ∧ x0 ≤ 5
  · obtain ⟨c, hc, rfl⟩ := nat_in (a := 0) (b := 5) (by decide) (by decide) h0
    by_cases h1 : 0 ≤ x1 ∧ x1 ≤ 4
    · obtain ⟨a, ha, rfl⟩ := nat_in (a := 0) (b := 4) (by decide) (by decide) h1
      by_cases h2 : 0 ≤ x2 ∧ x2 ≤ 3
      · obtain ⟨b, hb, rfl⟩ := nat_in (a := 0) (b := 3) (by decide) (by decide) h2
        have e1 : MC l yX3_whyNot wsX3_whyNot rmX3_whyNot false [.ref 0, .int (nI c), .int (nI a), .int (nI b)] (WW (row (s_com f) f) rt R T m R1 0 m1 g n th f sp sv m sn hs bf n ai sg fi se t3 hh o) (some (.int (s_why f a b))) (WW (row (s_com f) f) rt R T m R1 0 m1 g n th f sp sv m sn hs bf n ai sg fi se t3 hh o) := by
          exact x_whyNot cvW (by omega) (by omega) (by omega)
        have e2 : MC l yX4_whyNot wsX4_whyNot rmX4_whyNot false [.ref 11, .int (nI c), .int (nI a), .int (nI b)] (WW (row (s_com f) f) rt R T m R1 0 m1 g n th f sp sv m sn hs bf n ai sg fi se t3 hh (vp_updL o 0 (((s_why f a b) : Int32)).toInt64)) (some (.int (s_why f a b))) (WW (row (s_com f) f) rt R T m R1 0 m1 g n 0 f sp sv m sn hs bf n ai sg fi se t3 hh (vp_updL o 0 (((s_why f a b) : Int32)).toInt64)) := by
          exact m_whyNot mvW (by omega) (by omega) (by omega)
        exact mkOK (lh_whyNot_0 (xp := 0) (op := 17) e1 rfl rfl) pk_uLs e2 (hI.mono (by omega))
      · exact mkBad (k := 1) (by decide) (lh_whyNot_1 (xp := 0) (x_whyNot_1b hl (by omega) (by omega) h2) rfl) (m_whyNot_1b mvW (by omega) (by omega) h2) (hI.mono (by omega))
    · exact mkBad (k := 1) (by decide) (lh_whyNot_1 (xp := 0) (x_whyNot_1h hl (by omega) h1) rfl) (m_whyNot_1h mvW (by omega) h1) (hI.mono (by omega))
  · exact mkBad (k := 1) (by decide) (lh_whyNot_1 (xp := 0) (x_whyNot_1c hl h0) rfl) (m_whyNot_1c mvW h0) (hI.mono (by omega))
theorem st_rest (hl : l.stackTraces = false) {B : Nat} {w : mj_W} (hB : B < 2147000000) (h : LI B w) (x0 : Int32) : StH l yL_rest wsL_rest rmL_rest yX4_rest wsX4_rest rmX4_rest [.int x0] w (B + 4000) := by
  obtain ⟨f, rt, R, T, m, R1, m1, g, n, th, sp, sv, sn, hs, bf, ai, sg, fi, se, t3, hh, o, t, rfl, hI⟩ := h
  obtain ⟨⟨D, hDB, ho, hv⟩, hT, hm, hR, hO, hS, hX, hX2⟩ := id hI
  by_cases h0 : 0 ≤ x0 ∧ x0 ≤ 5
  · obtain ⟨c, hc, rfl⟩ := nat_in (a := 0) (b := 5) (by decide) (by decide) h0
    have e1 : MC l yX3_rest wsX3_rest rmX3_rest false [.ref 0, .int (nI c)] (WW (row (s_com f) f) rt R T m R1 0 m1 g n th f sp sv m sn hs bf n ai sg fi se t3 hh o) (some (.int (s_cntA (s_setw f c (-1) (-1))))) (WW (row (s_com (s_setw f c (-1) (-1))) (s_setw f c (-1) (-1))) rt (s_blit (row (s_com f) f) (161 * nxT T) 161 R) (nxT T) (nxM m) R1 0 m1 g n th f sp sv m sn hs bf n ai sg fi se t3 hh o) := by
      rw [← row_same (sS_setw (sS_rf f)) (s_setw f c (-1) (-1))]
      exact x_rest cvW hT hm (by omega)
    have e2 : MC l yX4_rest wsX4_rest rmX4_rest false [.ref 11, .int (nI c)] (WW (row (s_com (s_setw f c (-1) (-1))) (s_setw f c (-1) (-1))) rt (s_blit (row (s_com f) f) (161 * nxT T) 161 R) (nxT T) (nxM m) R1 0 m1 g n th f sp sv m sn hs bf n ai sg fi se t3 hh (vp_updL o 0 (((s_cntA (s_setw f c (-1) (-1))) : Int32)).toInt64)) (some (.int (s_cntA (s_setw f c (-1) (-1))))) (WW (row (s_com (s_setw f c (-1) (-1))) (s_setw f c (-1) (-1))) rt (s_blit (row (s_com f) f) (161 * nxT T) 161 R) (nxT T) (nxM m) R1 0 m1 g n 0 (s_setw f c (-1) (-1)) sp (s_save f sv m) (nxM m) sn hs bf n ai sg fi se t3 hh (vp_updL o 0 (((s_cntA (s_setw f c (-1) (-1))) : Int32)).toInt64)) := by
      rw [← svm_nx hm]
      exact m_rest mvW hm (by omega)
    exact mkOK (lh_rest_0 (xp := 0) (op := 17) e1 rfl rfl) pk_uLs e2 (hI.push (by omega) (⟨D, by omega, oA_setw ho (by omega) (Or.inl ⟨rfl, rfl⟩), vt_setw (by omega) hv⟩))
  · exact mkBad (k := 1) (by decide) (lh_rest_1 (xp := 0) (x_rest_1 hl h0) rfl) (m_rest_1 mvW h0) (hI.mono (by omega))
theorem st_pass (hl : l.stackTraces = false) {B : Nat} {w : mj_W} (hB : B < 2147000000) (h : LI B w) (x0 : Int32) : StH l yL_pass wsL_pass rmL_pass yX4_pass wsX4_pass rmX4_pass [.int x0] w (B + 4000) := by
  obtain ⟨f, rt, R, T, m, R1, m1, g, n, th, sp, sv, sn, hs, bf, ai, sg, fi, se, t3, hh, o, t, rfl, hI⟩ := h
  obtain ⟨⟨D, hDB, ho, hv⟩, hT, hm, hR, hO, hS, hX, hX2⟩ := id hI
  by_cases h0 : 1 ≤ x0 ∧ x0 ≤ 60
  · obtain ⟨k, hk, rfl⟩ := nat_in (a := 1) (b := 60) (by decide) (by decide) h0
    have e1 : MC l yX3_pass wsX3_pass rmX3_pass false [.ref 0, .int (nI k)] (WW (row (s_com f) f) rt R T m R1 0 m1 g n th f sp sv m sn hs bf n ai sg fi se t3 hh o) (some (.int (s_days k f).2)) (WW (row (s_com (s_days k f).1) (s_days k f).1) rt (s_blit (row (s_com f) f) (161 * nxT T) 161 R) (nxT T) (nxM m) R1 0 m1 g n th f sp sv m sn hs bf n ai sg fi se t3 hh o) := by
      rw [← row_same (okS.days ⟨D, hDB, ho, hv⟩ (by omega)) (s_days k f).1]
      exact x_pass cvW hT hm ho hv (by omega) hk
    have e2 : MC l yX4_pass wsX4_pass rmX4_pass false [.ref 11, .int (nI k)] (WW (row (s_com (s_days k f).1) (s_days k f).1) rt (s_blit (row (s_com f) f) (161 * nxT T) 161 R) (nxT T) (nxM m) R1 0 m1 g n th f sp sv m sn hs bf n ai sg fi se t3 hh (vp_updL o 0 (((s_days k f).2 : Int32)).toInt64)) (some (.int (s_days k f).2)) (WW (row (s_com (s_days k f).1) (s_days k f).1) rt (s_blit (row (s_com f) f) (161 * nxT T) 161 R) (nxT T) (nxM m) R1 0 m1 g n 0 (s_days k f).1 sp (s_save f sv m) (nxM m) sn hs bf n ai sg fi se t3 hh (vp_updL o 0 (((s_days k f).2 : Int32)).toInt64)) := by
      rw [← svm_nx hm]
      exact m_pass mvW hm ho hv (by omega) hk
    exact mkOK (lh_pass_0 (xp := 0) (op := 17) e1 rfl rfl) pk_uLs e2 (hI.push (by omega) ((okS_days ⟨D, hDB, ho, hv⟩ (by omega)).mono (by omega)))
  · exact mkBad (k := 1) (by decide) (lh_pass_1 (xp := 0) (x_pass_1 hl h0) rfl) (m_pass_1 mvW h0) (hI.mono (by omega))
theorem st_hearthOf (hl : l.stackTraces = false) {B : Nat} {w : mj_W} (hB : B < 2147000000) (h : LI B w) (x0 x1 : Int32) : StH l yL_hearthOf wsL_hearthOf rmL_hearthOf yX4_hearthOf wsX4_hearthOf rmX4_hearthOf [.int x0, .int x1] w (B + 4000) := by
  obtain ⟨f, rt, R, T, m, R1, m1, g, n, th, sp, sv, sn, hs, bf, ai, sg, fi, se, t3, hh, o, t, rfl, hI⟩ := h
  obtain ⟨⟨D, hDB, ho, hv⟩, hT, hm, hR, hO, hS, hX, hX2⟩ := id hI
  by_cases h0 : 0 ≤ x0 ∧ x0 ≤ 4
  · obtain ⟨a, ha, rfl⟩ := nat_in (a := 0) (b := 4) (by decide) (by decide) h0
    by_cases h1 : 0 ≤ x1 ∧ x1 ≤ 11
    · obtain ⟨k, hk, rfl⟩ := nat_in (a := 0) (b := 11) (by decide) (by decide) h1
      have e1 : MC l yX3_hearthOf wsX3_hearthOf rmX3_hearthOf false [.ref 0, .int (nI a), .int (nI k)] (WW (row (s_com f) f) rt R T m R1 0 m1 g n th f sp sv m sn hs bf n ai sg fi se t3 hh o) (some (.int (s_ofH f a k))) (WW (row (s_com f) f) rt R T m R1 0 m1 g n th f sp sv m sn hs bf n ai sg fi se t3 hh o) := by
        exact x_hearthOf cvW (by omega) (by omega)
      have e2 : MC l yX4_hearthOf wsX4_hearthOf rmX4_hearthOf false [.ref 11, .int (nI a), .int (nI k)] (WW (row (s_com f) f) rt R T m R1 0 m1 g n th f sp sv m sn hs bf n ai sg fi se t3 hh (vp_updL o 0 (((s_ofH f a k) : Int32)).toInt64)) (some (.int (s_ofH f a k))) (WW (row (s_com f) f) rt R T m R1 0 m1 g n 0 f sp sv m sn hs bf n ai sg fi se t3 hh (vp_updL o 0 (((s_ofH f a k) : Int32)).toInt64)) := by
        exact m_hearthOf mvW (by omega) (by omega)
      exact mkOK (lh_hearthOf_0 (xp := 0) (op := 17) e1 rfl rfl) pk_uLs e2 (hI.mono (by omega))
    · exact mkBad (k := 2) (by decide) (lh_hearthOf_2 (xp := 0) (x_hearthOf_2 hl (by omega) h1) rfl) (m_hearthOf_2 mvW (by omega) h1) (hI.mono (by omega))
  · exact mkBad (k := 1) (by decide) (lh_hearthOf_1 (xp := 0) (x_hearthOf_1 hl h0) rfl) (m_hearthOf_1 mvW h0) (hI.mono (by omega))
theorem st_bankOf (hl : l.stackTraces = false) {B : Nat} {w : mj_W} (hB : B < 2147000000) (h : LI B w) (x0 x1 : Int32) : StH l yL_bankOf wsL_bankOf rmL_bankOf yX4_bankOf wsX4_bankOf rmX4_bankOf [.int x0, .int x1] w (B + 4000) := by
  obtain ⟨f, rt, R, T, m, R1, m1, g, n, th, sp, sv, sn, hs, bf, ai, sg, fi, se, t3, hh, o, t, rfl, hI⟩ := h
  obtain ⟨⟨D, hDB, ho, hv⟩, hT, hm, hR, hO, hS, hX, hX2⟩ := id hI
  by_cases h0 : 0 ≤ x0 ∧ x0 ≤ 3
  · obtain ⟨b, hb, rfl⟩ := nat_in (a := 0) (b := 3) (by decide) (by decide) h0
    by_cases h1 : 0 ≤ x1 ∧ x1 ≤ 4
    · obtain ⟨k, hk, rfl⟩ := nat_in (a := 0) (b := 4) (by decide) (by decide) h1
      have e1 : MC l yX3_bankOf wsX3_bankOf rmX3_bankOf false [.ref 0, .int (nI b), .int (nI k)] (WW (row (s_com f) f) rt R T m R1 0 m1 g n th f sp sv m sn hs bf n ai sg fi se t3 hh o) (some (.int (s_ofB (s_com f) f b k))) (WW (row (s_com f) f) rt R T m R1 0 m1 g n th f sp sv m sn hs bf n ai sg fi se t3 hh o) := by
        exact x_bankOf cvW (by omega) (by omega)
      have e2 : MC l yX4_bankOf wsX4_bankOf rmX4_bankOf false [.ref 11, .int (nI b), .int (nI k)] (WW (row (s_com f) f) rt R T m R1 0 m1 g n th f sp sv m sn hs bf n ai sg fi se t3 hh (vp_updL o 0 (((s_ofB (s_com f) f b k) : Int32)).toInt64)) (some (.int (s_ofB (s_com f) f b k))) (WW (row (s_com f) f) rt R T m R1 0 m1 g n 0 f sp sv m sn hs bf n ai sg fi se t3 hh (vp_updL o 0 (((s_ofB (s_com f) f b k) : Int32)).toInt64)) := by
        exact m_bankOf mvW (by omega) (by omega)
      exact mkOK (lh_bankOf_0 (xp := 0) (op := 17) e1 rfl rfl) pk_uLs e2 (hI.mono (by omega))
    · exact mkBad (k := 2) (by decide) (lh_bankOf_2 (xp := 0) (x_bankOf_2 hl (by omega) h1) rfl) (m_bankOf_2 mvW (by omega) h1) (hI.mono (by omega))
  · exact mkBad (k := 1) (by decide) (lh_bankOf_1 (xp := 0) (x_bankOf_1 hl h0) rfl) (m_bankOf_1 mvW h0) (hI.mono (by omega))
theorem st_plot (hl : l.stackTraces = false) {B : Nat} {w : mj_W} (hB : B < 2147000000) (h : LI B w) (x0 x1 x2 : Int32) : StH l yL_plot wsL_plot rmL_plot yX4_plot wsX4_plot rmX4_plot [.int x0, .int x1, .int x2] w (B + 4000) := by
  obtain ⟨f, rt, R, T, m, R1, m1, g, n, th, sp, sv, sn, hs, bf, ai, sg, fi, se, t3, hh, o, t, rfl, hI⟩ := h
  obtain ⟨⟨D, hDB, ho, hv⟩, hT, hm, hR, hO, hS, hX, hX2⟩ := id hI
  by_cases h0 : 0 ≤ x0 ∧ x0 ≤ 4
  · obtain ⟨a, ha, rfl⟩ := nat_in (a := 0) (b := 4) (by decide) (by decide) h0
    by_cases h1 : 0 ≤ x1 ∧ x1 ≤ 3
    · obtain ⟨b, hb, rfl⟩ := nat_in (a := 0) (b := 3) (by decide) (by decide) h1
      by_cases h2 : 0 ≤ x2 ∧ x2 ≤ 4
      · obtain ⟨k, hk, rfl⟩ := nat_in (a := 0) (b := 4) (by decide) (by decide) h2
        have e1 : MC l yX3_plot wsX3_plot rmX3_plot false [.ref 0, .int (nI a), .int (nI b), .int (nI k)] (WW (row (s_com f) f) rt R T m R1 0 m1 g n th f sp sv m sn hs bf n ai sg fi se t3 hh o) (some (.int (s_ofP f a b k))) (WW (row (s_com f) f) rt R T m R1 0 m1 g n th f sp sv m sn hs bf n ai sg fi se t3 hh o) := by
          exact x_plot cvW (by omega) (by omega) (by omega)
        have e2 : MC l yX4_plot wsX4_plot rmX4_plot false [.ref 11, .int (nI a), .int (nI b), .int (nI k)] (WW (row (s_com f) f) rt R T m R1 0 m1 g n th f sp sv m sn hs bf n ai sg fi se t3 hh (vp_updL o 0 (((s_ofP f a b k) : Int32)).toInt64)) (some (.int (s_ofP f a b k))) (WW (row (s_com f) f) rt R T m R1 0 m1 g n 0 f sp sv m sn hs bf n ai sg fi se t3 hh (vp_updL o 0 (((s_ofP f a b k) : Int32)).toInt64)) := by
          exact m_plot mvW (by omega) (by omega) (by omega)
        exact mkOK (lh_plot_0 (xp := 0) (op := 17) e1 rfl rfl) pk_uLs e2 (hI.mono (by omega))
      · exact mkBad (k := 2) (by decide) (lh_plot_2 (xp := 0) (x_plot_2 hl (by omega) (by omega) h2) rfl) (m_plot_2 mvW (by omega) (by omega) h2) (hI.mono (by omega))
    · exact mkBad (k := 1) (by decide) (lh_plot_1 (xp := 0) (x_plot_1b hl (by omega) h1) rfl) (m_plot_1b mvW (by omega) h1) (hI.mono (by omega))
  · exact mkBad (k := 1) (by decide) (lh_plot_1 (xp := 0) (x_plot_1h hl h0) rfl) (m_plot_1h mvW h0) (hI.mono (by omega))
theorem st_cutter (hl : l.stackTraces = false) {B : Nat} {w : mj_W} (hB : B < 2147000000) (h : LI B w) (x0 x1 : Int32) : StH l yL_cutter wsL_cutter rmL_cutter yX4_cutter wsX4_cutter rmX4_cutter [.int x0, .int x1] w (B + 4000) := by
  obtain ⟨f, rt, R, T, m, R1, m1, g, n, th, sp, sv, sn, hs, bf, ai, sg, fi, se, t3, hh, o, t, rfl, hI⟩ := h
  obtain ⟨⟨D, hDB, ho, hv⟩, hT, hm, hR, hO, hS, hX, hX2⟩ := id hI
  by_cases h0 : 0 ≤ x0 ∧ x0 ≤ 5
  · obtain ⟨c, hc, rfl⟩ := nat_in (a := 0) (b := 5) (by decide) (by decide) h0
    by_cases h1 : 0 ≤ x1 ∧ x1 ≤ 3
    · obtain ⟨k, hk, rfl⟩ := nat_in (a := 0) (b := 3) (by decide) (by decide) h1
      have e1 : MC l yX3_cutter wsX3_cutter rmX3_cutter false [.ref 0, .int (nI c), .int (nI k)] (WW (row (s_com f) f) rt R T m R1 0 m1 g n th f sp sv m sn hs bf n ai sg fi se t3 hh o) (some (.int (f (133 + 6 * k + c)))) (WW (row (s_com f) f) rt R T m R1 0 m1 g n th f sp sv m sn hs bf n ai sg fi se t3 hh o) := by
        exact x_cutter cvW (by omega) (by omega)
      have e2 : MC l yX4_cutter wsX4_cutter rmX4_cutter false [.ref 11, .int (nI c), .int (nI k)] (WW (row (s_com f) f) rt R T m R1 0 m1 g n th f sp sv m sn hs bf n ai sg fi se t3 hh (vp_updL o 0 (((f (133 + 6 * k + c)) : Int32)).toInt64)) (some (.int (f (133 + 6 * k + c)))) (WW (row (s_com f) f) rt R T m R1 0 m1 g n 0 f sp sv m sn hs bf n ai sg fi se t3 hh (vp_updL o 0 (((f (133 + 6 * k + c)) : Int32)).toInt64)) := by
        exact m_cutter mvW (by omega) (by omega)
      exact mkOK (lh_cutter_0 (xp := 0) (op := 17) e1 rfl rfl) pk_uLs e2 (hI.mono (by omega))
    · exact mkBad (k := 2) (by decide) (lh_cutter_2 (xp := 0) (x_cutter_2 hl (by omega) h1) rfl) (m_cutter_2 mvW (by omega) h1) (hI.mono (by omega))
  · exact mkBad (k := 1) (by decide) (lh_cutter_1 (xp := 0) (x_cutter_1 hl h0) rfl) (m_cutter_1 mvW h0) (hI.mono (by omega))
theorem st_count (hl : l.stackTraces = false) {B : Nat} {w : mj_W} (hB : B < 2147000000) (h : LI B w) (x0 : Int32) : StH l yL_count wsL_count rmL_count yX4_count wsX4_count rmX4_count [.int x0] w (B + 4000) := by
  obtain ⟨f, rt, R, T, m, R1, m1, g, n, th, sp, sv, sn, hs, bf, ai, sg, fi, se, t3, hh, o, t, rfl, hI⟩ := h
  obtain ⟨⟨D, hDB, ho, hv⟩, hT, hm, hR, hO, hS, hX, hX2⟩ := id hI
  by_cases h0 : 0 ≤ x0 ∧ x0 ≤ 12
  · obtain ⟨k, hk, rfl⟩ := nat_in (a := 0) (b := 12) (by decide) (by decide) h0
    have e1 : MC l yX3_count wsX3_count rmX3_count false [.ref 0, .int (nI k)] (WW (row (s_com f) f) rt R T m R1 0 m1 g n th f sp sv m sn hs bf n ai sg fi se t3 hh o) (some (.int (s_ofC f m k))) (WW (row (s_com f) f) rt R T m R1 0 m1 g n th f sp sv m sn hs bf n ai sg fi se t3 hh o) := by
      exact x_countA cvW (by omega)
    have e2 : MC l yX4_count wsX4_count rmX4_count false [.ref 11, .int (nI k)] (WW (row (s_com f) f) rt R T m R1 0 m1 g n th f sp sv m sn hs bf n ai sg fi se t3 hh (vp_updL o 0 (((s_ofC f m k) : Int32)).toInt64)) (some (.int (s_ofC f m k))) (WW (row (s_com f) f) rt R T m R1 0 m1 g n 0 f sp sv m sn hs bf n ai sg fi se t3 hh (vp_updL o 0 (((s_ofC f m k) : Int32)).toInt64)) := by
      exact m_count mvW (by omega) hm
    exact mkOK (lh_count_0 (xp := 0) (op := 17) e1 rfl rfl) pk_uLs e2 (hI.mono (by omega))
  · exact mkBad (k := 1) (by decide) (lh_count_1 (xp := 0) (x_count_1 hl h0) rfl) (m_count_1 mvW h0) (hI.mono (by omega))
theorem st_ifPassed (hl : l.stackTraces = false) {B : Nat} {w : mj_W} (hB : B < 2147000000) (h : LI B w) (x0 x1 : Int32) : StH l yL_ifPassed wsL_ifPassed rmL_ifPassed yX4_ifPassed wsX4_ifPassed rmX4_ifPassed [.int x0, .int x1] w (B + 4000) := by
  obtain ⟨f, rt, R, T, m, R1, m1, g, n, th, sp, sv, sn, hs, bf, ai, sg, fi, se, t3, hh, o, t, rfl, hI⟩ := h
  obtain ⟨⟨D, hDB, ho, hv⟩, hT, hm, hR, hO, hS, hX, hX2⟩ := id hI
  by_cases h0 : 1 ≤ x0 ∧ x0 ≤ 60
  · obtain ⟨d, hd, rfl⟩ := nat_in (a := 1) (b := 60) (by decide) (by decide) h0
    by_cases h1 : 0 ≤ x1 ∧ x1 ≤ 2
    · obtain ⟨k, hk, rfl⟩ := nat_in (a := 0) (b := 2) (by decide) (by decide) h1
      have e1 : MC l yX3_ifPassed wsX3_ifPassed rmX3_ifPassed false [.ref 0, .int (nI d), .int (nI k)] (WW (row (s_com f) f) rt R T m R1 0 m1 g n th f sp sv m sn hs bf n ai sg fi se t3 hh o) (some (.int (s_would f d k))) (WW (row (s_com f) f) (row (s_com f) (s_days d f).1) R T m R1 0 m1 g n th f sp sv m sn hs bf n ai sg fi se t3 hh o) := by
        exact x_ifPassed cvW ho hv (by omega) hd (by omega)
      have e2 : MC l yX4_ifPassed wsX4_ifPassed rmX4_ifPassed false [.ref 11, .int (nI d), .int (nI k)] (WW (row (s_com f) f) (row (s_com f) (s_days d f).1) R T m R1 0 m1 g n th f sp sv m sn hs bf n ai sg fi se t3 hh (vp_updL o 0 (((s_would f d k) : Int32)).toInt64)) (some (.int (s_would f d k))) (WW (row (s_com f) f) (row (s_com f) (s_days d f).1) R T m R1 0 m1 g n 0 f f sv m sn hs bf n ai sg fi se t3 hh (vp_updL o 0 (((s_would f d k) : Int32)).toInt64)) := by
        exact m_ifPassed mvW ho hv (by omega) hd (by omega)
      exact mkOK (lh_ifPassed_0 (xp := 0) (op := 17) e1 rfl rfl) pk_uLs e2 (hI.mono (by omega))
    · exact mkBad (k := 1) (by decide) (lh_ifPassed_1 (xp := 0) (x_ifPassed_1w hl hd h1) rfl) (m_ifPassed_1w mvW hd h1) (hI.mono (by omega))
  · exact mkBad (k := 1) (by decide) (lh_ifPassed_1 (xp := 0) (x_ifPassed_1d hl h0) rfl) (m_ifPassed_1d mvW h0) (hI.mono (by omega))
theorem st_enoughIn (hl : l.stackTraces = false) {B : Nat} {w : mj_W} (hB : B < 2147000000) (h : LI B w) (x0 : Int32) : StH l yL_enoughIn wsL_enoughIn rmL_enoughIn yX4_enoughIn wsX4_enoughIn rmX4_enoughIn [.int x0] w (B + 4000) := by
  obtain ⟨f, rt, R, T, m, R1, m1, g, n, th, sp, sv, sn, hs, bf, ai, sg, fi, se, t3, hh, o, t, rfl, hI⟩ := h
  obtain ⟨⟨D, hDB, ho, hv⟩, hT, hm, hR, hO, hS, hX, hX2⟩ := id hI
  by_cases h0 : 0 ≤ x0 ∧ x0 ≤ 4
  · obtain ⟨a, ha, rfl⟩ := nat_in (a := 0) (b := 4) (by decide) (by decide) h0
    have e1 : MC l yX3_enoughIn wsX3_enoughIn rmX3_enoughIn false [.ref 0, .int (nI a)] (WW (row (s_com f) f) rt R T m R1 0 m1 g n th f sp sv m sn hs bf n ai sg fi se t3 hh o) (some (.int (s_until f a))) (WW (row (s_com f) f) (row (s_com f) (s_und a 201 f)) R T m R1 0 m1 g n th f sp sv m sn hs bf n ai sg fi se t3 hh o) := by
      exact x_enoughIn cvW ho hv (by omega) (by omega)
    have e2 : MC l yX4_enoughIn wsX4_enoughIn rmX4_enoughIn false [.ref 11, .int (nI a)] (WW (row (s_com f) f) (row (s_com f) (s_und a 201 f)) R T m R1 0 m1 g n th f sp sv m sn hs bf n ai sg fi se t3 hh (vp_updL o 0 (((s_until f a) : Int32)).toInt64)) (some (.int (s_until f a))) (WW (row (s_com f) f) (row (s_com f) (s_und a 201 f)) R T m R1 0 m1 g n 0 f f sv m sn hs bf n ai sg fi se t3 hh (vp_updL o 0 (((s_until f a) : Int32)).toInt64)) := by
      exact m_enoughIn mvW ho hv (by omega) (by omega)
    exact mkOK (lh_enoughIn_0 (xp := 0) (op := 17) e1 rfl rfl) pk_uLs e2 (hI.mono (by omega))
  · exact mkBad (k := 1) (by decide) (lh_enoughIn_1 (xp := 0) (x_enoughIn_1 hl h0) rfl) (m_enoughIn_1 mvW h0) (hI.mono (by omega))
theorem st_bestBank (hl : l.stackTraces = false) {B : Nat} {w : mj_W} (hB : B < 2147000000) (h : LI B w) (x0 x1 : Int32) : StH l yL_bestBank wsL_bestBank rmL_bestBank yX4_bestBank wsX4_bestBank rmX4_bestBank [.int x0, .int x1] w (B + 4000) := by
  obtain ⟨f, rt, R, T, m, R1, m1, g, n, th, sp, sv, sn, hs, bf, ai, sg, fi, se, t3, hh, o, t, rfl, hI⟩ := h
  obtain ⟨⟨D, hDB, ho, hv⟩, hT, hm, hR, hO, hS, hX, hX2⟩ := id hI
  by_cases h0 : 0 ≤ x0 ∧ x0 ≤ 5
  · obtain ⟨c, hc, rfl⟩ := nat_in (a := 0) (b := 5) (by decide) (by decide) h0
    by_cases h1 : 0 ≤ x1 ∧ x1 ≤ 4
    · obtain ⟨a, ha, rfl⟩ := nat_in (a := 0) (b := 4) (by decide) (by decide) h1
      have e1 : MC l yX3_bestBank wsX3_bestBank rmX3_bestBank false [.ref 0, .int (nI c), .int (nI a)] (WW (row (s_com f) f) rt R T m R1 0 m1 g n th f sp sv m sn hs bf n ai sg fi se t3 hh o) (some (.int (s_best f c a))) (WW (row (s_com f) f) (itr (s_btr1 (s_com f) f c a) 4 0 rt) R T m R1 0 m1 g n th f sp sv m sn hs bf n ai sg fi se t3 hh o) := by
        exact x_bestBank cvW ho hv (by omega) (by omega) (by omega)
      have e2 : MC l yX4_bestBank wsX4_bestBank rmX4_bestBank false [.ref 11, .int (nI c), .int (nI a)] (WW (row (s_com f) f) (itr (s_btr1 (s_com f) f c a) 4 0 rt) R T m R1 0 m1 g n th f sp sv m sn hs bf n ai sg fi se t3 hh (vp_updL o 0 (((s_best f c a) : Int32)).toInt64)) (some (.int (s_best f c a))) (WW (row (s_com f) f) (itr (s_btr1 (s_com f) f c a) 4 0 rt) R T m R1 0 m1 g n 0 f (s_bsp f a sp) sv m sn hs bf n ai sg fi se t3 hh (vp_updL o 0 (((s_best f c a) : Int32)).toInt64)) := by
        exact m_bestBank mvW ho hv (by omega) (by omega) (by omega)
      exact mkOK (lh_bestBank_0 (xp := 0) (op := 17) e1 rfl rfl) pk_uLs e2 (hI.mono (by omega))
    · exact mkBad (k := 1) (by decide) (lh_bestBank_1 (xp := 0) (x_bestBank_1h hl (by omega) h1) rfl) (m_bestBank_1h mvW (by omega) h1) (hI.mono (by omega))
  · exact mkBad (k := 1) (by decide) (lh_bestBank_1 (xp := 0) (x_bestBank_1c hl h0) rfl) (m_bestBank_1c mvW h0) (hI.mono (by omega))
theorem st_rain (hl : l.stackTraces = false) {B : Nat} {w : mj_W} (hB : B < 2147000000) (h : LI B w) (x0 : Int32) : StH l yL_rain wsL_rain rmL_rain yX4_rain wsX4_rain rmX4_rain [.int x0] w (B + 4000) := by
  obtain ⟨f, rt, R, T, m, R1, m1, g, n, th, sp, sv, sn, hs, bf, ai, sg, fi, se, t3, hh, o, t, rfl, hI⟩ := h
  obtain ⟨⟨D, hDB, ho, hv⟩, hT, hm, hR, hO, hS, hX, hX2⟩ := id hI
  obtain ⟨si, hsi9, hsi⟩ := ho.2.2.1
  by_cases h0 : x0 < 0
  · exact mkBad (k := 1) (by decide) (lh_rain_1 (xp := 0) (x_rain_1 hl h0) rfl) (m_rain_1 mvW h0) (hI.mono (by omega))
  · obtain ⟨d, hd, rfl⟩ := nI_of h0
    have e1 : MC l yX3_rain wsX3_rain rmX3_rain false [.ref 0, .int (nI d)] (WW (row (s_com f) f) rt R T m R1 0 m1 g n th f sp sv m sn hs bf n ai sg fi se t3 hh o) (some (.int (nI (s_rain f d)))) (WW (row (s_com f) f) rt R T m R1 0 m1 g n th f sp sv m sn hs bf n ai sg fi se t3 hh o) := by
      exact x_rain cvW (by omega) hsi hsi9
    have e2 : MC l yX4_rain wsX4_rain rmX4_rain false [.ref 11, .int (nI d)] (WW (row (s_com f) f) rt R T m R1 0 m1 g n th f sp sv m sn hs bf n ai sg fi se t3 hh (vp_updL o 0 (((nI (s_rain f d)) : Int32)).toInt64)) (some (.int (nI (s_rain f d)))) (WW (row (s_com f) f) rt R T m R1 0 m1 g n 0 f sp sv m sn hs bf n ai sg fi se t3 hh (vp_updL o 0 (((nI (s_rain f d)) : Int32)).toInt64)) := by
      exact m_rain mvW (by omega) hsi hsi9
    exact mkOK (lh_rain_0 (xp := 0) (op := 17) e1 rfl rfl) pk_uLs e2 (hI.mono (by omega))
theorem st_append (hl : l.stackTraces = false) {B : Nat} {w : mj_W} (hB : B < 2147000000) (h : LI B w) (x0 : Int32) : StH l yL_append wsL_append rmL_append yX4_append wsX4_append rmX4_append [.int x0] w (B + 4000) := by
  obtain ⟨f, rt, R, T, m, R1, m1, g, n, th, sp, sv, sn, hs, bf, ai, sg, fi, se, t3, hh, o, t, rfl, hI⟩ := h
  obtain ⟨⟨D, hDB, ho, hv⟩, hT, hm, hR, hO, hS, hX, hX2⟩ := id hI
  by_cases h0 : 33 ≤ x0 ∧ x0 ≤ 126
  · obtain ⟨v, hv2, rfl⟩ := nat_in (a := 33) (b := 126) (by decide) (by decide) h0
    by_cases hn : n < 60
    · skip
      have e1 : MC l yX3_append wsX3_append rmX3_append false [.ref 0, .int (nI v)] (WW (row (s_com f) f) rt R T m R1 0 m1 g n th f sp sv m sn hs bf n ai sg fi se t3 hh o) (some (.int (nI (n + 1)))) (WW (row (s_com f) f) rt R T m R1 0 m1 (upd g n (nI v)) (n + 1) th f sp sv m sn hs bf n ai sg fi se t3 hh o) := by
        exact x_append cvW hn hv2
      have e2 : MC l yX4_append wsX4_append rmX4_append false [.ref 11, .int (nI v)] (WW (row (s_com f) f) rt R T m R1 0 m1 (upd g n (nI v)) (n + 1) th f sp sv m sn hs bf n ai sg fi se t3 hh (vp_updL o 0 (((nI (n + 1)) : Int32)).toInt64)) (some (.int (nI (n + 1)))) (WW (row (s_com f) f) rt R T m R1 0 m1 (upd g n (nI v)) (n + 1) 0 f sp sv m sn hs (upd bf n (nI v)) (n + 1) ai sg fi se t3 hh (vp_updL o 0 (((nI (n + 1)) : Int32)).toInt64)) := by
        exact m_append mvW hv2 hn
      exact mkOK (lh_append_0 (xp := 0) (op := 17) e1 rfl rfl) pk_uLs e2 ((⟨okS.mono ⟨D, hDB, ho, hv⟩ (by omega), hT, hm, hR, fun j hj => (hO j hj).mono (by omega), hS.mono (by omega), TX_app hX hn hv2, TX_app hX2 hn hv2⟩ : Inv _ _ _ _ _ _ _ _ _ _ _ _ _ _))
    · have e60 : n = 60 := by have := hX.1; omega
      subst e60
      exact mkBad (k := 2) (by decide) (lh_append_2 (xp := 0) (x_append_2 hl cvW (n := 60) hv2) rfl) (m_append_2 mvW hv2 rfl) (hI.mono (by omega))
  · exact mkBad (k := 1) (by decide) (lh_append_1 (xp := 0) (x_append_1 hl h0) rfl) (m_append_1 mvW h0) (hI.mono (by omega))
theorem st_play (hl : l.stackTraces = false) {B : Nat} {w : mj_W} (hB : B < 2147000000) (h : LI B w) : StH l yL_play wsL_play rmL_play yX4_play wsX4_play rmX4_play [] w (B + 4000) := by
  obtain ⟨f, rt, R, T, m, R1, m1, g, n, th, sp, sv, sn, hs, bf, ai, sg, fi, se, t3, hh, o, t, rfl, hI⟩ := h
  obtain ⟨⟨D, hDB, ho, hv⟩, hT, hm, hR, hO, hS, hX, hX2⟩ := id hI
  by_cases hc : s_ep (s_fd t n 0 0) = 1
  · obtain ⟨q1, q2⟩ := pl_ok (fun x h1 h2 => all_parts hc (n + 1) 0 (by omega) (DR_0 t n) x (by omega) h1 h2) n 0 0 B f (by omega) ⟨D, hDB, ho, hv⟩
    have h60 := hX.1
    have e1 : MC l yX3_play wsX3_play rmX3_play false [.ref 0] (WW (row (s_com f) f) rt R T m R1 0 m1 g n th f sp sv m sn hs bf n ai sg fi se t3 hh o) (some (.int (nI (s_pl t n n 0 f 0).2))) (WW (row (s_com (s_pl t n n 0 f 0).1) (s_pl t n n 0 f 0).1) rt (s_blit (row (s_com f) f) (161 * nxT T) 161 R) (nxT T) (nxM m) R1 0 m1 g 0 th f sp sv m sn hs bf n ai sg fi se t3 hh o) := by
      rw [← row_same q2 (s_pl t n n 0 f 0).1]
      exact x_play cvW hT hm ho hv (by omega) hX hc
    obtain ⟨ai', sg', fi', se', t3', e2⟩ := m_play (l := l) (mvW (r := (row (s_com (s_pl t n n 0 f 0).1) (s_pl t n n 0 f 0).1)) (rt := rt) (R := (s_blit (row (s_com f) f) (161 * nxT T) 161 R)) (T := (nxT T)) (m := (nxM m)) (R1 := R1) (T1 := 0) (m1 := m1) (g := g) (n := 0) (o := (vp_updL o 0 (((nI (s_pl t n n 0 f 0).2) : Int32)).toInt64))) (th := th) (sp := sp) (sv := sv) (sn := sn) (hs := hs) (bf := bf) (i := ai) (sg := sg) (fi := fi) (se := se) (t3 := t3) (hh := hh) hX2 hm hc ho hv (by omega)
    rw [svm_nx hm] at e2
    exact mkOK (lh_play_0 (xp := 0) (op := 17) e1 rfl rfl) pk_uLs e2 (⟨q1.mono (by omega), nxT_lt hT, nxM_le hm, Rg_push hT hm hR, svO_push hm (okS.mono ⟨D, hDB, ho, hv⟩ (by omega)) (fun j hj => (hO j hj).mono (by omega)), hS.mono (by omega), TX_0 g t, TX_0 bf t⟩ : Inv _ _ _ _ _ _ _ _ _ _ _ _ _ _)
  · obtain ⟨ai', sg', fi', se', t3', e2⟩ := m_play_1 (l := l) (mvW (r := (row (s_com f) f)) (rt := rt) (R := R) (T := T) (m := m) (R1 := R1) (T1 := 0) (m1 := m1) (g := g) (n := n) (o := o)) (th := th) (f := f) (sp := sp) (sv := sv) (m := m) (sn := sn) (hs := hs) (bf := bf) (i := ai) (sg := sg) (fi := fi) (se := se) (t3 := t3) (hh := hh) hX2 hc
    exact mkBad (k := 1) (by decide) (lh_play_1 (xp := 0) (x_play_1 hl cvW hX (ep_01 hc)) rfl) (e2) (hI.mono (by omega))
theorem st_undo (hl : l.stackTraces = false) {B : Nat} {w : mj_W} (hB : B < 2147000000) (h : LI B w) : StH l yL_undo wsL_undo rmL_undo yX4_undo wsX4_undo rmX4_undo [] w (B + 4000) := by
  obtain ⟨f, rt, R, T, m, R1, m1, g, n, th, sp, sv, sn, hs, bf, ai, sg, fi, se, t3, hh, o, t, rfl, hI⟩ := h
  obtain ⟨⟨D, hDB, ho, hv⟩, hT, hm, hR, hO, hS, hX, hX2⟩ := id hI
  cases m with
  | zero =>
    exact mkBad (k := 1) (m := 0) (by decide) (lh_undo_1 (xp := 0) (x_undo_1 hl cvW (m := 0)) rfl) (m_undo_1 mvW (m := 0)) (hI.mono (by omega))
  | succ m =>
    have e1 : MC l yX3_undo wsX3_undo rmX3_undo false [.ref 0] (WW (row (s_com f) f) rt R T (m + 1) R1 0 m1 g n th f sp sv (m + 1) sn hs bf n ai sg fi se t3 hh o) (some (.int (nI m))) (WW (row (s_com (svA sv m)) (svA sv m)) rt R (pvT T) m R1 0 m1 g n th f sp sv (m + 1) sn hs bf n ai sg fi se t3 hh o) := by
      exact x_undo cvW hT (by omega) (Rg_top hT hR)
    have e2 : MC l yX4_undo wsX4_undo rmX4_undo false [.ref 11] (WW (row (s_com (svA sv m)) (svA sv m)) rt R (pvT T) m R1 0 m1 g n th f sp sv (m + 1) sn hs bf n ai sg fi se t3 hh (vp_updL o 0 (((nI m) : Int32)).toInt64)) (some (.int (nI m))) (WW (row (s_com (svA sv m)) (svA sv m)) rt R (pvT T) m R1 0 m1 g n 0 (svA sv m) sp sv m sn hs bf n ai sg fi se t3 hh (vp_updL o 0 (((nI m) : Int32)).toInt64)) := by
      exact m_undo mvW (by omega)
    exact mkOK (lh_undo_0 (xp := 0) (op := 17) e1 rfl rfl) pk_uLs e2 (⟨(hO m (by omega)).mono (by omega), pvT_lt hT, by omega, Rg_pop hT (by omega) hR, fun j hj => (hO j (by omega)).mono (by omega), hS.mono (by omega), hX, hX2⟩ : Inv _ _ _ _ _ _ _ _ _ _ _ _ _ _)
theorem st_restore (hl : l.stackTraces = false) {B : Nat} {w : mj_W} (hB : B < 2147000000) (h : LI B w) : StH l yL_restore wsL_restore rmL_restore yX4_restore wsX4_restore rmX4_restore [] w (B + 4000) := by
  obtain ⟨f, rt, R, T, m, R1, m1, g, n, th, sp, sv, sn, hs, bf, ai, sg, fi, se, t3, hh, o, t, rfl, hI⟩ := h
  obtain ⟨⟨D, hDB, ho, hv⟩, hT, hm, hR, hO, hS, hX, hX2⟩ := id hI
  rcases hS with ⟨rfl, rfl⟩ | ⟨rfl, rfl, hE, hN⟩
  · exact mkBad (k := 1) (by decide) (lh_restore_1 (xp := 0) (x_restore_1 hl cvW (m1 := 0)) rfl) (m_restore_1 mvW (hs := 0)) (hI.mono (by omega))
  · skip
    have e1 : MC l yX3_restore wsX3_restore rmX3_restore false [.ref 0] (WW (row (s_com f) f) rt R T m R1 0 1 g n th f sp sv m sn 1 bf n ai sg fi se t3 hh o) (some (.int (sn 0))) (WW (row (s_com sn) sn) rt (s_blit (row (s_com f) f) (161 * nxT T) 161 R) (nxT T) (nxM m) R1 0 1 g n th f sp sv m sn 1 bf n ai sg fi se t3 hh o) := by
      exact x_restore cvW (m1 := 0) (T1 := 0) hT hm hE
    have e2 : MC l yX4_restore wsX4_restore rmX4_restore false [.ref 11] (WW (row (s_com sn) sn) rt (s_blit (row (s_com f) f) (161 * nxT T) 161 R) (nxT T) (nxM m) R1 0 1 g n th f sp sv m sn 1 bf n ai sg fi se t3 hh (vp_updL o 0 (((sn 0) : Int32)).toInt64)) (some (.int (sn 0))) (WW (row (s_com sn) sn) rt (s_blit (row (s_com f) f) (161 * nxT T) 161 R) (nxT T) (nxM m) R1 0 1 g n 0 sn sp (s_save f sv m) (nxM m) sn 1 bf n ai sg fi se t3 hh (vp_updL o 0 (((sn 0) : Int32)).toInt64)) := by
      rw [← svm_nx hm]
      exact m_restore mvW (hs := 0) hm
    exact mkOK (lh_restore_0 (xp := 0) (op := 17) e1 rfl rfl) pk_uLs e2 (hI.push (by omega) (hN.mono (by omega)))
theorem st_give (hl : l.stackTraces = false) {B : Nat} {w : mj_W} (hB : B < 2147000000) (h : LI B w) (x0 x1 x2 x3 : Int32) : StH l yL_give wsL_give rmL_give yX4_give wsX4_give rmX4_give [.int x0, .int x1, .int x2, .int x3] w (B + 4000) := by
  obtain ⟨f, rt, R, T, m, R1, m1, g, n, th, sp, sv, sn, hs, bf, ai, sg, fi, se, t3, hh, o, t, rfl, hI⟩ := h
  obtain ⟨⟨D, hDB, ho, hv⟩, hT, hm, hR, hO, hS, hX, hX2⟩ := id hI
  by_cases h0 : -1 ≤ x0 ∧ x0 ≤ 4
  · by_cases h1 : -1 ≤ x1 ∧ x1 ≤ 4
    · by_cases h2 : 0 ≤ x2 ∧ x2 ≤ 3
      · obtain ⟨b, hb, rfl⟩ := nat_in (a := 0) (b := 3) (by decide) (by decide) h2
        by_cases h3 : 1 ≤ x3 ∧ x3 ≤ 12
        · by_cases he : x0 = x1
          · exact mkBad (k := 2) (by decide) (lh_give_2 (xp := 0) (x_give_2e hl h0 h1 (by omega) h3 he) rfl) (m_give_2e mvW h0 h1 (by omega) he) (hI.mono (by omega))
          · obtain ⟨v, hv2, rfl⟩ := nat_in (a := 1) (b := 12) (by decide) (by decide) h3
            rcases nat_m1 h0 with rfl | ⟨c, hc, rfl⟩
            · rcases nat_m1 h1 with rfl | ⟨a, ha, rfl⟩
              · exact absurd rfl he
              · by_cases hq : nI v ≤ s_com f b
                · skip
                  have e1 : MC l yX3_give wsX3_give rmX3_give false [.ref 0, .int (-1), .int (nI a), .int (nI b), .int (nI v)] (WW (row (s_com f) f) rt R T m R1 0 m1 g n th f sp sv m sn hs bf n ai sg fi se t3 hh o) (some (.int ((upd f (53 + b + 4 * a) (f (53 + b + 4 * a) + nI v)) (53 + b + 4 * a)))) (WW (row (s_com (upd f (53 + b + 4 * a) (f (53 + b + 4 * a) + nI v))) (upd f (53 + b + 4 * a) (f (53 + b + 4 * a) + nI v))) rt (s_blit (row (s_com f) f) (161 * nxT T) 161 R) (nxT T) (nxM m) R1 0 m1 g n th f sp sv m sn hs bf n ai sg fi se t3 hh o) := by
                    rw [show row (s_com (upd f (53 + b + 4 * a) (f (53 + b + 4 * a) + nI v))) (upd f (53 + b + 4 * a) (f (53 + b + 4 * a) + nI v)) = row (upd (s_com f) b (s_com f b + (-(nI (v))))) (upd f (53 + b + 4 * a) (f (53 + b + 4 * a) + nI v)) from row_q_same (fun z hz => by rw [com_upd (by omega) (by omega) z hz]; simp only [upd]; split <;> first | rfl | rw [i_t2, i_addneg])]
                    exact x_giveN cvW hT hm (by omega) (by omega) hv2 hq
                  have e2 : MC l yX4_give wsX4_give rmX4_give false [.ref 11, .int (-1), .int (nI a), .int (nI b), .int (nI v)] (WW (row (s_com (upd f (53 + b + 4 * a) (f (53 + b + 4 * a) + nI v))) (upd f (53 + b + 4 * a) (f (53 + b + 4 * a) + nI v))) rt (s_blit (row (s_com f) f) (161 * nxT T) 161 R) (nxT T) (nxM m) R1 0 m1 g n th f sp sv m sn hs bf n ai sg fi se t3 hh (vp_updL o 0 ((((upd f (53 + b + 4 * a) (f (53 + b + 4 * a) + nI v)) (53 + b + 4 * a)) : Int32)).toInt64)) (some (.int ((upd f (53 + b + 4 * a) (f (53 + b + 4 * a) + nI v)) (53 + b + 4 * a)))) (WW (row (s_com (upd f (53 + b + 4 * a) (f (53 + b + 4 * a) + nI v))) (upd f (53 + b + 4 * a) (f (53 + b + 4 * a) + nI v))) rt (s_blit (row (s_com f) f) (161 * nxT T) 161 R) (nxT T) (nxM m) R1 0 m1 g n 0 (upd f (53 + b + 4 * a) (f (53 + b + 4 * a) + nI v)) sp (s_save f sv m) (nxM m) sn hs bf n ai sg fi se t3 hh (vp_updL o 0 ((((upd f (53 + b + 4 * a) (f (53 + b + 4 * a) + nI v)) (53 + b + 4 * a)) : Int32)).toInt64)) := by
                    rw [← svm_nx hm]
                    exact m_giveN mvW hm (by omega) (by omega) hv2 hq
                  exact mkOK (lh_give_0 (xp := 0) (op := 17) e1 rfl rfl) pk_uLs e2 (hI.push (by omega) (okS_upd (okS.mono ⟨D, hDB, ho, hv⟩ (by omega)) (by unfold inA; omega) (by unfold inT; omega)))
                · exact mkBad (k := 3) (by decide) (lh_give_3 (xp := 0) (x_give_3N hl cvW (by omega) (by omega) hv2 (Int32.not_le.mp hq)) rfl) (m_give_3N mvW (by omega) (by omega) hv2 (Int32.not_le.mp hq)) (hI.mono (by omega))
            · rcases nat_m1 h1 with rfl | ⟨a, ha, rfl⟩
              · by_cases hq : nI v ≤ f (53 + b + 4 * c)
                · skip
                  have ev : s_com (upd f (53 + b + 4 * c) (f (53 + b + 4 * c) - nI v)) b = (upd (s_com f) b (s_com f b + nI v)) b := by rw [com_upd (by omega) (by omega) b (by omega), if_pos rfl, i_t1, upd_s]
                  have e1 : MC l yX3_give wsX3_give rmX3_give false [.ref 0, .int (nI c), .int (-1), .int (nI b), .int (nI v)] (WW (row (s_com f) f) rt R T m R1 0 m1 g n th f sp sv m sn hs bf n ai sg fi se t3 hh o) (some (.int (s_com (upd f (53 + b + 4 * c) (f (53 + b + 4 * c) - nI v)) b))) (WW (row (s_com (upd f (53 + b + 4 * c) (f (53 + b + 4 * c) - nI v))) (upd f (53 + b + 4 * c) (f (53 + b + 4 * c) - nI v))) rt (s_blit (row (s_com f) f) (161 * nxT T) 161 R) (nxT T) (nxM m) R1 0 m1 g n th f sp sv m sn hs bf n ai sg fi se t3 hh o) := by
                    rw [show row (s_com (upd f (53 + b + 4 * c) (f (53 + b + 4 * c) - nI v))) (upd f (53 + b + 4 * c) (f (53 + b + 4 * c) - nI v)) = row (upd (s_com f) b (s_com f b + nI v)) (upd f (53 + b + 4 * c) (f (53 + b + 4 * c) + (-(nI (v))))) from by rw [i_addneg]; exact row_q_same (fun z hz => by rw [com_upd (by omega) (by omega) z hz]; simp only [upd]; split <;> first | rfl | rw [i_t1])]
                    exact (ev ▸ x_giveT cvW hT hm (by omega) (by omega) hv2 hq)
                  have e2 : MC l yX4_give wsX4_give rmX4_give false [.ref 11, .int (nI c), .int (-1), .int (nI b), .int (nI v)] (WW (row (s_com (upd f (53 + b + 4 * c) (f (53 + b + 4 * c) - nI v))) (upd f (53 + b + 4 * c) (f (53 + b + 4 * c) - nI v))) rt (s_blit (row (s_com f) f) (161 * nxT T) 161 R) (nxT T) (nxM m) R1 0 m1 g n th f sp sv m sn hs bf n ai sg fi se t3 hh (vp_updL o 0 (((s_com (upd f (53 + b + 4 * c) (f (53 + b + 4 * c) - nI v)) b) : Int32)).toInt64)) (some (.int (s_com (upd f (53 + b + 4 * c) (f (53 + b + 4 * c) - nI v)) b))) (WW (row (s_com (upd f (53 + b + 4 * c) (f (53 + b + 4 * c) - nI v))) (upd f (53 + b + 4 * c) (f (53 + b + 4 * c) - nI v))) rt (s_blit (row (s_com f) f) (161 * nxT T) 161 R) (nxT T) (nxM m) R1 0 m1 g n 0 (upd f (53 + b + 4 * c) (f (53 + b + 4 * c) - nI v)) sp (s_save f sv m) (nxM m) sn hs bf n ai sg fi se t3 hh (vp_updL o 0 (((s_com (upd f (53 + b + 4 * c) (f (53 + b + 4 * c) - nI v)) b) : Int32)).toInt64)) := by
                    rw [← svm_nx hm]
                    exact m_giveT mvW hm (by omega) (by omega) hv2 hq
                  exact mkOK (lh_give_0 (xp := 0) (op := 17) e1 rfl rfl) pk_uLs e2 (hI.push (by omega) (okS_upd (okS.mono ⟨D, hDB, ho, hv⟩ (by omega)) (by unfold inA; omega) (by unfold inT; omega)))
                · exact mkBad (k := 3) (by decide) (lh_give_3 (xp := 0) (x_give_3T hl cvW (by omega) (by omega) hv2 (Int32.not_le.mp hq)) rfl) (m_give_3T mvW (by omega) (by omega) hv2 (Int32.not_le.mp hq)) (hI.mono (by omega))
              · have hca : ¬ c = a := fun z => he (by rw [z])
                by_cases hq : nI v ≤ f (53 + b + 4 * c)
                · skip
                  have e1 : MC l yX3_give wsX3_give rmX3_give false [.ref 0, .int (nI c), .int (nI a), .int (nI b), .int (nI v)] (WW (row (s_com f) f) rt R T m R1 0 m1 g n th f sp sv m sn hs bf n ai sg fi se t3 hh o) (some (.int ((upd (upd f (53 + b + 4 * c) (f (53 + b + 4 * c) - nI v)) (53 + b + 4 * a) ((upd f (53 + b + 4 * c) (f (53 + b + 4 * c) - nI v)) (53 + b + 4 * a) + nI v)) (53 + b + 4 * a)))) (WW (row (s_com (upd (upd f (53 + b + 4 * c) (f (53 + b + 4 * c) - nI v)) (53 + b + 4 * a) ((upd f (53 + b + 4 * c) (f (53 + b + 4 * c) - nI v)) (53 + b + 4 * a) + nI v))) (upd (upd f (53 + b + 4 * c) (f (53 + b + 4 * c) - nI v)) (53 + b + 4 * a) ((upd f (53 + b + 4 * c) (f (53 + b + 4 * c) - nI v)) (53 + b + 4 * a) + nI v))) rt (s_blit (row (s_com f) f) (161 * nxT T) 161 R) (nxT T) (nxM m) R1 0 m1 g n th f sp sv m sn hs bf n ai sg fi se t3 hh o) := by
                    rw [show row (s_com (upd (upd f (53 + b + 4 * c) (f (53 + b + 4 * c) - nI v)) (53 + b + 4 * a) ((upd f (53 + b + 4 * c) (f (53 + b + 4 * c) - nI v)) (53 + b + 4 * a) + nI v))) (upd (upd f (53 + b + 4 * c) (f (53 + b + 4 * c) - nI v)) (53 + b + 4 * a) ((upd f (53 + b + 4 * c) (f (53 + b + 4 * c) - nI v)) (53 + b + 4 * a) + nI v)) = row (s_com f) (upd (upd f (53 + b + 4 * c) (f (53 + b + 4 * c) - nI v)) (53 + b + 4 * a) ((upd f (53 + b + 4 * c) (f (53 + b + 4 * c) - nI v)) (53 + b + 4 * a) + nI v)) from row_q_same (comG hc ha (by omega))]
                    exact (show _ from by have e0 := x_giveG (l := l) (cvW (th := th) (f := f) (sp := sp) (sv := sv) (m2 := m) (sn := sn) (hs := hs) (bf := bf) (ln := n) (ai := ai) (sg := sg) (fi := fi) (se := se) (t3 := t3) (hh := hh) (o := o)) (q := s_com f) (f := f) (rt := rt) (R := R) (R1 := R1) (g := g) (T1 := 0) (m1 := m1) (n := n) hT hm hc ha hca (b := b) (by omega) hv2 hq; rw [i_addneg] at e0; exact e0)
                  have e2 : MC l yX4_give wsX4_give rmX4_give false [.ref 11, .int (nI c), .int (nI a), .int (nI b), .int (nI v)] (WW (row (s_com (upd (upd f (53 + b + 4 * c) (f (53 + b + 4 * c) - nI v)) (53 + b + 4 * a) ((upd f (53 + b + 4 * c) (f (53 + b + 4 * c) - nI v)) (53 + b + 4 * a) + nI v))) (upd (upd f (53 + b + 4 * c) (f (53 + b + 4 * c) - nI v)) (53 + b + 4 * a) ((upd f (53 + b + 4 * c) (f (53 + b + 4 * c) - nI v)) (53 + b + 4 * a) + nI v))) rt (s_blit (row (s_com f) f) (161 * nxT T) 161 R) (nxT T) (nxM m) R1 0 m1 g n th f sp sv m sn hs bf n ai sg fi se t3 hh (vp_updL o 0 ((((upd (upd f (53 + b + 4 * c) (f (53 + b + 4 * c) - nI v)) (53 + b + 4 * a) ((upd f (53 + b + 4 * c) (f (53 + b + 4 * c) - nI v)) (53 + b + 4 * a) + nI v)) (53 + b + 4 * a)) : Int32)).toInt64)) (some (.int ((upd (upd f (53 + b + 4 * c) (f (53 + b + 4 * c) - nI v)) (53 + b + 4 * a) ((upd f (53 + b + 4 * c) (f (53 + b + 4 * c) - nI v)) (53 + b + 4 * a) + nI v)) (53 + b + 4 * a)))) (WW (row (s_com (upd (upd f (53 + b + 4 * c) (f (53 + b + 4 * c) - nI v)) (53 + b + 4 * a) ((upd f (53 + b + 4 * c) (f (53 + b + 4 * c) - nI v)) (53 + b + 4 * a) + nI v))) (upd (upd f (53 + b + 4 * c) (f (53 + b + 4 * c) - nI v)) (53 + b + 4 * a) ((upd f (53 + b + 4 * c) (f (53 + b + 4 * c) - nI v)) (53 + b + 4 * a) + nI v))) rt (s_blit (row (s_com f) f) (161 * nxT T) 161 R) (nxT T) (nxM m) R1 0 m1 g n 0 (upd (upd f (53 + b + 4 * c) (f (53 + b + 4 * c) - nI v)) (53 + b + 4 * a) ((upd f (53 + b + 4 * c) (f (53 + b + 4 * c) - nI v)) (53 + b + 4 * a) + nI v)) sp (s_save f sv m) (nxM m) sn hs bf n ai sg fi se t3 hh (vp_updL o 0 ((((upd (upd f (53 + b + 4 * c) (f (53 + b + 4 * c) - nI v)) (53 + b + 4 * a) ((upd f (53 + b + 4 * c) (f (53 + b + 4 * c) - nI v)) (53 + b + 4 * a) + nI v)) (53 + b + 4 * a)) : Int32)).toInt64)) := by
                    rw [← svm_nx hm]
                    exact m_giveG mvW hm hc ha hca (by omega) hv2 hq
                  exact mkOK (lh_give_0 (xp := 0) (op := 17) e1 rfl rfl) pk_uLs e2 (hI.push (by omega) (okS_upd (okS_upd (okS.mono ⟨D, hDB, ho, hv⟩ (by omega)) (by unfold inA; omega) (by unfold inT; omega)) (by unfold inA; omega) (by unfold inT; omega)))
                · exact mkBad (k := 3) (by decide) (lh_give_3 (xp := 0) (x_give_3G hl cvW hc ha hca (by omega) hv2 (Int32.not_le.mp hq)) rfl) (m_give_3G mvW hc ha hca (by omega) hv2 (Int32.not_le.mp hq)) (hI.mono (by omega))
        · by_cases he : x0 = x1
          · exact mkBad (k := 2) (by decide) (lh_give_2 (xp := 0) (x_give_2m hl h0 h1 (by omega) h3) rfl) (m_give_2e mvW h0 h1 (by omega) he) (hI.mono (by omega))
          · exact mkBad (k := 2) (by decide) (lh_give_2 (xp := 0) (x_give_2m hl h0 h1 (by omega) h3) rfl) (m_give_2m mvW h0 h1 (by omega) he h3) (hI.mono (by omega))
      · exact mkBad (k := 1) (by decide) (lh_give_1 (xp := 0) (x_give_1b hl h0 h1 h2) rfl) (m_give_1b mvW h0 h1 h2) (hI.mono (by omega))
    · exact mkBad (k := 1) (by decide) (lh_give_1 (xp := 0) (x_give_1t hl h0 h1) rfl) (m_give_1t mvW h0 h1) (hI.mono (by omega))
  · exact mkBad (k := 1) (by decide) (lh_give_1 (xp := 0) (x_give_1f hl h0) rfl) (m_give_1f mvW h0) (hI.mono (by omega))
theorem sv_snow {B : Nat} {w : mj_W} (hB : B < 2147000000) (h : LI B w) : StV Value.int l yX3_snow wsX3_snow rmX3_snow yX4_snow wsX4_snow rmX4_snow w (B + 4000) := by
  obtain ⟨f, rt, R, T, m, R1, m1, g, n, th, sp, sv, sn, hs, bf, ai, sg, fi, se, t3, hh, o, t, rfl, hI⟩ := h
  obtain ⟨⟨D, hDB, ho, hv⟩, hT, hm, hR, hO, hS, hX, hX2⟩ := id hI
  have e1 : MC l yX3_snow wsX3_snow rmX3_snow false [.ref 0] (WW (row (s_com f) f) rt R T m R1 0 m1 g n th f sp sv m sn hs bf n ai sg fi se t3 hh o) (some (.int (1 - f 1))) (WW (row (s_com (s_turn f)) (s_turn f)) rt (s_blit (row (s_com f) f) (161 * nxT T) 161 R) (nxT T) (nxM m) R1 0 m1 g n th f sp sv m sn hs bf n ai sg fi se t3 hh o) := by
    rw [← row_same (sS_turn f) (s_turn f), ← turn_1]
    exact x_snow cvW hT hm
  have e2 : MC l yX4_snow wsX4_snow rmX4_snow false [.ref 11] (WW (row (s_com (s_turn f)) (s_turn f)) rt (s_blit (row (s_com f) f) (161 * nxT T) 161 R) (nxT T) (nxM m) R1 0 m1 g n th f sp sv m sn hs bf n ai sg fi se t3 hh o) (some (.int (1 - f 1))) (WW (row (s_com (s_turn f)) (s_turn f)) rt (s_blit (row (s_com f) f) (161 * nxT T) 161 R) (nxT T) (nxM m) R1 0 m1 g n 0 (s_turn f) sp (s_save f sv m) (nxM m) sn hs bf n ai sg fi se t3 hh o) := by
    rw [← svm_nx hm]
    exact m_snow mvW hm
  obtain ⟨k1, k2⟩ := turn_ok ho hv
  exact mkV e1 e2 (hI.push (by omega) ⟨D, by omega, k1, k2⟩)
theorem sv_clearBuffer {B : Nat} {w : mj_W} (hB : B < 2147000000) (h : LI B w) : StV Value.int l yX3_clearBuffer wsX3_clearBuffer rmX3_clearBuffer yX4_clearBuffer wsX4_clearBuffer rmX4_clearBuffer w (B + 4000) := by
  obtain ⟨f, rt, R, T, m, R1, m1, g, n, th, sp, sv, sn, hs, bf, ai, sg, fi, se, t3, hh, o, t, rfl, hI⟩ := h
  obtain ⟨⟨D, hDB, ho, hv⟩, hT, hm, hR, hO, hS, hX, hX2⟩ := id hI
  have e1 : MC l yX3_clearBuffer wsX3_clearBuffer rmX3_clearBuffer false [.ref 0] (WW (row (s_com f) f) rt R T m R1 0 m1 g n th f sp sv m sn hs bf n ai sg fi se t3 hh o) (some (.int (nI n))) (WW (row (s_com f) f) rt R T m R1 0 m1 g 0 th f sp sv m sn hs bf n ai sg fi se t3 hh o) := by
    exact x_clearBuffer cvW
  have e2 : MC l yX4_clearBuffer wsX4_clearBuffer rmX4_clearBuffer false [.ref 11] (WW (row (s_com f) f) rt R T m R1 0 m1 g 0 th f sp sv m sn hs bf n ai sg fi se t3 hh o) (some (.int (nI n))) (WW (row (s_com f) f) rt R T m R1 0 m1 g 0 0 f sp sv m sn hs bf 0 ai sg fi se t3 hh o) := by
    exact m_clearBuffer mvW
  exact mkV e1 e2 (⟨okS.mono ⟨D, hDB, ho, hv⟩ (by omega), hT, hm, hR, fun j hj => (hO j hj).mono (by omega), hS.mono (by omega), TX_0 g t, TX_0 bf t⟩ : Inv _ _ _ _ _ _ _ _ _ _ _ _ _ _)
theorem sv_firstError {B : Nat} {w : mj_W} (hB : B < 2147000000) (h : LI B w) : StV Value.int l yX3_firstError wsX3_firstError rmX3_firstError yX4_firstError wsX4_firstError rmX4_firstError w (B + 4000) := by
  obtain ⟨f, rt, R, T, m, R1, m1, g, n, th, sp, sv, sn, hs, bf, ai, sg, fi, se, t3, hh, o, t, rfl, hI⟩ := h
  obtain ⟨⟨D, hDB, ho, hv⟩, hT, hm, hR, hO, hS, hX, hX2⟩ := id hI
  have e1 : MC l yX3_firstError wsX3_firstError rmX3_firstError false [.ref 0] (WW (row (s_com f) f) rt R T m R1 0 m1 g n th f sp sv m sn hs bf n ai sg fi se t3 hh o) (some (.int (nI (s_rs t n 0 0)))) (WW (row (s_com f) f) rt R T m R1 0 m1 g n th f sp sv m sn hs bf n ai sg fi se t3 hh o) := by
    exact x_firstError cvW hX
  obtain ⟨ai', sg', fi', se', t3', e2⟩ := m_firstError (l := l) (mvW (r := (row (s_com f) f)) (rt := rt) (R := R) (T := T) (m := m) (R1 := R1) (T1 := 0) (m1 := m1) (g := g) (n := n) (o := o)) (th := th) (f := f) (sp := sp) (sv := sv) (m := m) (sn := sn) (hs := hs) (bf := bf) (i := ai) (sg := sg) (fi := fi) (se := se) (t3 := t3) (hh := hh) hX2
  exact mkV e1 e2 (hI.mono (by omega))
theorem sv_keep {B : Nat} {w : mj_W} (hB : B < 2147000000) (h : LI B w) : StV Value.int l yX3_keep wsX3_keep rmX3_keep yX4_keep wsX4_keep rmX4_keep w (B + 4000) := by
  obtain ⟨f, rt, R, T, m, R1, m1, g, n, th, sp, sv, sn, hs, bf, ai, sg, fi, se, t3, hh, o, t, rfl, hI⟩ := h
  obtain ⟨⟨D, hDB, ho, hv⟩, hT, hm, hR, hO, hS, hX, hX2⟩ := id hI
  have e1 : MC l yX3_keep wsX3_keep rmX3_keep false [.ref 0] (WW (row (s_com f) f) rt R T m R1 0 m1 g n th f sp sv m sn hs bf n ai sg fi se t3 hh o) (some (.int (f 0))) (WW (row (s_com f) f) rt R T m (s_blit (row (s_com f) f) (161 * 0) 161 R1) 0 1 g n th f sp sv m sn hs bf n ai sg fi se t3 hh o) := by
    rcases hS with ⟨-, rfl⟩ | ⟨-, rfl, -⟩
    · exact x_keep0 cvW (m1 := 0) (T1 := 0)
    · exact x_keep1 cvW (m1 := 0) (T1 := 0)
  have e2 : MC l yX4_keep wsX4_keep rmX4_keep false [.ref 11] (WW (row (s_com f) f) rt R T m (s_blit (row (s_com f) f) (161 * 0) 161 R1) 0 1 g n th f sp sv m sn hs bf n ai sg fi se t3 hh o) (some (.int (f 0))) (WW (row (s_com f) f) rt R T m (s_blit (row (s_com f) f) (161 * 0) 161 R1) 0 1 g n 0 f sp sv m f 1 bf n ai sg fi se t3 hh o) := by
    exact m_keep mvW
  exact mkV e1 e2 (⟨okS.mono ⟨D, hDB, ho, hv⟩ (by omega), hT, hm, hR, fun j hj => (hO j hj).mono (by omega), Or.inr ⟨rfl, rfl, fun k hk => by rw [sblit_at, if_pos (by omega)]; exact congrArg _ (by omega), okS.mono ⟨D, hDB, ho, hv⟩ (by omega)⟩, hX, hX2⟩ : Inv _ _ _ _ _ _ _ _ _ _ _ _ _ _)
theorem sv_dryness {B : Nat} {w : mj_W} (hB : B < 2147000000) (h : LI B w) : StV Value.double l yX3_dryness wsX3_dryness rmX3_dryness yX4_dryness wsX4_dryness rmX4_dryness w (B + 4000) := by
  obtain ⟨f, rt, R, T, m, R1, m1, g, n, th, sp, sv, sn, hs, bf, ai, sg, fi, se, t3, hh, o, t, rfl, hI⟩ := h
  obtain ⟨⟨D, hDB, ho, hv⟩, hT, hm, hR, hO, hS, hX, hX2⟩ := id hI
  have e1 : MC l yX3_dryness wsX3_dryness rmX3_dryness false [.ref 0] (WW (row (s_com f) f) rt R T m R1 0 m1 g n th f sp sv m sn hs bf n ai sg fi se t3 hh o) (some (.double (s_share f))) (WW (row (s_com f) f) rt R T m R1 0 m1 g n th f sp sv m sn hs bf n ai sg fi se t3 hh o) := by
    exact x_dryness cvW hv
  have e2 : MC l yX4_dryness wsX4_dryness rmX4_dryness false [.ref 11] (WW (row (s_com f) f) rt R T m R1 0 m1 g n th f sp sv m sn hs bf n ai sg fi se t3 hh o) (some (.double (s_share f))) (WW (row (s_com f) f) rt R T m R1 0 m1 g n 0 f sp sv m sn hs bf n ai sg fi se t3 hh o) := by
    exact m_dryness mvW hv
  exact mkV e1 e2 (hI.mono (by omega))
theorem sv_digest {B : Nat} {w : mj_W} (hB : B < 2147000000) (h : LI B w) : StV Value.long l yX3_digest wsX3_digest rmX3_digest yX4_digest wsX4_digest rmX4_digest w (B + 4000) := by
  obtain ⟨f, rt, R, T, m, R1, m1, g, n, th, sp, sv, sn, hs, bf, ai, sg, fi, se, t3, hh, o, t, rfl, hI⟩ := h
  obtain ⟨⟨D, hDB, ho, hv⟩, hT, hm, hR, hO, hS, hX, hX2⟩ := id hI
  obtain ⟨si, hsi9, hsi⟩ := ho.2.2.1
  have eg : g_d f m (s_share f).toInt64 bf n = g_d f m (s_share f).toInt64 g n := by
    unfold g_d
    exact itr_congr n 0 _ (fun k h1 h2 x => by rw [(hX2.2 k (by omega)).1, (hX.2 k (by omega)).1])
  have e1 : MC l yX3_digest wsX3_digest rmX3_digest false [.ref 0] (WW (row (s_com f) f) rt R T m R1 0 m1 g n th f sp sv m sn hs bf n ai sg fi se t3 hh o) (some (.long (g_d f m (s_share f).toInt64 bf n))) (WW (row (s_com f) f) (row (s_com f) (s_days 10 f).1) R T m R1 0 m1 g n th f sp sv m sn hs bf n ai sg fi se t3 hh o) := by
    rw [eg, ← h_d_g]
    exact x_digest cvW ho hv (by omega) hsi hsi9 hX hX.1
  have e2 : MC l yX4_digest wsX4_digest rmX4_digest false [.ref 11] (WW (row (s_com f) f) (row (s_com f) (s_days 10 f).1) R T m R1 0 m1 g n th f sp sv m sn hs bf n ai sg fi se t3 hh o) (some (.long (g_d f m (s_share f).toInt64 bf n))) (WW (row (s_com f) f) (row (s_com f) (s_days 10 f).1) R T m R1 0 m1 g n 0 f f sv m sn hs bf n ai sg fi se t3 (g_d f m (s_share f).toInt64 bf n) o) := by
    exact m_digest mvW ho hv (by omega) hm hX.1 hsi hsi9
  exact mkV e1 e2 (hI.mono (by omega))
end ST

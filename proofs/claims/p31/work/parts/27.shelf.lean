/-! SHELF: states kept in a ring; and one row copied to another -/
theorem G_if_leN {l : Launch} {cc : ByteArray} {M : mj_M} {b : Bool} {X : mj_R} {pc : Nat} {L : mj_L} {st : List Value} {w : mj_W} {k n : Nat} {a : Nat} {off : Int} (tgt : Nat) (hd : decode cc pc = .ok (.ifCond .le off, 3)) (ht : (pc : Int) + off = (tgt : Int)) (ha : a < 2147483648) (kt : a = 0 → GG l cc M b X tgt L st w k n) (kf : 0 < a → GG l cc M b X (pc + 3) L st w k n) : GG l cc M b X pc L (.int (nI a) :: st) w k n := G_if_le tgt hd ht (fun q => kt (by have z := (nI_leI (b := 0) ha (by omega)).mp q; omega)) (fun q => kf (by have z : ¬ a ≤ 0 := fun z => q ((nI_leI (b := 0) ha (by omega)).mpr z); omega))
theorem G_if_gtN {l : Launch} {cc : ByteArray} {M : mj_M} {b : Bool} {X : mj_R} {pc : Nat} {L : mj_L} {st : List Value} {w : mj_W} {k n : Nat} {a : Nat} {off : Int} (tgt : Nat) (hd : decode cc pc = .ok (.ifCond .gt off, 3)) (ht : (pc : Int) + off = (tgt : Int)) (ha : a < 2147483648) (kt : 0 < a → GG l cc M b X tgt L st w k n) (kf : a = 0 → GG l cc M b X (pc + 3) L st w k n) : GG l cc M b X pc L (.int (nI a) :: st) w k n := G_if_gt tgt hd ht (fun q => kt ((nI_ltI (a := 0) (by omega) ha).mp q)) (fun q => kf (by have z : ¬ 0 < a := fun z => q ((nI_ltI (a := 0) (by omega) ha).mpr z); omega))
def SV (hp rp lp ap most : Nat) (Ω : mj_S → mj_S → Nat → Nat → mj_W) : Prop := (0 < most ∧ most < 7) ∧ ∀ r R T m, (Ω r R T m)[hp]? = some (.inr (1, [.ref rp, .int (nI most), .int (nI T), .int (nI m)])) ∧ (Ω r R T m)[rp]? = some (.inl (.int, (161 * most, .inl R))) ∧ (Ω r R T m)[lp]? = some (.inr (0, [.ref ap])) ∧ (Ω r R T m)[ap]? = some (.inl (.int, (161, .inl r))) ∧ (∀ T' m', (Ω r R T m).set hp (.inr (1, [.ref rp, .int (nI most), .int (nI T'), .int (nI m')])) = Ω r R T' m') ∧ (∀ R', (Ω r R T m).set rp (.inl (.int, (161 * most, .inl R'))) = Ω r R' T m) ∧ (∀ r', (Ω r R T m).set ap (.inl (.int, (161, .inl r'))) = Ω r' R T m)
theorem SV.lv {hp rp lp ap most : Nat} {Ω : mj_S → mj_S → Nat → Nat → mj_W} (h : SV hp rp lp ap most Ω) (R : mj_S) (T m : Nat) : LV lp ap (fun r => Ω r R T m) := fun r => ⟨(h.2 r R T m).2.2.1, (h.2 r R T m).2.2.2.1, fun g => (h.2 r R T m).2.2.2.2.2.2 g⟩
/-- n numbers of r, from its first on, laid into R from b on -/
def s_blit (r : mj_S) (b : Nat) (n : Nat) (R : mj_S) : mj_S := itr (fun i a => upd a (b + i) (r i)) n 0 R
/-- n numbers of R from b on, laid into r -/
def s_take (R : mj_S) (b : Nat) (n : Nat) (r : mj_S) : mj_S := itr (fun i a => upd a i (R (b + i))) n 0 r
section SS
variable {l : Launch} {hp rp lp ap most : Nat} {Ω : mj_S → mj_S → Nat → Nat → mj_W}
theorem c_size (hΩ : SV hp rp lp ap most Ω) {r R : mj_S} {T m : Nat} : MC l yX1_size wsX1_size rmX1_size false [.ref hp] (Ω r R T m) (some (.int (nI m))) (Ω r R T m) := by
  refine mj_MC (cc := cX1_size) (nl := 1) (ret := (some .int)) (plainFor_of_name (by decide)) rfl (⟨_, rfl, rfl⟩) (Nat.le_of_ble_eq_true rfl) ?_
  show GG l cX1_size MX1_size false (.inl ((some (.int (nI m))), Ω r R T m)) 0 [some (.ref hp)] [] (Ω r R T m) 0 0
  refine G_aload_n dX1_size_0 rfl ?_
  refine G_getf dX1_size_1 fX1_size_30 ((hΩ.2 _ _ _ _).1) rfl ?_
  exact G_iret dX1_size_4 ⟨Nat.zero_le _, Nat.zero_le _⟩ (rfl)
theorem c_isInside (hΩ : SV hp rp lp ap most Ω) {r R : mj_S} {T m : Nat} {i : Nat} (hi : i < 161 * most) : MC l yX1_isInside wsX1_isInside rmX1_isInside false [.ref hp, .int (nI (i))] (Ω r R T m) (some (.int 1)) (Ω r R T m) := by
  refine mj_MC (cc := cX1_isInside) (nl := 2) (ret := (some .boolean)) (plainFor_of_name (by decide)) rfl (⟨_, rfl, rfl⟩) (Nat.le_of_ble_eq_true rfl) ?_
  show GG l cX1_isInside MX1_isInside false (.inl ((some (.int 1)), Ω r R T m)) 0 [some (.ref hp), some (.int (nI (i)))] [] (Ω r R T m) 0 0
  have hmm := hΩ.1
  refine G_iload_n dX1_isInside_0 rfl ?_
  refine G_if_ltN (a := i) 17 dX1_isInside_1 (by decide) (by omega) ?_
  refine G_iload_n dX1_isInside_4 rfl ?_
  refine G_aload_n dX1_isInside_5 rfl ?_
  refine G_getf dX1_isInside_6 fX1_isInside_26 ((hΩ.2 _ _ _ _).1) rfl ?_
  refine G_alen (v := (nI (161 * most))) dX1_isInside_9 ((hΩ.2 _ _ _ _).2.1) rfl ?_
  refine G_icmp_geN (a := i) (c := 161 * most) 17 dX1_isInside_10 (by decide) (by omega) (fun c10 => ?_) (fun c10 => ?_)
  · exact (show False by omega).elim
  · refine G_iconst (v := 1) dX1_isInside_13 (by decide) ?_
    refine G_goto 18 dX1_isInside_14 (by decide) ?_
    exact G_iret dX1_isInside_18 ⟨Nat.zero_le _, Nat.zero_le _⟩ (rfl)
theorem lp_push (hΩ : SV hp rp lp ap most Ω) {r res : mj_S} {T m B : Nat} (hB : B + 161 ≤ 161 * most) : ∀ (d c : Nat) (R : mj_S), c + d = 161 → res = itr (fun i a => upd a (B + i) (r i)) d c R → GG l cX1_push MX1_push false (.inl (none, Ω r res T m)) 55 [some (.ref hp), some (.ref lp), some (.int (nI B)), some (.int (nI c))] [] (Ω r R T m) 0 0
  | 0, c, R, hc, hr => by
    refine G_iload_n dX1_push_55 rfl ?_
    refine G_sipush (v := 161) dX1_push_56 (by decide) ?_
    refine G_icmp_geN (a := c) (c := 161) 91 dX1_push_59 (by decide) (by omega) (fun c59 => ?_) (fun c59 => ?_)
    · exact G_vret dX1_push_91 ⟨Nat.zero_le _, Nat.zero_le _⟩ (by rw [hr, itr_0])
    · exact (show False by omega).elim
  | d + 1, c, R, hc, hr => by
    have hmm := hΩ.1
    refine G_iload_n dX1_push_55 rfl ?_
    refine G_sipush (v := 161) dX1_push_56 (by decide) ?_
    refine G_icmp_geN (a := c) (c := 161) 91 dX1_push_59 (by decide) (by omega) (fun c59 => ?_) (fun c59 => ?_)
    · exact (show False by omega).elim
    · refine G_aload_n dX1_push_62 rfl ?_
      refine G_iload_n dX1_push_63 rfl ?_
      refine G_iload_n dX1_push_64 rfl ?_
      refine G_iaddN (a := B) (c := c) (s := B + c) dX1_push_65 (by omega) ?_
      refine G_callVi dX1_push_66 kX1_push_X1_isInside ⟨rfl, rfl⟩ ⟨Nat.zero_le _, Nat.zero_le _⟩ (c_isInside hΩ (i := B + c) (by omega)) rfl rfl ((hΩ.2 _ _ _ _).1) rfl rfl ?_
      refine G_if_eqN (a := 1) 85 dX1_push_69 (by decide) (by omega) (fun c69 => ?_) (fun c69 => ?_)
      · exact (show False by omega).elim
      · refine G_aload_n dX1_push_72 rfl ?_
        refine G_getf dX1_push_73 fX1_push_26 ((hΩ.2 _ _ _ _).1) rfl ?_
        refine G_iload_n dX1_push_76 rfl ?_
        refine G_iload_n dX1_push_77 rfl ?_
        refine G_iaddN (a := B) (c := c) (s := B + c) dX1_push_78 (by omega) ?_
        refine G_aload_n dX1_push_79 rfl ?_
        refine G_iload_n dX1_push_80 rfl ?_
        refine G_callVi dX1_push_81 kX1_push_X0_at ⟨rfl, rfl⟩ ⟨Nat.zero_le _, Nat.zero_le _⟩ (c_at (hΩ.lv R T m) (r := r) (j := c) (by omega)) rfl rfl ((hΩ.2 _ _ _ _).2.2.1) rfl rfl ?_
        refine G_iastN (j := B + c) dX1_push_84 ((hΩ.2 _ _ _ _).2.1) (by omega) ((hΩ.2 _ _ _ _).2.2.2.2.2.1 _) ?_
        refine G_iincN (a := c) (s := c + 1) dX1_push_85 rfl (by omega) (L' := [some (.ref hp), some (.ref lp), some (.int (nI (B))), some (.int (nI (c + 1)))]) rfl ?_
        refine G_goto 55 dX1_push_88 (by decide) ?_
        exact lp_push hΩ hB d (c + 1) _ (by omega) hr
theorem c_push (hΩ : SV hp rp lp ap most Ω) {r R : mj_S} {T m : Nat} (hT : T < most) (hm : m ≤ most) : MC l yX1_push wsX1_push rmX1_push false [.ref hp, .ref lp] (Ω r R T m) none (Ω r (s_blit r (161 * (if T + 1 < most then T + 1 else 0)) 161 R) (if T + 1 < most then T + 1 else 0) (if most < m + 1 then most else m + 1)) := by
  refine mj_MC (cc := cX1_push) (nl := 4) (ret := none) (plainFor_of_name (by decide)) rfl (rfl) (Nat.le_of_ble_eq_true rfl) ?_
  show GG l cX1_push MX1_push false (.inl (none, Ω r (s_blit r (161 * (if T + 1 < most then T + 1 else 0)) 161 R) (if T + 1 < most then T + 1 else 0) (if most < m + 1 then most else m + 1))) 0 [some (.ref hp), some (.ref lp), none, none] [] (Ω r R T m) 0 0
  have hmm := hΩ.1
  refine G_aload_n dX1_push_0 rfl ?_
  refine G_aload_n dX1_push_1 rfl ?_
  refine G_getf dX1_push_2 fX1_push_33 ((hΩ.2 _ _ _ _).1) rfl ?_
  refine G_iconst (v := 1) dX1_push_5 (by decide) ?_
  refine G_iaddN (a := T) (c := 1) (s := T + 1) dX1_push_6 (by omega) ?_
  refine G_aload_n dX1_push_7 rfl ?_
  refine G_getf dX1_push_8 fX1_push_18 ((hΩ.2 _ _ _ _).1) rfl ?_
  refine G_icmp_geN (a := T + 1) (c := most) 23 dX1_push_11 (by decide) (by omega) (fun c11 => ?_) (fun c11 => ?_)
  · refine G_iconst (v := 0) dX1_push_23 (by decide) ?_
    refine G_putf dX1_push_24 pX1_push_33 ((hΩ.2 _ _ _ _).1) (fun _ => ⟨rfl, rfl⟩) (by simp) ((hΩ.2 _ _ _ _).2.2.2.2.1 _ _) ?_
    refine G_aload_n dX1_push_27 rfl ?_
    refine G_aload_n dX1_push_28 rfl ?_
    refine G_getf dX1_push_29 fX1_push_30 ((hΩ.2 _ _ _ _).1) rfl ?_
    refine G_iconst (v := 1) dX1_push_32 (by decide) ?_
    refine G_iaddN (a := m) (c := 1) (s := m + 1) dX1_push_33 (by omega) ?_
    refine G_aload_n dX1_push_34 rfl ?_
    refine G_getf dX1_push_35 fX1_push_18 ((hΩ.2 _ _ _ _).1) rfl ?_
    refine G_min dX1_push_38 kX1_push_Mmin (by decide) ⟨Nat.zero_le _, Nat.zero_le _⟩ (Nat.le_of_ble_eq_true rfl) ?_
    refine G_eqi (n_mn (by omega) (by omega)) ?_
    refine G_putf dX1_push_41 pX1_push_30 ((hΩ.2 _ _ _ _).1) (fun _ => ⟨rfl, rfl⟩) (by simp) ((hΩ.2 _ _ _ _).2.2.2.2.1 _ _) ?_
    refine G_aload_n dX1_push_44 rfl ?_
    refine G_getf dX1_push_45 fX1_push_33 ((hΩ.2 _ _ _ _).1) rfl ?_
    refine G_sipush (v := 161) dX1_push_48 (by decide) ?_
    refine G_imulN (a := 0) (c := 161) (s := 0) dX1_push_51 (by omega) ?_
    refine G_istore_n dX1_push_52 rfl (L' := [some (.ref hp), some (.ref lp), some (.int 0), none]) rfl ?_
    refine G_iconst (v := 0) dX1_push_53 (by decide) ?_
    refine G_istore_n dX1_push_54 rfl (L' := [some (.ref hp), some (.ref lp), some (.int 0), some (.int 0)]) rfl ?_
    have e1 : (if T + 1 < most then T + 1 else 0) = 0 := by rw [if_neg (by omega)]
    rw [e1]
    exact lp_push hΩ (B := 0) (by omega) 161 0 R (by omega) (by unfold s_blit; congr 1)
  · refine G_aload_n dX1_push_14 rfl ?_
    refine G_getf dX1_push_15 fX1_push_33 ((hΩ.2 _ _ _ _).1) rfl ?_
    refine G_iconst (v := 1) dX1_push_18 (by decide) ?_
    refine G_iaddN (a := T) (c := 1) (s := T + 1) dX1_push_19 (by omega) ?_
    refine G_goto 24 dX1_push_20 (by decide) ?_
    refine G_putf dX1_push_24 pX1_push_33 ((hΩ.2 _ _ _ _).1) (fun _ => ⟨rfl, rfl⟩) (by simp) ((hΩ.2 _ _ _ _).2.2.2.2.1 _ _) ?_
    refine G_aload_n dX1_push_27 rfl ?_
    refine G_aload_n dX1_push_28 rfl ?_
    refine G_getf dX1_push_29 fX1_push_30 ((hΩ.2 _ _ _ _).1) rfl ?_
    refine G_iconst (v := 1) dX1_push_32 (by decide) ?_
    refine G_iaddN (a := m) (c := 1) (s := m + 1) dX1_push_33 (by omega) ?_
    refine G_aload_n dX1_push_34 rfl ?_
    refine G_getf dX1_push_35 fX1_push_18 ((hΩ.2 _ _ _ _).1) rfl ?_
    refine G_min dX1_push_38 kX1_push_Mmin (by decide) ⟨Nat.zero_le _, Nat.zero_le _⟩ (Nat.le_of_ble_eq_true rfl) ?_
    refine G_eqi (n_mn (by omega) (by omega)) ?_
    refine G_putf dX1_push_41 pX1_push_30 ((hΩ.2 _ _ _ _).1) (fun _ => ⟨rfl, rfl⟩) (by simp) ((hΩ.2 _ _ _ _).2.2.2.2.1 _ _) ?_
    refine G_aload_n dX1_push_44 rfl ?_
    refine G_getf dX1_push_45 fX1_push_33 ((hΩ.2 _ _ _ _).1) rfl ?_
    refine G_sipush (v := 161) dX1_push_48 (by decide) ?_
    refine G_imulN (a := T + 1) (c := 161) (s := 161 + 161 * T) dX1_push_51 (by omega) ?_
    refine G_istore_n dX1_push_52 rfl (L' := [some (.ref hp), some (.ref lp), some (.int (nI (161 + 161 * T))), none]) rfl ?_
    refine G_iconst (v := 0) dX1_push_53 (by decide) ?_
    refine G_istore_n dX1_push_54 rfl (L' := [some (.ref hp), some (.ref lp), some (.int (nI (161 + 161 * T))), some (.int 0)]) rfl ?_
    have e1 : (if T + 1 < most then T + 1 else 0) = (T + 1) := by rw [if_pos (by omega)]
    rw [e1]
    exact lp_push hΩ (B := 161 + 161 * T) (by omega) 161 0 R (by omega) (by unfold s_blit; congr 1; funext i a; congr 1; omega)
theorem lp_showTop (hΩ : SV hp rp lp ap most Ω) {R res : mj_S} {T m B : Nat} (hB : B + 161 ≤ 161 * most) : ∀ (d c : Nat) (r : mj_S), c + d = 161 → res = itr (fun i a => upd a i (R (B + i))) d c r → GG l cX1_showTop MX1_showTop false (.inl (none, Ω res R T m)) 11 [some (.ref hp), some (.ref lp), some (.int (nI B)), some (.int (nI c))] [] (Ω r R T m) 0 0
  | 0, c, r, hc, hr => by
    refine G_iload_n dX1_showTop_11 rfl ?_
    refine G_sipush (v := 161) dX1_showTop_12 (by decide) ?_
    refine G_icmp_geN (a := c) (c := 161) 47 dX1_showTop_15 (by decide) (by omega) (fun c15 => ?_) (fun c15 => ?_)
    · exact G_vret dX1_showTop_47 ⟨Nat.zero_le _, Nat.zero_le _⟩ (by rw [hr, itr_0])
    · exact (show False by omega).elim
  | d + 1, c, r, hc, hr => by
    have hmm := hΩ.1
    refine G_iload_n dX1_showTop_11 rfl ?_
    refine G_sipush (v := 161) dX1_showTop_12 (by decide) ?_
    refine G_icmp_geN (a := c) (c := 161) 47 dX1_showTop_15 (by decide) (by omega) (fun c15 => ?_) (fun c15 => ?_)
    · exact (show False by omega).elim
    · refine G_aload_n dX1_showTop_18 rfl ?_
      refine G_iload_n dX1_showTop_19 rfl ?_
      refine G_iload_n dX1_showTop_20 rfl ?_
      refine G_iaddN (a := B) (c := c) (s := B + c) dX1_showTop_21 (by omega) ?_
      refine G_callVi dX1_showTop_22 kX1_showTop_X1_isInside ⟨rfl, rfl⟩ ⟨Nat.zero_le _, Nat.zero_le _⟩ (c_isInside hΩ (i := B + c) (by omega)) rfl rfl ((hΩ.2 _ _ _ _).1) rfl rfl ?_
      refine G_if_eqN (a := 1) 41 dX1_showTop_25 (by decide) (by omega) (fun c25 => ?_) (fun c25 => ?_)
      · exact (show False by omega).elim
      · refine G_aload_n dX1_showTop_28 rfl ?_
        refine G_iload_n dX1_showTop_29 rfl ?_
        refine G_aload_n dX1_showTop_30 rfl ?_
        refine G_getf dX1_showTop_31 fX1_showTop_26 ((hΩ.2 _ _ _ _).1) rfl ?_
        refine G_iload_n dX1_showTop_34 rfl ?_
        refine G_iload_n dX1_showTop_35 rfl ?_
        refine G_iaddN (a := B) (c := c) (s := B + c) dX1_showTop_36 (by omega) ?_
        refine G_ialdN (j := B + c) dX1_showTop_37 ((hΩ.2 _ _ _ _).2.1) (by omega) ?_
        refine G_callVv dX1_showTop_38 kX1_showTop_X0_put ⟨rfl, rfl⟩ ⟨Nat.zero_le _, Nat.zero_le _⟩ (c_put (hΩ.lv R T m) (r := r) (j := c) (v := (R (B + c))) (by omega)) rfl rfl ((hΩ.2 _ _ _ _).2.2.1) rfl rfl ?_
        refine G_iincN (a := c) (s := c + 1) dX1_showTop_41 rfl (by omega) (L' := [some (.ref hp), some (.ref lp), some (.int (nI (B))), some (.int (nI (c + 1)))]) rfl ?_
        refine G_goto 11 dX1_showTop_44 (by decide) ?_
        exact lp_showTop hΩ hB d (c + 1) _ (by omega) hr
theorem c_showTop (hΩ : SV hp rp lp ap most Ω) {r R : mj_S} {T m : Nat} (hT : T < most) : MC l yX1_showTop wsX1_showTop rmX1_showTop false [.ref hp, .ref lp] (Ω r R T m) none (Ω (s_take R (161 * T) 161 r) R T m) := by
  refine mj_MC (cc := cX1_showTop) (nl := 4) (ret := none) (plainFor_of_name (by decide)) rfl (rfl) (Nat.le_of_ble_eq_true rfl) ?_
  show GG l cX1_showTop MX1_showTop false (.inl (none, Ω (s_take R (161 * T) 161 r) R T m)) 0 [some (.ref hp), some (.ref lp), none, none] [] (Ω r R T m) 0 0
  have hmm := hΩ.1
  refine G_aload_n dX1_showTop_0 rfl ?_
  refine G_getf dX1_showTop_1 fX1_showTop_33 ((hΩ.2 _ _ _ _).1) rfl ?_
  refine G_sipush (v := 161) dX1_showTop_4 (by decide) ?_
  refine G_imulN (a := T) (c := 161) (s := 161 * T) dX1_showTop_7 (by omega) ?_
  refine G_istore_n dX1_showTop_8 rfl (L' := [some (.ref hp), some (.ref lp), some (.int (nI (161 * T))), none]) rfl ?_
  refine G_iconst (v := 0) dX1_showTop_9 (by decide) ?_
  refine G_istore_n dX1_showTop_10 rfl (L' := [some (.ref hp), some (.ref lp), some (.int (nI (161 * T))), some (.int 0)]) rfl ?_
  exact lp_showTop hΩ (by omega) 161 0 r (by omega) rfl
theorem c_dropTop (hΩ : SV hp rp lp ap most Ω) {r R : mj_S} {T m : Nat} (hT : T < most) (hm : 0 < m ∧ m ≤ most) : MC l yX1_dropTop wsX1_dropTop rmX1_dropTop false [.ref hp] (Ω r R T m) none (Ω r R (if 0 < T then T - 1 else most - 1) (m - 1)) := by
  refine mj_MC (cc := cX1_dropTop) (nl := 1) (ret := none) (plainFor_of_name (by decide)) rfl (rfl) (Nat.le_of_ble_eq_true rfl) ?_
  show GG l cX1_dropTop MX1_dropTop false (.inl (none, Ω r R (if 0 < T then T - 1 else most - 1) (m - 1))) 0 [some (.ref hp)] [] (Ω r R T m) 0 0
  have hmm := hΩ.1
  refine G_aload_n dX1_dropTop_0 rfl ?_
  refine G_aload_n dX1_dropTop_1 rfl ?_
  refine G_getf dX1_dropTop_2 fX1_dropTop_33 ((hΩ.2 _ _ _ _).1) rfl ?_
  refine G_if_leN (a := T) 17 dX1_dropTop_5 (by decide) (by omega) (fun c5 => ?_) (fun c5 => ?_)
  · refine G_aload_n dX1_dropTop_17 rfl ?_
    refine G_getf dX1_dropTop_18 fX1_dropTop_18 ((hΩ.2 _ _ _ _).1) rfl ?_
    refine G_iconst (v := 1) dX1_dropTop_21 (by decide) ?_
    refine G_isubN (a := most) (c := 1) (s := ((most) - 1)) dX1_dropTop_22 (by omega) ?_
    refine G_putf dX1_dropTop_23 pX1_dropTop_33 ((hΩ.2 _ _ _ _).1) (fun _ => ⟨rfl, rfl⟩) (by simp) ((hΩ.2 _ _ _ _).2.2.2.2.1 _ _) ?_
    refine G_aload_n dX1_dropTop_26 rfl ?_
    refine G_iconst (v := 0) dX1_dropTop_27 (by decide) ?_
    refine G_aload_n dX1_dropTop_28 rfl ?_
    refine G_getf dX1_dropTop_29 fX1_dropTop_30 ((hΩ.2 _ _ _ _).1) rfl ?_
    refine G_iconst (v := 1) dX1_dropTop_32 (by decide) ?_
    refine G_isubN (a := m) (c := 1) (s := ((m) - 1)) dX1_dropTop_33 (by omega) ?_
    refine G_max dX1_dropTop_34 kX1_dropTop_Mmax (by decide) ⟨Nat.zero_le _, Nat.zero_le _⟩ (Nat.le_of_ble_eq_true rfl) ?_
    refine G_eqi (show (if (0 : Int32) < nI (m - 1) then nI (m - 1) else 0) = nI (m - 1) from by split; rfl; rename_i h; exact (by have q : ¬ 0 < m - 1 := fun z => h ((nI_ltI (a := 0) (by omega) (by omega)).mpr z); rw [show m - 1 = 0 by omega]; rfl)) ?_
    refine G_putf dX1_dropTop_37 pX1_dropTop_30 ((hΩ.2 _ _ _ _).1) (fun _ => ⟨rfl, rfl⟩) (by simp) ((hΩ.2 _ _ _ _).2.2.2.2.1 _ _) ?_
    exact G_vret dX1_dropTop_40 ⟨Nat.zero_le _, Nat.zero_le _⟩ (X_w (by first | rw [if_pos (by omega)] | rw [if_neg (by omega)]))
  · refine G_aload_n dX1_dropTop_8 rfl ?_
    refine G_getf dX1_dropTop_9 fX1_dropTop_33 ((hΩ.2 _ _ _ _).1) rfl ?_
    refine G_iconst (v := 1) dX1_dropTop_12 (by decide) ?_
    refine G_isubN (a := T) (c := 1) (s := ((T) - 1)) dX1_dropTop_13 (by omega) ?_
    refine G_goto 23 dX1_dropTop_14 (by decide) ?_
    refine G_putf dX1_dropTop_23 pX1_dropTop_33 ((hΩ.2 _ _ _ _).1) (fun _ => ⟨rfl, rfl⟩) (by simp) ((hΩ.2 _ _ _ _).2.2.2.2.1 _ _) ?_
    refine G_aload_n dX1_dropTop_26 rfl ?_
    refine G_iconst (v := 0) dX1_dropTop_27 (by decide) ?_
    refine G_aload_n dX1_dropTop_28 rfl ?_
    refine G_getf dX1_dropTop_29 fX1_dropTop_30 ((hΩ.2 _ _ _ _).1) rfl ?_
    refine G_iconst (v := 1) dX1_dropTop_32 (by decide) ?_
    refine G_isubN (a := m) (c := 1) (s := ((m) - 1)) dX1_dropTop_33 (by omega) ?_
    refine G_max dX1_dropTop_34 kX1_dropTop_Mmax (by decide) ⟨Nat.zero_le _, Nat.zero_le _⟩ (Nat.le_of_ble_eq_true rfl) ?_
    refine G_eqi (show (if (0 : Int32) < nI (m - 1) then nI (m - 1) else 0) = nI (m - 1) from by split; rfl; rename_i h; exact (by have q : ¬ 0 < m - 1 := fun z => h ((nI_ltI (a := 0) (by omega) (by omega)).mpr z); rw [show m - 1 = 0 by omega]; rfl)) ?_
    refine G_putf dX1_dropTop_37 pX1_dropTop_30 ((hΩ.2 _ _ _ _).1) (fun _ => ⟨rfl, rfl⟩) (by simp) ((hΩ.2 _ _ _ _).2.2.2.2.1 _ _) ?_
    exact G_vret dX1_dropTop_40 ⟨Nat.zero_le _, Nat.zero_le _⟩ (X_w (by first | rw [if_pos (by omega)] | rw [if_neg (by omega)]))
end SS
def LL (lp ap lp2 ap2 : Nat) (Ω : mj_S → mj_S → mj_W) : Prop := (∀ r2, LV lp ap (fun r => Ω r r2)) ∧ (∀ r, LV lp2 ap2 (fun r2 => Ω r r2))
section CF
variable {l : Launch} {lp ap lp2 ap2 : Nat} {Ω : mj_S → mj_S → mj_W}
end CF
section SP
variable {l : Launch}
theorem c_sharesPlaceN {w : mj_W} {b : Nat} (hb : b < 4) : MC l yX0_sharesPlace wsX0_sharesPlace rmX0_sharesPlace false [.int (-1), .int (nI (b))] (w) (some (.int (nI (53 + b)))) (w) := by
  refine mj_MC (cc := cX0_sharesPlace) (nl := 2) (ret := (some .int)) (plainFor_of_name (by decide)) rfl (⟨_, rfl, rfl⟩) (Nat.le_of_ble_eq_true rfl) ?_
  show GG l cX0_sharesPlace MX0_sharesPlace false (.inl ((some (.int (nI (53 + b)))), w)) 0 [some (.int (-1)), some (.int (nI (b)))] [] (w) 0 0
  refine G_iload_n dX0_sharesPlace_0 rfl ?_
  refine G_iconst (v := (-1)) dX0_sharesPlace_1 (by decide) ?_
  refine G_icmp_ne 12 dX0_sharesPlace_2 (by decide) (fun c2 => ?_) (fun c2 => ?_)
  · exact absurd rfl c2
  · refine G_bipush (v := 53) dX0_sharesPlace_5 (by decide) ?_
    refine G_iload_n dX0_sharesPlace_7 rfl ?_
    refine G_iaddN (a := 53) (c := b) (s := 53 + b) dX0_sharesPlace_8 (by omega) ?_
    refine G_goto 20 dX0_sharesPlace_9 (by decide) ?_
    exact G_iret dX0_sharesPlace_20 ⟨Nat.zero_le _, Nat.zero_le _⟩ (rfl)
theorem c_sharesPlace {w : mj_W} {h b : Nat} (hh : h < 5) (hb : b < 4) : MC l yX0_sharesPlace wsX0_sharesPlace rmX0_sharesPlace false [.int (nI (h)), .int (nI (b))] (w) (some (.int (nI (57 + b + 4 * h)))) (w) := by
  refine mj_MC (cc := cX0_sharesPlace) (nl := 2) (ret := (some .int)) (plainFor_of_name (by decide)) rfl (⟨_, rfl, rfl⟩) (Nat.le_of_ble_eq_true rfl) ?_
  show GG l cX0_sharesPlace MX0_sharesPlace false (.inl ((some (.int (nI (57 + b + 4 * h)))), w)) 0 [some (.int (nI (h))), some (.int (nI (b)))] [] (w) 0 0
  refine G_iload_n dX0_sharesPlace_0 rfl ?_
  refine G_iconst (v := (-1)) dX0_sharesPlace_1 (by decide) ?_
  refine G_icmp_ne 12 dX0_sharesPlace_2 (by decide) (fun c2 => ?_) (fun c2 => ?_)
  · refine G_bipush (v := 57) dX0_sharesPlace_12 (by decide) ?_
    refine G_iload_n dX0_sharesPlace_14 rfl ?_
    refine G_iload_n dX0_sharesPlace_15 rfl ?_
    refine G_callSi dX0_sharesPlace_16 kX0_sharesPlace_X0_plotOf ⟨rfl, rfl⟩ ⟨Nat.zero_le _, Nat.zero_le _⟩ (c_plotOfN (h := h) (b := b) (s := b + 4 * h) (by omega)) rfl rfl rfl ?_
    refine G_iaddN (a := 57) (c := b + 4 * h) (s := 57 + b + 4 * h) dX0_sharesPlace_19 (by omega) ?_
    exact G_iret dX0_sharesPlace_20 ⟨Nat.zero_le _, Nat.zero_le _⟩ (rfl)
  · exact absurd c2 (nI_m1 (by omega))
end SP

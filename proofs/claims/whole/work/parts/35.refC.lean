/-! REFERENCE: all its fields; states kept; what would be -/
theorem mj_arrV_eq {cA : ClassId} {nn : Nat} {f f' : mj_S} (h : ∀ j, j < nn → f j = f' j) : arrV cA nn (fun j => .int (f j)) = arrV cA nn (fun j => .int (f' j)) := by
  unfold arrV
  congr 1
  exact congrArg Array.ofFn (funext fun j => congrArg Value.int (h j.val j.isLt))
/-- an array is what it holds in its range -/
theorem G_aeq {l : Launch} {cc : ByteArray} {M : mj_M} {b : Bool} {X : mj_R} {pc : Nat} {L : mj_L} {st : List Value} {w w' : mj_W} {k n o nn : Nat} {ty : FieldType} {f f' : mj_S} (hw : w[o]? = some (.inl (ty, (nn, .inl f)))) (he : ∀ j, j < nn → f j = f' j) (hw' : w.set o (.inl (ty, (nn, .inl f'))) = w') (kk : GG l cc M b X pc L st w' k n) : GG l cc M b X pc L st w k n := by
  intro p e s m args below meth c Q D A ad0 N F E ad cy H locs ls r P S hl
  subst hw'
  refine kk p e s m args below meth c Q D A ad0 N F E ad cy H locs ls (r.len (by simp)) ⟨?_, ?_, P.2.2.set hw⟩ S hl
  · rw [← mj_w_setA (ty := ty)]
    intro k0 q hq
    rw [List.getElem?_set] at hq
    split at hq
    · rename_i hk
      subst hk
      split at hq
      · cases hq
        have h1 := P.1 o _ (mj_w_get hw)
        have h1 : H[ad o]? = some (vp_cell (cy o) (nn, .inl f)) := h1
        show H[ad o]? = some (vp_cell (cy o) (nn, .inl f'))
        rw [h1]
        exact congrArg some (mj_arrV_eq he)
      · cases hq
    · exact P.1 k0 q hq
  · rw [← mj_w_setA (ty := ty)]
    exact P.2.1.set (mj_w_get hw)
abbrev MT : Type := Int32 → mj_S → mj_S → mj_S → Nat → mj_S → Int32 → mj_S → Nat → Nat → Int32 → Int32 → Int32 → Int32 → Int64 → mj_W
def mfs (p1 p2 p3 p5 p7 : Nat) (th : Int32) (m : Nat) (hs : Int32) (ln i : Nat) (sg fi se t3 : Int32) (hh : Int64) : List Value := [.int th, .ref p1, .ref p2, .ref p3, .int (nI m), .ref p5, .int hs, .ref p7, .int (nI ln), .int (nI i), .int sg, .int fi, .int se, .int t3, .long hh]
def MV (mp p1 p2 p3 p5 p7 : Nat) (Ω : MT) : Prop := ∀ th f sp sv m sn hs bf ln i sg fi se t3 hh, (Ω th f sp sv m sn hs bf ln i sg fi se t3 hh)[mp]? = some (.inr (4, mfs p1 p2 p3 p5 p7 th m hs ln i sg fi se t3 hh)) ∧ (Ω th f sp sv m sn hs bf ln i sg fi se t3 hh)[p1]? = some (.inl (.int, (157, .inl f))) ∧ (Ω th f sp sv m sn hs bf ln i sg fi se t3 hh)[p2]? = some (.inl (.int, (157, .inl sp))) ∧ (Ω th f sp sv m sn hs bf ln i sg fi se t3 hh)[p3]? = some (.inl (.int, (942, .inl sv))) ∧ (Ω th f sp sv m sn hs bf ln i sg fi se t3 hh)[p5]? = some (.inl (.int, (157, .inl sn))) ∧ (Ω th f sp sv m sn hs bf ln i sg fi se t3 hh)[p7]? = some (.inl (.int, (60, .inl bf))) ∧ (∀ th' m' hs' ln' i' sg' fi' se' t3' hh', (Ω th f sp sv m sn hs bf ln i sg fi se t3 hh).set mp (.inr (4, mfs p1 p2 p3 p5 p7 th' m' hs' ln' i' sg' fi' se' t3' hh')) = Ω th' f sp sv m' sn hs' bf ln' i' sg' fi' se' t3' hh') ∧ (∀ g, (Ω th f sp sv m sn hs bf ln i sg fi se t3 hh).set p1 (.inl (.int, (157, .inl g))) = Ω th g sp sv m sn hs bf ln i sg fi se t3 hh) ∧ (∀ g, (Ω th f sp sv m sn hs bf ln i sg fi se t3 hh).set p2 (.inl (.int, (157, .inl g))) = Ω th f g sv m sn hs bf ln i sg fi se t3 hh) ∧ (∀ g, (Ω th f sp sv m sn hs bf ln i sg fi se t3 hh).set p3 (.inl (.int, (942, .inl g))) = Ω th f sp g m sn hs bf ln i sg fi se t3 hh) ∧ (∀ g, (Ω th f sp sv m sn hs bf ln i sg fi se t3 hh).set p5 (.inl (.int, (157, .inl g))) = Ω th f sp sv m g hs bf ln i sg fi se t3 hh) ∧ (∀ g, (Ω th f sp sv m sn hs bf ln i sg fi se t3 hh).set p7 (.inl (.int, (60, .inl g))) = Ω th f sp sv m sn hs g ln i sg fi se t3 hh)
theorem MV.fv {mp p1 p2 p3 p5 p7 : Nat} {Ω : MT} (h : MV mp p1 p2 p3 p5 p7 Ω) (th : Int32) (sp sv : mj_S) (m : Nat) (sn : mj_S) (hs : Int32) (bf : mj_S) (ln i : Nat) (sg fi se t3 : Int32) (hh : Int64) : FV mp p1 (mfs p1 p2 p3 p5 p7 th m hs ln i sg fi se t3 hh) (fun f => Ω th f sp sv m sn hs bf ln i sg fi se t3 hh) := ⟨rfl, fun f => ⟨(h th f sp sv m sn hs bf ln i sg fi se t3 hh).1, (h th f sp sv m sn hs bf ln i sg fi se t3 hh).2.1, (h th f sp sv m sn hs bf ln i sg fi se t3 hh).2.2.2.2.2.2.2.1⟩⟩
/-- a row of n numbers laid into another from b on: where each number then stands -/
theorem blit_at (r : mj_S) (b : Nat) : ∀ (d c : Nat) (R : mj_S) (k : Nat), itr (fun i a => upd a (b + i) (r i)) d c R k = if b + c ≤ k ∧ k < b + c + d then r (k - b) else R k
  | 0, c, R, k => by rw [itr_0, if_neg (by omega)]
  | d + 1, c, R, k => by
    rw [itr_s, blit_at r b d (c + 1)]
    by_cases h1 : b + (c + 1) ≤ k ∧ k < b + (c + 1) + d
    · rw [if_pos h1, if_pos (by omega)]
    · rw [if_neg h1]
      by_cases h2 : k = b + c
      · subst h2; rw [upd_s, if_pos (by omega)]; congr 1; omega
      · rw [upd_n h2, if_neg (by omega)]
theorem take_at (R : mj_S) (b : Nat) : ∀ (d c : Nat) (r : mj_S) (k : Nat), itr (fun i a => upd a i (R (b + i))) d c r k = if c ≤ k ∧ k < c + d then R (b + k) else r k
  | 0, c, r, k => by rw [itr_0, if_neg (by omega)]
  | d + 1, c, r, k => by
    rw [itr_s, take_at R b d (c + 1)]
    by_cases h1 : c + 1 ≤ k ∧ k < c + 1 + d
    · rw [if_pos h1, if_pos (by omega)]
    · rw [if_neg h1]
      by_cases h2 : k = c
      · subst h2; rw [upd_s, if_pos (by omega)]
      · rw [upd_n h2, if_neg (by omega)]
theorem copy_at (R : mj_S) : ∀ (d c : Nat) (r : mj_S) (k : Nat), itr (fun i a => upd a i (R i)) d c r k = if c ≤ k ∧ k < c + d then R k else r k
  | 0, c, r, k => by rw [itr_0, if_neg (by omega)]
  | d + 1, c, r, k => by
    rw [itr_s, copy_at R d (c + 1)]
    by_cases h1 : c + 1 ≤ k ∧ k < c + 1 + d
    · rw [if_pos h1, if_pos (by omega)]
    · rw [if_neg h1]
      by_cases h2 : k = c
      · subst h2; rw [upd_s, if_pos (by omega)]
      · rw [upd_n h2, if_neg (by omega)]
/-- the oldest state is dropped: the others go down -/
theorem shift_at : ∀ (d c : Nat) (r : mj_S) (k : Nat), itr (fun i a => upd a i (a (157 + i))) d c r k = if c ≤ k ∧ k < c + d then r (157 + k) else r k
  | 0, c, r, k => by rw [itr_0, if_neg (by omega)]
  | d + 1, c, r, k => by
    rw [itr_s, shift_at d (c + 1)]
    by_cases h1 : c + 1 ≤ k ∧ k < c + 1 + d
    · rw [if_pos h1, if_pos (by omega), upd_n (by omega)]
    · rw [if_neg h1]
      by_cases h2 : k = c
      · subst h2; rw [upd_s, if_pos (by omega)]
      · rw [upd_n h2, if_neg (by omega)]
def s_shift (sv : mj_S) : mj_S := itr (fun i a => upd a i (a (157 + i))) 785 0 sv
def s_svm (m : Nat) : Nat := if m = 6 then 6 else m + 1
def s_save (f sv : mj_S) (m : Nat) : mj_S := if m = 6 then s_blit f (157 * 5) 157 (s_shift sv) else s_blit f (157 * m) 157 sv
section RC
variable {l : Launch} {mp p1 p2 p3 p5 p7 : Nat} {Ω : MT}
theorem c_within1 {w : mj_W} {v a b : Int32} (h : a ≤ v ∧ v ≤ b) : MC l yX4_within wsX4_within rmX4_within false [.int v, .int a, .int b] (w) (some (.int 1)) (w) := by
  refine mj_MC (cc := cX4_within) (nl := 3) (ret := (some .boolean)) (plainFor_of_name (by decide)) rfl (⟨_, rfl, rfl⟩) (Nat.le_of_ble_eq_true rfl) ?_
  show GG l cX4_within MX4_within false (.inl ((some (.int 1)), w)) 0 [some (.int v), some (.int a), some (.int b)] [] (w) 0 0
  refine G_iload_n dX4_within_0 rfl ?_
  refine G_iload_n dX4_within_1 rfl ?_
  refine G_icmp_lt 14 dX4_within_2 (by decide) (fun c2 => ?_) (fun c2 => ?_)
  · exact absurd h.1 (Int32.not_le.mpr c2)
  · refine G_iload_n dX4_within_5 rfl ?_
    refine G_iload_n dX4_within_6 rfl ?_
    refine G_icmp_gt 14 dX4_within_7 (by decide) (fun c7 => ?_) (fun c7 => ?_)
    · exact absurd h.2 (Int32.not_le.mpr c7)
    · refine G_iconst (v := 1) dX4_within_10 (by decide) ?_
      refine G_goto 15 dX4_within_11 (by decide) ?_
      exact G_iret dX4_within_15 ⟨Nat.zero_le _, Nat.zero_le _⟩ (rfl)
theorem c_within0 {w : mj_W} {v a b : Int32} (h : ¬ (a ≤ v ∧ v ≤ b)) : MC l yX4_within wsX4_within rmX4_within false [.int v, .int a, .int b] (w) (some (.int 0)) (w) := by
  refine mj_MC (cc := cX4_within) (nl := 3) (ret := (some .boolean)) (plainFor_of_name (by decide)) rfl (⟨_, rfl, rfl⟩) (Nat.le_of_ble_eq_true rfl) ?_
  show GG l cX4_within MX4_within false (.inl ((some (.int 0)), w)) 0 [some (.int v), some (.int a), some (.int b)] [] (w) 0 0
  refine G_iload_n dX4_within_0 rfl ?_
  refine G_iload_n dX4_within_1 rfl ?_
  refine G_icmp_lt 14 dX4_within_2 (by decide) (fun c2 => ?_) (fun c2 => ?_)
  · refine G_iconst (v := 0) dX4_within_14 (by decide) ?_
    exact G_iret dX4_within_15 ⟨Nat.zero_le _, Nat.zero_le _⟩ (rfl)
  · refine G_iload_n dX4_within_5 rfl ?_
    refine G_iload_n dX4_within_6 rfl ?_
    refine G_icmp_gt 14 dX4_within_7 (by decide) (fun c7 => ?_) (fun c7 => ?_)
    · refine G_iconst (v := 0) dX4_within_14 (by decide) ?_
      exact G_iret dX4_within_15 ⟨Nat.zero_le _, Nat.zero_le _⟩ (rfl)
    · exact absurd ⟨Int32.not_lt.mp c2, Int32.not_lt.mp c7⟩ h
theorem c_isHearth1 {w : mj_W} {x : Int32} (h : (0 ≤ x ∧ x ≤ 4)) : MC l yX4_isHearth wsX4_isHearth rmX4_isHearth false [.int x] (w) (some (.int 1)) (w) := by
  refine mj_MC (cc := cX4_isHearth) (nl := 1) (ret := (some .boolean)) (plainFor_of_name (by decide)) rfl (⟨_, rfl, rfl⟩) (Nat.le_of_ble_eq_true rfl) ?_
  show GG l cX4_isHearth MX4_isHearth false (.inl ((some (.int 1)), w)) 0 [some (.int x)] [] (w) 0 0
  refine G_iload_n dX4_isHearth_0 rfl ?_
  refine G_iconst (v := 0) dX4_isHearth_1 (by decide) ?_
  refine G_iconst (v := 4) dX4_isHearth_2 (by decide) ?_
  refine G_callSi dX4_isHearth_3 kX4_isHearth_X4_within ⟨rfl, rfl⟩ ⟨Nat.zero_le _, Nat.zero_le _⟩ (c_within1 h) rfl rfl rfl ?_
  exact G_iret dX4_isHearth_6 ⟨Nat.zero_le _, Nat.zero_le _⟩ (rfl)
theorem c_isHearth0 {w : mj_W} {x : Int32} (h : ¬ (0 ≤ x ∧ x ≤ 4)) : MC l yX4_isHearth wsX4_isHearth rmX4_isHearth false [.int x] (w) (some (.int 0)) (w) := by
  refine mj_MC (cc := cX4_isHearth) (nl := 1) (ret := (some .boolean)) (plainFor_of_name (by decide)) rfl (⟨_, rfl, rfl⟩) (Nat.le_of_ble_eq_true rfl) ?_
  show GG l cX4_isHearth MX4_isHearth false (.inl ((some (.int 0)), w)) 0 [some (.int x)] [] (w) 0 0
  refine G_iload_n dX4_isHearth_0 rfl ?_
  refine G_iconst (v := 0) dX4_isHearth_1 (by decide) ?_
  refine G_iconst (v := 4) dX4_isHearth_2 (by decide) ?_
  refine G_callSi dX4_isHearth_3 kX4_isHearth_X4_within ⟨rfl, rfl⟩ ⟨Nat.zero_le _, Nat.zero_le _⟩ (c_within0 h) rfl rfl rfl ?_
  exact G_iret dX4_isHearth_6 ⟨Nat.zero_le _, Nat.zero_le _⟩ (rfl)
theorem c_isBank1 {w : mj_W} {x : Int32} (h : (0 ≤ x ∧ x ≤ 3)) : MC l yX4_isBank wsX4_isBank rmX4_isBank false [.int x] (w) (some (.int 1)) (w) := by
  refine mj_MC (cc := cX4_isBank) (nl := 1) (ret := (some .boolean)) (plainFor_of_name (by decide)) rfl (⟨_, rfl, rfl⟩) (Nat.le_of_ble_eq_true rfl) ?_
  show GG l cX4_isBank MX4_isBank false (.inl ((some (.int 1)), w)) 0 [some (.int x)] [] (w) 0 0
  refine G_iload_n dX4_isBank_0 rfl ?_
  refine G_iconst (v := 0) dX4_isBank_1 (by decide) ?_
  refine G_iconst (v := 3) dX4_isBank_2 (by decide) ?_
  refine G_callSi dX4_isBank_3 kX4_isBank_X4_within ⟨rfl, rfl⟩ ⟨Nat.zero_le _, Nat.zero_le _⟩ (c_within1 h) rfl rfl rfl ?_
  exact G_iret dX4_isBank_6 ⟨Nat.zero_le _, Nat.zero_le _⟩ (rfl)
theorem c_isBank0 {w : mj_W} {x : Int32} (h : ¬ (0 ≤ x ∧ x ≤ 3)) : MC l yX4_isBank wsX4_isBank rmX4_isBank false [.int x] (w) (some (.int 0)) (w) := by
  refine mj_MC (cc := cX4_isBank) (nl := 1) (ret := (some .boolean)) (plainFor_of_name (by decide)) rfl (⟨_, rfl, rfl⟩) (Nat.le_of_ble_eq_true rfl) ?_
  show GG l cX4_isBank MX4_isBank false (.inl ((some (.int 0)), w)) 0 [some (.int x)] [] (w) 0 0
  refine G_iload_n dX4_isBank_0 rfl ?_
  refine G_iconst (v := 0) dX4_isBank_1 (by decide) ?_
  refine G_iconst (v := 3) dX4_isBank_2 (by decide) ?_
  refine G_callSi dX4_isBank_3 kX4_isBank_X4_within ⟨rfl, rfl⟩ ⟨Nat.zero_le _, Nat.zero_le _⟩ (c_within0 h) rfl rfl rfl ?_
  exact G_iret dX4_isBank_6 ⟨Nat.zero_le _, Nat.zero_le _⟩ (rfl)
theorem c_isCutter1 {w : mj_W} {x : Int32} (h : (0 ≤ x ∧ x ≤ 5)) : MC l yX4_isCutter wsX4_isCutter rmX4_isCutter false [.int x] (w) (some (.int 1)) (w) := by
  refine mj_MC (cc := cX4_isCutter) (nl := 1) (ret := (some .boolean)) (plainFor_of_name (by decide)) rfl (⟨_, rfl, rfl⟩) (Nat.le_of_ble_eq_true rfl) ?_
  show GG l cX4_isCutter MX4_isCutter false (.inl ((some (.int 1)), w)) 0 [some (.int x)] [] (w) 0 0
  refine G_iload_n dX4_isCutter_0 rfl ?_
  refine G_iconst (v := 0) dX4_isCutter_1 (by decide) ?_
  refine G_iconst (v := 5) dX4_isCutter_2 (by decide) ?_
  refine G_callSi dX4_isCutter_3 kX4_isCutter_X4_within ⟨rfl, rfl⟩ ⟨Nat.zero_le _, Nat.zero_le _⟩ (c_within1 h) rfl rfl rfl ?_
  exact G_iret dX4_isCutter_6 ⟨Nat.zero_le _, Nat.zero_le _⟩ (rfl)
theorem c_isCutter0 {w : mj_W} {x : Int32} (h : ¬ (0 ≤ x ∧ x ≤ 5)) : MC l yX4_isCutter wsX4_isCutter rmX4_isCutter false [.int x] (w) (some (.int 0)) (w) := by
  refine mj_MC (cc := cX4_isCutter) (nl := 1) (ret := (some .boolean)) (plainFor_of_name (by decide)) rfl (⟨_, rfl, rfl⟩) (Nat.le_of_ble_eq_true rfl) ?_
  show GG l cX4_isCutter MX4_isCutter false (.inl ((some (.int 0)), w)) 0 [some (.int x)] [] (w) 0 0
  refine G_iload_n dX4_isCutter_0 rfl ?_
  refine G_iconst (v := 0) dX4_isCutter_1 (by decide) ?_
  refine G_iconst (v := 5) dX4_isCutter_2 (by decide) ?_
  refine G_callSi dX4_isCutter_3 kX4_isCutter_X4_within ⟨rfl, rfl⟩ ⟨Nat.zero_le _, Nat.zero_le _⟩ (c_within0 h) rfl rfl rfl ?_
  exact G_iret dX4_isCutter_6 ⟨Nat.zero_le _, Nat.zero_le _⟩ (rfl)
theorem c_leastOf0 {w : mj_W}  : MC l yX4_leastOf wsX4_leastOf rmX4_leastOf false [.int 0] (w) (some (.int 0)) (w) := by
  refine mj_MC (cc := cX4_leastOf) (nl := 1) (ret := (some .int)) (plainFor_of_name (by decide)) rfl (⟨_, rfl, rfl⟩) (Nat.le_of_ble_eq_true rfl) ?_
  show GG l cX4_leastOf MX4_leastOf false (.inl ((some (.int 0)), w)) 0 [some (.int 0)] [] (w) 0 0
  refine G_iload_n dX4_leastOf_0 rfl ?_
  refine G_iconst (v := 2) dX4_leastOf_1 (by decide) ?_
  refine G_icmp_neN (a := 0) (c := 2) 9 dX4_leastOf_2 (by decide) (by omega) (fun c2 => ?_) (fun c2 => ?_)
  · refine G_iconst (v := 0) dX4_leastOf_9 (by decide) ?_
    exact G_iret dX4_leastOf_10 ⟨Nat.zero_le _, Nat.zero_le _⟩ (rfl)
  · exact (show False by omega).elim
theorem c_leastOf1 {w : mj_W}  : MC l yX4_leastOf wsX4_leastOf rmX4_leastOf false [.int 1] (w) (some (.int 0)) (w) := by
  refine mj_MC (cc := cX4_leastOf) (nl := 1) (ret := (some .int)) (plainFor_of_name (by decide)) rfl (⟨_, rfl, rfl⟩) (Nat.le_of_ble_eq_true rfl) ?_
  show GG l cX4_leastOf MX4_leastOf false (.inl ((some (.int 0)), w)) 0 [some (.int 1)] [] (w) 0 0
  refine G_iload_n dX4_leastOf_0 rfl ?_
  refine G_iconst (v := 2) dX4_leastOf_1 (by decide) ?_
  refine G_icmp_neN (a := 1) (c := 2) 9 dX4_leastOf_2 (by decide) (by omega) (fun c2 => ?_) (fun c2 => ?_)
  · refine G_iconst (v := 0) dX4_leastOf_9 (by decide) ?_
    exact G_iret dX4_leastOf_10 ⟨Nat.zero_le _, Nat.zero_le _⟩ (rfl)
  · exact (show False by omega).elim
theorem c_leastOf2 {w : mj_W}  : MC l yX4_leastOf wsX4_leastOf rmX4_leastOf false [.int 2] (w) (some (.int 1)) (w) := by
  refine mj_MC (cc := cX4_leastOf) (nl := 1) (ret := (some .int)) (plainFor_of_name (by decide)) rfl (⟨_, rfl, rfl⟩) (Nat.le_of_ble_eq_true rfl) ?_
  show GG l cX4_leastOf MX4_leastOf false (.inl ((some (.int 1)), w)) 0 [some (.int 2)] [] (w) 0 0
  refine G_iload_n dX4_leastOf_0 rfl ?_
  refine G_iconst (v := 2) dX4_leastOf_1 (by decide) ?_
  refine G_icmp_neN (a := 2) (c := 2) 9 dX4_leastOf_2 (by decide) (by omega) (fun c2 => ?_) (fun c2 => ?_)
  · exact (show False by omega).elim
  · refine G_iconst (v := 1) dX4_leastOf_5 (by decide) ?_
    refine G_goto 10 dX4_leastOf_6 (by decide) ?_
    exact G_iret dX4_leastOf_10 ⟨Nat.zero_le _, Nat.zero_le _⟩ (rfl)
theorem c_mostOf0 {w : mj_W}  : MC l yX4_mostOf wsX4_mostOf rmX4_mostOf false [.int 0] (w) (some (.int 9)) (w) := by
  refine mj_MC (cc := cX4_mostOf) (nl := 1) (ret := (some .int)) (plainFor_of_name (by decide)) rfl (⟨_, rfl, rfl⟩) (Nat.le_of_ble_eq_true rfl) ?_
  show GG l cX4_mostOf MX4_mostOf false (.inl ((some (.int 9)), w)) 0 [some (.int 0)] [] (w) 0 0
  refine G_iload_n dX4_mostOf_0 rfl ?_
  refine G_if_neN (a := 0) 9 dX4_mostOf_1 (by decide) (by omega) (fun c1 => ?_) (fun c1 => ?_)
  · exact (show False by omega).elim
  · refine G_bipush (v := 9) dX4_mostOf_4 (by decide) ?_
    refine G_goto 21 dX4_mostOf_6 (by decide) ?_
    exact G_iret dX4_mostOf_21 ⟨Nat.zero_le _, Nat.zero_le _⟩ (rfl)
theorem c_mostOf1 {w : mj_W}  : MC l yX4_mostOf wsX4_mostOf rmX4_mostOf false [.int 1] (w) (some (.int 50)) (w) := by
  refine mj_MC (cc := cX4_mostOf) (nl := 1) (ret := (some .int)) (plainFor_of_name (by decide)) rfl (⟨_, rfl, rfl⟩) (Nat.le_of_ble_eq_true rfl) ?_
  show GG l cX4_mostOf MX4_mostOf false (.inl ((some (.int 50)), w)) 0 [some (.int 1)] [] (w) 0 0
  refine G_iload_n dX4_mostOf_0 rfl ?_
  refine G_if_neN (a := 1) 9 dX4_mostOf_1 (by decide) (by omega) (fun c1 => ?_) (fun c1 => ?_)
  · refine G_iload_n dX4_mostOf_9 rfl ?_
    refine G_iconst (v := 1) dX4_mostOf_10 (by decide) ?_
    refine G_icmp_neN (a := 1) (c := 1) 19 dX4_mostOf_11 (by decide) (by omega) (fun c11 => ?_) (fun c11 => ?_)
    · exact (show False by omega).elim
    · refine G_bipush (v := 50) dX4_mostOf_14 (by decide) ?_
      refine G_goto 21 dX4_mostOf_16 (by decide) ?_
      exact G_iret dX4_mostOf_21 ⟨Nat.zero_le _, Nat.zero_le _⟩ (rfl)
  · exact (show False by omega).elim
theorem c_mostOf2 {w : mj_W}  : MC l yX4_mostOf wsX4_mostOf rmX4_mostOf false [.int 2] (w) (some (.int 30)) (w) := by
  refine mj_MC (cc := cX4_mostOf) (nl := 1) (ret := (some .int)) (plainFor_of_name (by decide)) rfl (⟨_, rfl, rfl⟩) (Nat.le_of_ble_eq_true rfl) ?_
  show GG l cX4_mostOf MX4_mostOf false (.inl ((some (.int 30)), w)) 0 [some (.int 2)] [] (w) 0 0
  refine G_iload_n dX4_mostOf_0 rfl ?_
  refine G_if_neN (a := 2) 9 dX4_mostOf_1 (by decide) (by omega) (fun c1 => ?_) (fun c1 => ?_)
  · refine G_iload_n dX4_mostOf_9 rfl ?_
    refine G_iconst (v := 1) dX4_mostOf_10 (by decide) ?_
    refine G_icmp_neN (a := 2) (c := 1) 19 dX4_mostOf_11 (by decide) (by omega) (fun c11 => ?_) (fun c11 => ?_)
    · refine G_bipush (v := 30) dX4_mostOf_19 (by decide) ?_
      exact G_iret dX4_mostOf_21 ⟨Nat.zero_le _, Nat.zero_le _⟩ (rfl)
    · exact (show False by omega).elim
  · exact (show False by omega).elim
theorem m_thrown (hΩ : MV mp p1 p2 p3 p5 p7 Ω) {th hs sg fi se t3 : Int32} {f sp sv sn bf : mj_S} {m ln i : Nat} {hh : Int64} : MC l yX4_thrown wsX4_thrown rmX4_thrown false [.ref mp] (Ω th f sp sv m sn hs bf ln i sg fi se t3 hh) (some (.int th)) (Ω th f sp sv m sn hs bf ln i sg fi se t3 hh) := by
  refine mj_MC (cc := cX4_thrown) (nl := 1) (ret := (some .int)) (plainFor_of_name (by decide)) rfl (⟨_, rfl, rfl⟩) (Nat.le_of_ble_eq_true rfl) ?_
  show GG l cX4_thrown MX4_thrown false (.inl ((some (.int th)), Ω th f sp sv m sn hs bf ln i sg fi se t3 hh)) 0 [some (.ref mp)] [] (Ω th f sp sv m sn hs bf ln i sg fi se t3 hh) 0 0
  refine G_aload_n dX4_thrown_0 rfl ?_
  refine G_getf dX4_thrown_1 fX4_thrown_25 ((hΩ _ _ _ _ _ _ _ _ _ _ _ _ _ _ _).1) (rfl) ?_
  exact G_iret dX4_thrown_4 ⟨Nat.zero_le _, Nat.zero_le _⟩ (rfl)
theorem m_fails (hΩ : MV mp p1 p2 p3 p5 p7 Ω) {th hs sg fi se t3 : Int32} {f sp sv sn bf : mj_S} {m ln i : Nat} {hh : Int64} {c : Int32} : MC l yX4_fails wsX4_fails rmX4_fails false [.ref mp, .int c] (Ω th f sp sv m sn hs bf ln i sg fi se t3 hh) (some (.int 0)) (Ω c f sp sv m sn hs bf ln i sg fi se t3 hh) := by
  refine mj_MC (cc := cX4_fails) (nl := 2) (ret := (some .int)) (plainFor_of_name (by decide)) rfl (⟨_, rfl, rfl⟩) (Nat.le_of_ble_eq_true rfl) ?_
  show GG l cX4_fails MX4_fails false (.inl ((some (.int 0)), Ω c f sp sv m sn hs bf ln i sg fi se t3 hh)) 0 [some (.ref mp), some (.int c)] [] (Ω th f sp sv m sn hs bf ln i sg fi se t3 hh) 0 0
  refine G_aload_n dX4_fails_0 rfl ?_
  refine G_iload_n dX4_fails_1 rfl ?_
  refine G_putf dX4_fails_2 pX4_fails_25 ((hΩ _ _ _ _ _ _ _ _ _ _ _ _ _ _ _).1) (fun _ => ⟨rfl, rfl⟩) (by simp [mfs]) ((hΩ _ _ _ _ _ _ _ _ _ _ _ _ _ _ _).2.2.2.2.2.2.1 _ _ _ _ _ _ _ _ _ _) ?_
  refine G_iconst (v := 0) dX4_fails_5 (by decide) ?_
  exact G_iret dX4_fails_6 ⟨Nat.zero_le _, Nat.zero_le _⟩ (rfl)
theorem ml_putAside (hΩ : MV mp p1 p2 p3 p5 p7 Ω) {th hs sg fi se t3 : Int32} {f sv sn bf : mj_S} {m ln i : Nat} {hh : Int64} {X : mj_R} {F : mj_S}  (K : ∀ y : Option Value, GG l cX4_putAside MX4_putAside false X 27 [some (.ref mp), y] [] (Ω th f F sv m sn hs bf ln i sg fi se t3 hh) 0 0) : ∀ (d c : Nat) (sp : mj_S), c + d = 157 → F = itr (fun i a => upd a i (f i)) d c sp → GG l cX4_putAside MX4_putAside false X 2 [some (.ref mp), some (.int (nI (c)))] [] (Ω th f sp sv m sn hs bf ln i sg fi se t3 hh) 0 0
  | 0, c, sp, hc, hr => by
    refine G_iload_n dX4_putAside_2 rfl ?_
    refine G_sipush (v := 157) dX4_putAside_3 (by decide) ?_
    refine G_icmp_geN (a := c) (c := 157) 27 dX4_putAside_6 (by decide) (by omega) (fun c6 => ?_) (fun c6 => ?_)
    · rw [itr_0] at hr
      subst hr
      exact K _
    · exact (show False by omega).elim
  | d + 1, c, sp, hc, hr => by
    refine G_iload_n dX4_putAside_2 rfl ?_
    refine G_sipush (v := 157) dX4_putAside_3 (by decide) ?_
    refine G_icmp_geN (a := c) (c := 157) 27 dX4_putAside_6 (by decide) (by omega) (fun c6 => ?_) (fun c6 => ?_)
    · exact (show False by omega).elim
    · refine G_aload_n dX4_putAside_9 rfl ?_
      refine G_getf dX4_putAside_10 fX4_putAside_13 ((hΩ _ _ _ _ _ _ _ _ _ _ _ _ _ _ _).1) (rfl) ?_
      refine G_iload_n dX4_putAside_13 rfl ?_
      refine G_aload_n dX4_putAside_14 rfl ?_
      refine G_getf dX4_putAside_15 fX4_putAside_7 ((hΩ _ _ _ _ _ _ _ _ _ _ _ _ _ _ _).1) (rfl) ?_
      refine G_iload_n dX4_putAside_18 rfl ?_
      refine G_ialdN (j := c) dX4_putAside_19 ((hΩ _ _ _ _ _ _ _ _ _ _ _ _ _ _ _).2.1) (by omega) ?_
      obtain ⟨f1, ef1⟩ : ∃ z : mj_S, z = upd sp (c) (f (c)) := ⟨_, rfl⟩
      refine G_iastN (j := c) dX4_putAside_20 ((hΩ _ _ _ _ _ _ _ _ _ _ _ _ _ _ _).2.2.1) (by omega) (((hΩ _ _ _ _ _ _ _ _ _ _ _ _ _ _ _).2.2.2.2.2.2.2.2.1 _).trans (congrArg (fun z => Ω th f z sv m sn hs bf ln i sg fi se t3 hh) ef1.symm)) ?_
      refine G_iincN (a := c) (s := c + 1) dX4_putAside_21 rfl (by omega) (L' := [some (.ref mp), some (.int (nI (c + 1)))]) rfl ?_
      refine G_goto 2 dX4_putAside_24 (by decide) ?_
      exact ml_putAside hΩ K d (c + 1) _ (by omega) (by rw [hr, itr_s, ef1])
theorem m_putAside (hΩ : MV mp p1 p2 p3 p5 p7 Ω) {th hs sg fi se t3 : Int32} {f sp sv sn bf : mj_S} {m ln i : Nat} {hh : Int64} : MC l yX4_putAside wsX4_putAside rmX4_putAside false [.ref mp] (Ω th f sp sv m sn hs bf ln i sg fi se t3 hh) none (Ω th f f sv m sn hs bf ln i sg fi se t3 hh) := by
  refine mj_MC (cc := cX4_putAside) (nl := 2) (ret := none) (plainFor_of_name (by decide)) rfl (rfl) (Nat.le_of_ble_eq_true rfl) ?_
  show GG l cX4_putAside MX4_putAside false (.inl (none, Ω th f f sv m sn hs bf ln i sg fi se t3 hh)) 0 [some (.ref mp), none] [] (Ω th f sp sv m sn hs bf ln i sg fi se t3 hh) 0 0
  refine G_iconst (v := 0) dX4_putAside_0 (by decide) ?_
  refine G_istore_n dX4_putAside_1 rfl (L' := [some (.ref mp), some (.int 0)]) rfl ?_
  refine ml_putAside hΩ (F := itr (fun i a => upd a i (f i)) 157 0 sp) (fun y => ?_) 157 0 sp (by omega) rfl
  refine G_aeq (f' := f) ((hΩ _ _ _ _ _ _ _ _ _ _ _ _ _ _ _).2.2.1) (fun j hj => ?_) ((hΩ _ _ _ _ _ _ _ _ _ _ _ _ _ _ _).2.2.2.2.2.2.2.2.1 _) ?_
  · rw [copy_at, if_pos (by omega)]
  exact G_vret dX4_putAside_27 ⟨Nat.zero_le _, Nat.zero_le _⟩ (rfl)
theorem ml_takeBack (hΩ : MV mp p1 p2 p3 p5 p7 Ω) {th hs sg fi se t3 : Int32} {sp sv sn bf : mj_S} {m ln i : Nat} {hh : Int64} {X : mj_R} {F : mj_S}  (K : ∀ y : Option Value, GG l cX4_takeBack MX4_takeBack false X 27 [some (.ref mp), y] [] (Ω th F sp sv m sn hs bf ln i sg fi se t3 hh) 0 0) : ∀ (d c : Nat) (f : mj_S), c + d = 157 → F = itr (fun i a => upd a i (sp i)) d c f → GG l cX4_takeBack MX4_takeBack false X 2 [some (.ref mp), some (.int (nI (c)))] [] (Ω th f sp sv m sn hs bf ln i sg fi se t3 hh) 0 0
  | 0, c, f, hc, hr => by
    refine G_iload_n dX4_takeBack_2 rfl ?_
    refine G_sipush (v := 157) dX4_takeBack_3 (by decide) ?_
    refine G_icmp_geN (a := c) (c := 157) 27 dX4_takeBack_6 (by decide) (by omega) (fun c6 => ?_) (fun c6 => ?_)
    · rw [itr_0] at hr
      subst hr
      exact K _
    · exact (show False by omega).elim
  | d + 1, c, f, hc, hr => by
    refine G_iload_n dX4_takeBack_2 rfl ?_
    refine G_sipush (v := 157) dX4_takeBack_3 (by decide) ?_
    refine G_icmp_geN (a := c) (c := 157) 27 dX4_takeBack_6 (by decide) (by omega) (fun c6 => ?_) (fun c6 => ?_)
    · exact (show False by omega).elim
    · refine G_aload_n dX4_takeBack_9 rfl ?_
      refine G_getf dX4_takeBack_10 fX4_takeBack_7 ((hΩ _ _ _ _ _ _ _ _ _ _ _ _ _ _ _).1) (rfl) ?_
      refine G_iload_n dX4_takeBack_13 rfl ?_
      refine G_aload_n dX4_takeBack_14 rfl ?_
      refine G_getf dX4_takeBack_15 fX4_takeBack_13 ((hΩ _ _ _ _ _ _ _ _ _ _ _ _ _ _ _).1) (rfl) ?_
      refine G_iload_n dX4_takeBack_18 rfl ?_
      refine G_ialdN (j := c) dX4_takeBack_19 ((hΩ _ _ _ _ _ _ _ _ _ _ _ _ _ _ _).2.2.1) (by omega) ?_
      obtain ⟨f1, ef1⟩ : ∃ z : mj_S, z = upd f (c) (sp (c)) := ⟨_, rfl⟩
      refine G_iastN (j := c) dX4_takeBack_20 ((hΩ _ _ _ _ _ _ _ _ _ _ _ _ _ _ _).2.1) (by omega) (((hΩ _ _ _ _ _ _ _ _ _ _ _ _ _ _ _).2.2.2.2.2.2.2.1 _).trans (congrArg (fun z => Ω th z sp sv m sn hs bf ln i sg fi se t3 hh) ef1.symm)) ?_
      refine G_iincN (a := c) (s := c + 1) dX4_takeBack_21 rfl (by omega) (L' := [some (.ref mp), some (.int (nI (c + 1)))]) rfl ?_
      refine G_goto 2 dX4_takeBack_24 (by decide) ?_
      exact ml_takeBack hΩ K d (c + 1) _ (by omega) (by rw [hr, itr_s, ef1])
theorem m_takeBack (hΩ : MV mp p1 p2 p3 p5 p7 Ω) {th hs sg fi se t3 : Int32} {f sp sv sn bf : mj_S} {m ln i : Nat} {hh : Int64} : MC l yX4_takeBack wsX4_takeBack rmX4_takeBack false [.ref mp] (Ω th f sp sv m sn hs bf ln i sg fi se t3 hh) none (Ω th sp sp sv m sn hs bf ln i sg fi se t3 hh) := by
  refine mj_MC (cc := cX4_takeBack) (nl := 2) (ret := none) (plainFor_of_name (by decide)) rfl (rfl) (Nat.le_of_ble_eq_true rfl) ?_
  show GG l cX4_takeBack MX4_takeBack false (.inl (none, Ω th sp sp sv m sn hs bf ln i sg fi se t3 hh)) 0 [some (.ref mp), none] [] (Ω th f sp sv m sn hs bf ln i sg fi se t3 hh) 0 0
  refine G_iconst (v := 0) dX4_takeBack_0 (by decide) ?_
  refine G_istore_n dX4_takeBack_1 rfl (L' := [some (.ref mp), some (.int 0)]) rfl ?_
  refine ml_takeBack hΩ (F := itr (fun i a => upd a i (sp i)) 157 0 f) (fun y => ?_) 157 0 f (by omega) rfl
  refine G_aeq (f' := sp) ((hΩ _ _ _ _ _ _ _ _ _ _ _ _ _ _ _).2.1) (fun j hj => ?_) ((hΩ _ _ _ _ _ _ _ _ _ _ _ _ _ _ _).2.2.2.2.2.2.2.1 _) ?_
  · rw [copy_at, if_pos (by omega)]
  exact G_vret dX4_takeBack_27 ⟨Nat.zero_le _, Nat.zero_le _⟩ (rfl)
theorem ml_shift (hΩ : MV mp p1 p2 p3 p5 p7 Ω) {th hs sg fi se t3 : Int32} {f sp sn bf : mj_S} {m ln i : Nat} {hh : Int64} {X : mj_R} {F : mj_S}  (K : ∀ y : Option Value, GG l cX4_save MX4_save false X 40 [some (.ref mp), y] [] (Ω th f sp F m sn hs bf ln i sg fi se t3 hh) 0 0) : ∀ (d c : Nat) (sv : mj_S), c + d = 785 → F = itr (fun i a => upd a i (a (157 + i))) d c sv → GG l cX4_save MX4_save false X 11 [some (.ref mp), some (.int (nI (c)))] [] (Ω th f sp sv m sn hs bf ln i sg fi se t3 hh) 0 0
  | 0, c, sv, hc, hr => by
    refine G_iload_n dX4_save_11 rfl ?_
    refine G_sipush (v := 785) dX4_save_12 (by decide) ?_
    refine G_icmp_geN (a := c) (c := 785) 40 dX4_save_15 (by decide) (by omega) (fun c15 => ?_) (fun c15 => ?_)
    · rw [itr_0] at hr
      subst hr
      exact K _
    · exact (show False by omega).elim
  | d + 1, c, sv, hc, hr => by
    refine G_iload_n dX4_save_11 rfl ?_
    refine G_sipush (v := 785) dX4_save_12 (by decide) ?_
    refine G_icmp_geN (a := c) (c := 785) 40 dX4_save_15 (by decide) (by omega) (fun c15 => ?_) (fun c15 => ?_)
    · exact (show False by omega).elim
    · refine G_aload_n dX4_save_18 rfl ?_
      refine G_getf dX4_save_19 fX4_save_16 ((hΩ _ _ _ _ _ _ _ _ _ _ _ _ _ _ _).1) (rfl) ?_
      refine G_iload_n dX4_save_22 rfl ?_
      refine G_aload_n dX4_save_23 rfl ?_
      refine G_getf dX4_save_24 fX4_save_16 ((hΩ _ _ _ _ _ _ _ _ _ _ _ _ _ _ _).1) (rfl) ?_
      refine G_iload_n dX4_save_27 rfl ?_
      refine G_sipush (v := 157) dX4_save_28 (by decide) ?_
      refine G_iaddN (a := c) (c := 157) (s := 157 + c) dX4_save_31 (by omega) ?_
      refine G_ialdN (j := 157 + c) dX4_save_32 ((hΩ _ _ _ _ _ _ _ _ _ _ _ _ _ _ _).2.2.2.1) (by omega) ?_
      obtain ⟨f1, ef1⟩ : ∃ z : mj_S, z = upd sv (c) (sv (157 + c)) := ⟨_, rfl⟩
      refine G_iastN (j := c) dX4_save_33 ((hΩ _ _ _ _ _ _ _ _ _ _ _ _ _ _ _).2.2.2.1) (by omega) (((hΩ _ _ _ _ _ _ _ _ _ _ _ _ _ _ _).2.2.2.2.2.2.2.2.2.1 _).trans (congrArg (fun z => Ω th f sp z m sn hs bf ln i sg fi se t3 hh) ef1.symm)) ?_
      refine G_iincN (a := c) (s := c + 1) dX4_save_34 rfl (by omega) (L' := [some (.ref mp), some (.int (nI (c + 1)))]) rfl ?_
      refine G_goto 11 dX4_save_37 (by decide) ?_
      exact ml_shift hΩ K d (c + 1) _ (by omega) (by rw [hr, itr_s, ef1])
theorem ml_blit (hΩ : MV mp p1 p2 p3 p5 p7 Ω) {th hs sg fi se t3 : Int32} {f sp sn bf : mj_S} {m ln i : Nat} {hh : Int64} {X : mj_R} {F : mj_S} (hm : m < 6) (K : ∀ y : Option Value, GG l cX4_save MX4_save false X 86 [some (.ref mp), y] [] (Ω th f sp F m sn hs bf ln i sg fi se t3 hh) 0 0) : ∀ (d c : Nat) (sv : mj_S), c + d = 157 → F = itr (fun i a => upd a (157 * m + i) (f i)) d c sv → GG l cX4_save MX4_save false X 52 [some (.ref mp), some (.int (nI (c)))] [] (Ω th f sp sv m sn hs bf ln i sg fi se t3 hh) 0 0
  | 0, c, sv, hc, hr => by
    refine G_iload_n dX4_save_52 rfl ?_
    refine G_sipush (v := 157) dX4_save_53 (by decide) ?_
    refine G_icmp_geN (a := c) (c := 157) 86 dX4_save_56 (by decide) (by omega) (fun c56 => ?_) (fun c56 => ?_)
    · rw [itr_0] at hr
      subst hr
      exact K _
    · exact (show False by omega).elim
  | d + 1, c, sv, hc, hr => by
    refine G_iload_n dX4_save_52 rfl ?_
    refine G_sipush (v := 157) dX4_save_53 (by decide) ?_
    refine G_icmp_geN (a := c) (c := 157) 86 dX4_save_56 (by decide) (by omega) (fun c56 => ?_) (fun c56 => ?_)
    · exact (show False by omega).elim
    · refine G_aload_n dX4_save_59 rfl ?_
      refine G_getf dX4_save_60 fX4_save_16 ((hΩ _ _ _ _ _ _ _ _ _ _ _ _ _ _ _).1) (rfl) ?_
      refine G_aload_n dX4_save_63 rfl ?_
      refine G_getf dX4_save_64 fX4_save_33 ((hΩ _ _ _ _ _ _ _ _ _ _ _ _ _ _ _).1) (rfl) ?_
      refine G_sipush (v := 157) dX4_save_67 (by decide) ?_
      refine G_imulN (a := m) (c := 157) (s := 157 * m) dX4_save_70 (by omega) ?_
      refine G_iload_n dX4_save_71 rfl ?_
      refine G_iaddN (a := 157 * m) (c := c) (s := c + 157 * m) dX4_save_72 (by omega) ?_
      refine G_aload_n dX4_save_73 rfl ?_
      refine G_getf dX4_save_74 fX4_save_7 ((hΩ _ _ _ _ _ _ _ _ _ _ _ _ _ _ _).1) (rfl) ?_
      refine G_iload_n dX4_save_77 rfl ?_
      refine G_ialdN (j := c) dX4_save_78 ((hΩ _ _ _ _ _ _ _ _ _ _ _ _ _ _ _).2.1) (by omega) ?_
      obtain ⟨f1, ef1⟩ : ∃ z : mj_S, z = upd sv (c + 157 * m) (f (c)) := ⟨_, rfl⟩
      refine G_iastN (j := c + 157 * m) dX4_save_79 ((hΩ _ _ _ _ _ _ _ _ _ _ _ _ _ _ _).2.2.2.1) (by omega) (((hΩ _ _ _ _ _ _ _ _ _ _ _ _ _ _ _).2.2.2.2.2.2.2.2.2.1 _).trans (congrArg (fun z => Ω th f sp z m sn hs bf ln i sg fi se t3 hh) ef1.symm)) ?_
      refine G_iincN (a := c) (s := c + 1) dX4_save_80 rfl (by omega) (L' := [some (.ref mp), some (.int (nI (c + 1)))]) rfl ?_
      refine G_goto 52 dX4_save_83 (by decide) ?_
      exact ml_blit hΩ hm K d (c + 1) _ (by omega) (by rw [hr, itr_s, ef1, Nat.add_comm (157 * m) c])
theorem m_save (hΩ : MV mp p1 p2 p3 p5 p7 Ω) {th hs sg fi se t3 : Int32} {f sp sv sn bf : mj_S} {m ln i : Nat} {hh : Int64} (hm : m ≤ 6) : MC l yX4_save wsX4_save rmX4_save false [.ref mp] (Ω th f sp sv m sn hs bf ln i sg fi se t3 hh) none (Ω th f sp (s_save f sv m) (s_svm m) sn hs bf ln i sg fi se t3 hh) := by
  refine mj_MC (cc := cX4_save) (nl := 2) (ret := none) (plainFor_of_name (by decide)) rfl (rfl) (Nat.le_of_ble_eq_true rfl) ?_
  show GG l cX4_save MX4_save false (.inl (none, Ω th f sp (s_save f sv m) (s_svm m) sn hs bf ln i sg fi se t3 hh)) 0 [some (.ref mp), none] [] (Ω th f sp sv m sn hs bf ln i sg fi se t3 hh) 0 0
  refine G_aload_n dX4_save_0 rfl ?_
  refine G_getf dX4_save_1 fX4_save_33 ((hΩ _ _ _ _ _ _ _ _ _ _ _ _ _ _ _).1) (rfl) ?_
  refine G_bipush (v := 6) dX4_save_4 (by decide) ?_
  refine G_icmp_neN (a := m) (c := 6) 50 dX4_save_6 (by decide) (by omega) (fun c6 => ?_) (fun c6 => ?_)
  · refine G_iconst (v := 0) dX4_save_50 (by decide) ?_
    refine G_istore_n dX4_save_51 rfl (L' := [some (.ref mp), some (.int 0)]) rfl ?_
    refine ml_blit hΩ (by omega) (F := s_blit f (157 * m) 157 sv) (fun y => ?_) 157 0 sv (by omega) rfl
    refine G_aload_n dX4_save_86 rfl ?_
    refine G_dup dX4_save_87 rfl ?_
    refine G_getf dX4_save_88 fX4_save_33 ((hΩ _ _ _ _ _ _ _ _ _ _ _ _ _ _ _).1) (rfl) ?_
    refine G_iconst (v := 1) dX4_save_91 (by decide) ?_
    refine G_iaddN (a := m) (c := 1) (s := m + 1) dX4_save_92 (by omega) ?_
    refine G_putf dX4_save_93 pX4_save_33 ((hΩ _ _ _ _ _ _ _ _ _ _ _ _ _ _ _).1) (fun _ => ⟨rfl, rfl⟩) (by simp [mfs]) ((hΩ _ _ _ _ _ _ _ _ _ _ _ _ _ _ _).2.2.2.2.2.2.1 _ _ _ _ _ _ _ _ _ _) ?_
    exact G_vret dX4_save_96 ⟨Nat.zero_le _, Nat.zero_le _⟩ (by rw [s_save, s_svm, if_neg (by omega), if_neg (by omega)])
  · refine G_iconst (v := 0) dX4_save_9 (by decide) ?_
    refine G_istore_n dX4_save_10 rfl (L' := [some (.ref mp), some (.int 0)]) rfl ?_
    have hm6 : m = 6 := by omega
    refine ml_shift hΩ (F := s_shift sv) (fun y => ?_) 785 0 sv (by omega) rfl
    refine G_aload_n dX4_save_40 rfl ?_
    refine G_dup dX4_save_41 rfl ?_
    refine G_getf dX4_save_42 fX4_save_33 ((hΩ _ _ _ _ _ _ _ _ _ _ _ _ _ _ _).1) (rfl) ?_
    refine G_eqi (congrArg nI hm6) ?_
    refine G_iconst (v := 1) dX4_save_45 (by decide) ?_
    refine G_isubN (a := 6) (c := 1) (s := 5) dX4_save_46 (by omega) ?_
    refine G_putf dX4_save_47 pX4_save_33 ((hΩ _ _ _ _ _ _ _ _ _ _ _ _ _ _ _).1) (fun _ => ⟨rfl, rfl⟩) (by simp [mfs]) ((hΩ _ _ _ _ _ _ _ _ _ _ _ _ _ _ _).2.2.2.2.2.2.1 _ _ _ _ _ _ _ _ _ _) ?_
    refine G_iconst (v := 0) dX4_save_50 (by decide) ?_
    refine G_istore_n dX4_save_51 rfl (L' := [some (.ref mp), some (.int 0)]) rfl ?_
    refine ml_blit hΩ (m := 5) (by omega) (F := s_blit f (157 * 5) 157 (s_shift sv)) (fun y => ?_) 157 0 (s_shift sv) (by omega) rfl
    refine G_aload_n dX4_save_86 rfl ?_
    refine G_dup dX4_save_87 rfl ?_
    refine G_getf dX4_save_88 fX4_save_33 ((hΩ _ _ _ _ _ _ _ _ _ _ _ _ _ _ _).1) (rfl) ?_
    refine G_iconst (v := 1) dX4_save_91 (by decide) ?_
    refine G_iaddN (a := 5) (c := 1) (s := 6) dX4_save_92 (by omega) ?_
    refine G_putf dX4_save_93 pX4_save_33 ((hΩ _ _ _ _ _ _ _ _ _ _ _ _ _ _ _).1) (fun _ => ⟨rfl, rfl⟩) (by simp [mfs]) ((hΩ _ _ _ _ _ _ _ _ _ _ _ _ _ _ _).2.2.2.2.2.2.1 _ _ _ _ _ _ _ _ _ _) ?_
    exact G_vret dX4_save_96 ⟨Nat.zero_le _, Nat.zero_le _⟩ (by rw [s_save, s_svm, if_pos hm6, if_pos hm6])
def s_ofC (f : mj_S) (m : Nat) (w : Nat) : Int32 := if w = 12 then nI m else s_ofA f w
theorem itr_cat {α : Type} (g : Nat → α → α) (e : Nat) : ∀ (d c : Nat) (a : α), itr g (d + e) c a = itr g e (c + d) (itr g d c a)
  | 0, c, a => by rw [Nat.zero_add]; rfl
  | d + 1, c, a => by rw [show d + 1 + e = (d + e) + 1 by omega, itr_s, itr_cat g e d (c + 1), itr_s, show c + 1 + d = c + (d + 1) by omega]
theorem itr_sh (g : Nat → Int32) (k : Nat) : ∀ (d c : Nat) (a : Int32), itr (fun i x => x + g (k + i)) d c a = itr (fun i x => x + g i) d (k + c) a
  | 0, c, a => rfl
  | d + 1, c, a => by rw [itr_s, itr_s, itr_sh g k d (c + 1), show k + (c + 1) = k + c + 1 by omega]
theorem itr_acc (g : Nat → Int32) : ∀ (d c : Nat) (a : Int32), itr (fun i x => x + g i) d c a = a + itr (fun i x => x + g i) d c 0
  | 0, c, a => by rw [itr_0, itr_0]; grind
  | d + 1, c, a => by rw [itr_s, itr_s, itr_acc g d (c + 1) (a + g c), itr_acc g d (c + 1) (0 + g c)]; grind
theorem itr_add3 (u v w : Nat → Int32) : ∀ (d c : Nat) (x y z : Int32), itr (fun p a => a + (u p + v p + w p)) d c (x + y + z) = itr (fun p a => a + u p) d c x + itr (fun p a => a + v p) d c y + itr (fun p a => a + w p) d c z
  | 0, c, x, y, z => rfl
  | d + 1, c, x, y, z => by rw [itr_s, itr_s, itr_s, itr_s, ← itr_add3 u v w d (c + 1)]; congr 1; grind
theorem tvA_sum (f : mj_S) : s_sum f 73 60 = s_tvA f := by
  have h1 : s_tvA f = itr (fun p a => a + f (73 + p)) 20 0 0 + itr (fun p a => a + f (93 + p)) 20 0 0 + itr (fun p a => a + f (113 + p)) 20 0 0 := itr_add3 (fun p => f (73 + p)) (fun p => f (93 + p)) (fun p => f (113 + p)) 20 0 0 0 0
  have h2 : s_sum f 73 60 = itr (fun i x => x + f (73 + i)) 20 40 (itr (fun i x => x + f (73 + i)) 20 20 (itr (fun i x => x + f (73 + i)) 20 0 0)) := by
    have e := itr_cat (fun i x => x + f (73 + i)) 40 20 0 0
    have e2 := itr_cat (fun i x => x + f (73 + i)) 20 20 20 (itr (fun i x => x + f (73 + i)) 20 0 0)
    exact e.trans e2
  have s2 : itr (fun i x => x + f (73 + i)) 20 20 0 = itr (fun p a => a + f (93 + p)) 20 0 0 := by
    have e := itr_sh (fun i => f (73 + i)) 20 20 0 0
    rw [← e]
    exact itr_congr _ _ _ (fun k _ _ x => by rw [show 73 + (20 + k) = 93 + k by omega])
  have s3 : itr (fun i x => x + f (73 + i)) 20 40 0 = itr (fun p a => a + f (113 + p)) 20 0 0 := by
    have e := itr_sh (fun i => f (73 + i)) 40 20 0 0
    rw [← e]
    exact itr_congr _ _ _ (fun k _ _ x => by rw [show 73 + (40 + k) = 113 + k by omega])
  rw [h1, h2, itr_acc (fun i => f (73 + i)) 20 40, itr_acc (fun i => f (73 + i)) 20 20 (itr (fun i x => x + f (73 + i)) 20 0 0), s2, s3]
theorem m_tellsCount_0 (hΩ : MV mp p1 p2 p3 p5 p7 Ω) {th hs sg fi se t3 : Int32} {f sp sv sn bf : mj_S} {m ln i : Nat} {hh : Int64} : MC l yX4_tellsCount wsX4_tellsCount rmX4_tellsCount false [.ref mp, .int 0] (Ω th f sp sv m sn hs bf ln i sg fi se t3 hh) (some (.int (s_ofC f m 0))) (Ω th f sp sv m sn hs bf ln i sg fi se t3 hh) := by
  refine mj_MC (cc := cX4_tellsCount) (nl := 2) (ret := (some .int)) (plainFor_of_name (by decide)) rfl (⟨_, rfl, rfl⟩) (Nat.le_of_ble_eq_true rfl) ?_
  show GG l cX4_tellsCount MX4_tellsCount false (.inl ((some (.int (s_ofC f m 0))), Ω th f sp sv m sn hs bf ln i sg fi se t3 hh)) 0 [some (.ref mp), some (.int 0)] [] (Ω th f sp sv m sn hs bf ln i sg fi se t3 hh) 0 0
  refine G_iload_n dX4_tellsCount_0 rfl ?_
  refine G_tabIn (off := 63) 64 dX4_tellsCount_1 (by decide) (by decide) (by decide) (by decide) ?_
  refine G_aload_n dX4_tellsCount_64 rfl ?_
  refine G_getf dX4_tellsCount_65 fX4_tellsCount_7 ((hΩ _ _ _ _ _ _ _ _ _ _ _ _ _ _ _).1) (rfl) ?_
  refine G_iconst (v := 0) dX4_tellsCount_68 (by decide) ?_
  refine G_ialdN (j := 0) dX4_tellsCount_69 ((hΩ _ _ _ _ _ _ _ _ _ _ _ _ _ _ _).2.1) (by omega) ?_
  exact G_iret dX4_tellsCount_70 ⟨Nat.zero_le _, Nat.zero_le _⟩ (X_i (show s_ofC f m 0 = s_ofA f 0 from if_neg (by decide)))
theorem m_tellsCount_1 (hΩ : MV mp p1 p2 p3 p5 p7 Ω) {th hs sg fi se t3 : Int32} {f sp sv sn bf : mj_S} {m ln i : Nat} {hh : Int64} : MC l yX4_tellsCount wsX4_tellsCount rmX4_tellsCount false [.ref mp, .int 1] (Ω th f sp sv m sn hs bf ln i sg fi se t3 hh) (some (.int (s_ofC f m 1))) (Ω th f sp sv m sn hs bf ln i sg fi se t3 hh) := by
  refine mj_MC (cc := cX4_tellsCount) (nl := 2) (ret := (some .int)) (plainFor_of_name (by decide)) rfl (⟨_, rfl, rfl⟩) (Nat.le_of_ble_eq_true rfl) ?_
  show GG l cX4_tellsCount MX4_tellsCount false (.inl ((some (.int (s_ofC f m 1))), Ω th f sp sv m sn hs bf ln i sg fi se t3 hh)) 0 [some (.ref mp), some (.int 1)] [] (Ω th f sp sv m sn hs bf ln i sg fi se t3 hh) 0 0
  refine G_iload_n dX4_tellsCount_0 rfl ?_
  refine G_tabIn (off := 70) 71 dX4_tellsCount_1 (by decide) (by decide) (by decide) (by decide) ?_
  refine G_aload_n dX4_tellsCount_71 rfl ?_
  refine G_getf dX4_tellsCount_72 fX4_tellsCount_7 ((hΩ _ _ _ _ _ _ _ _ _ _ _ _ _ _ _).1) (rfl) ?_
  refine G_iconst (v := 1) dX4_tellsCount_75 (by decide) ?_
  refine G_ialdN (j := 1) dX4_tellsCount_76 ((hΩ _ _ _ _ _ _ _ _ _ _ _ _ _ _ _).2.1) (by omega) ?_
  exact G_iret dX4_tellsCount_77 ⟨Nat.zero_le _, Nat.zero_le _⟩ (X_i (show s_ofC f m 1 = s_ofA f 1 from if_neg (by decide)))
theorem m_tellsCount_2 (hΩ : MV mp p1 p2 p3 p5 p7 Ω) {th hs sg fi se t3 : Int32} {f sp sv sn bf : mj_S} {m ln i : Nat} {hh : Int64} : MC l yX4_tellsCount wsX4_tellsCount rmX4_tellsCount false [.ref mp, .int 2] (Ω th f sp sv m sn hs bf ln i sg fi se t3 hh) (some (.int (s_ofC f m 2))) (Ω th f sp sv m sn hs bf ln i sg fi se t3 hh) := by
  refine mj_MC (cc := cX4_tellsCount) (nl := 2) (ret := (some .int)) (plainFor_of_name (by decide)) rfl (⟨_, rfl, rfl⟩) (Nat.le_of_ble_eq_true rfl) ?_
  show GG l cX4_tellsCount MX4_tellsCount false (.inl ((some (.int (s_ofC f m 2))), Ω th f sp sv m sn hs bf ln i sg fi se t3 hh)) 0 [some (.ref mp), some (.int 2)] [] (Ω th f sp sv m sn hs bf ln i sg fi se t3 hh) 0 0
  refine G_iload_n dX4_tellsCount_0 rfl ?_
  refine G_tabIn (off := 77) 78 dX4_tellsCount_1 (by decide) (by decide) (by decide) (by decide) ?_
  refine G_aload_n dX4_tellsCount_78 rfl ?_
  refine G_callVi dX4_tellsCount_79 kX4_tellsCount_X4_allWorkers ⟨rfl, rfl⟩ ⟨Nat.zero_le _, Nat.zero_le _⟩ (m_allWorkers (hΩ.fv th sp sv m sn hs bf ln i sg fi se t3 hh)) rfl rfl ((hΩ _ _ _ _ _ _ _ _ _ _ _ _ _ _ _).1) rfl rfl ?_
  exact G_iret dX4_tellsCount_82 ⟨Nat.zero_le _, Nat.zero_le _⟩ (X_i (show s_ofC f m 2 = s_ofA f 2 from if_neg (by decide)))
theorem m_tellsCount_3 (hΩ : MV mp p1 p2 p3 p5 p7 Ω) {th hs sg fi se t3 : Int32} {f sp sv sn bf : mj_S} {m ln i : Nat} {hh : Int64} : MC l yX4_tellsCount wsX4_tellsCount rmX4_tellsCount false [.ref mp, .int 3] (Ω th f sp sv m sn hs bf ln i sg fi se t3 hh) (some (.int (s_ofC f m 3))) (Ω th f sp sv m sn hs bf ln i sg fi se t3 hh) := by
  refine mj_MC (cc := cX4_tellsCount) (nl := 2) (ret := (some .int)) (plainFor_of_name (by decide)) rfl (⟨_, rfl, rfl⟩) (Nat.le_of_ble_eq_true rfl) ?_
  show GG l cX4_tellsCount MX4_tellsCount false (.inl ((some (.int (s_ofC f m 3))), Ω th f sp sv m sn hs bf ln i sg fi se t3 hh)) 0 [some (.ref mp), some (.int 3)] [] (Ω th f sp sv m sn hs bf ln i sg fi se t3 hh) 0 0
  refine G_iload_n dX4_tellsCount_0 rfl ?_
  refine G_tabIn (off := 82) 83 dX4_tellsCount_1 (by decide) (by decide) (by decide) (by decide) ?_
  refine G_aload_n dX4_tellsCount_83 rfl ?_
  refine G_bipush (v := 45) dX4_tellsCount_84 (by decide) ?_
  refine G_iconst (v := 4) dX4_tellsCount_86 (by decide) ?_
  refine G_callVi dX4_tellsCount_87 kX4_tellsCount_X4_sumOf ⟨rfl, rfl⟩ ⟨Nat.zero_le _, Nat.zero_le _⟩ (m_sumOf (hΩ.fv th sp sv m sn hs bf ln i sg fi se t3 hh) (a := 45) (m := 4) (by omega)) rfl rfl ((hΩ _ _ _ _ _ _ _ _ _ _ _ _ _ _ _).1) rfl rfl ?_
  exact G_iret dX4_tellsCount_90 ⟨Nat.zero_le _, Nat.zero_le _⟩ (X_i (show s_ofC f m 3 = s_ofA f 3 from if_neg (by decide)))
theorem m_tellsCount_4 (hΩ : MV mp p1 p2 p3 p5 p7 Ω) {th hs sg fi se t3 : Int32} {f sp sv sn bf : mj_S} {m ln i : Nat} {hh : Int64} : MC l yX4_tellsCount wsX4_tellsCount rmX4_tellsCount false [.ref mp, .int 4] (Ω th f sp sv m sn hs bf ln i sg fi se t3 hh) (some (.int (s_ofC f m 4))) (Ω th f sp sv m sn hs bf ln i sg fi se t3 hh) := by
  refine mj_MC (cc := cX4_tellsCount) (nl := 2) (ret := (some .int)) (plainFor_of_name (by decide)) rfl (⟨_, rfl, rfl⟩) (Nat.le_of_ble_eq_true rfl) ?_
  show GG l cX4_tellsCount MX4_tellsCount false (.inl ((some (.int (s_ofC f m 4))), Ω th f sp sv m sn hs bf ln i sg fi se t3 hh)) 0 [some (.ref mp), some (.int 4)] [] (Ω th f sp sv m sn hs bf ln i sg fi se t3 hh) 0 0
  refine G_iload_n dX4_tellsCount_0 rfl ?_
  refine G_tabIn (off := 90) 91 dX4_tellsCount_1 (by decide) (by decide) (by decide) (by decide) ?_
  refine G_aload_n dX4_tellsCount_91 rfl ?_
  refine G_bipush (v := 73) dX4_tellsCount_92 (by decide) ?_
  refine G_bipush (v := 60) dX4_tellsCount_94 (by decide) ?_
  refine G_callVi dX4_tellsCount_96 kX4_tellsCount_X4_sumOf ⟨rfl, rfl⟩ ⟨Nat.zero_le _, Nat.zero_le _⟩ (m_sumOf (hΩ.fv th sp sv m sn hs bf ln i sg fi se t3 hh) (a := 73) (m := 60) (by omega)) rfl rfl ((hΩ _ _ _ _ _ _ _ _ _ _ _ _ _ _ _).1) rfl rfl ?_
  exact G_iret dX4_tellsCount_99 ⟨Nat.zero_le _, Nat.zero_le _⟩ (X_i ((show s_ofC f m 4 = s_tvA f from if_neg (by decide)).trans (tvA_sum f).symm))
theorem m_tellsCount_5 (hΩ : MV mp p1 p2 p3 p5 p7 Ω) {th hs sg fi se t3 : Int32} {f sp sv sn bf : mj_S} {m ln i : Nat} {hh : Int64} : MC l yX4_tellsCount wsX4_tellsCount rmX4_tellsCount false [.ref mp, .int 5] (Ω th f sp sv m sn hs bf ln i sg fi se t3 hh) (some (.int (s_ofC f m 5))) (Ω th f sp sv m sn hs bf ln i sg fi se t3 hh) := by
  refine mj_MC (cc := cX4_tellsCount) (nl := 2) (ret := (some .int)) (plainFor_of_name (by decide)) rfl (⟨_, rfl, rfl⟩) (Nat.le_of_ble_eq_true rfl) ?_
  show GG l cX4_tellsCount MX4_tellsCount false (.inl ((some (.int (s_ofC f m 5))), Ω th f sp sv m sn hs bf ln i sg fi se t3 hh)) 0 [some (.ref mp), some (.int 5)] [] (Ω th f sp sv m sn hs bf ln i sg fi se t3 hh) 0 0
  refine G_iload_n dX4_tellsCount_0 rfl ?_
  refine G_tabIn (off := 99) 100 dX4_tellsCount_1 (by decide) (by decide) (by decide) (by decide) ?_
  refine G_aload_n dX4_tellsCount_100 rfl ?_
  refine G_bipush (v := 15) dX4_tellsCount_101 (by decide) ?_
  refine G_iconst (v := 5) dX4_tellsCount_103 (by decide) ?_
  refine G_callVi dX4_tellsCount_104 kX4_tellsCount_X4_sumOf ⟨rfl, rfl⟩ ⟨Nat.zero_le _, Nat.zero_le _⟩ (m_sumOf (hΩ.fv th sp sv m sn hs bf ln i sg fi se t3 hh) (a := 15) (m := 5) (by omega)) rfl rfl ((hΩ _ _ _ _ _ _ _ _ _ _ _ _ _ _ _).1) rfl rfl ?_
  exact G_iret dX4_tellsCount_107 ⟨Nat.zero_le _, Nat.zero_le _⟩ (X_i (show s_ofC f m 5 = s_ofA f 5 from if_neg (by decide)))
theorem m_tellsCount_6 (hΩ : MV mp p1 p2 p3 p5 p7 Ω) {th hs sg fi se t3 : Int32} {f sp sv sn bf : mj_S} {m ln i : Nat} {hh : Int64} : MC l yX4_tellsCount wsX4_tellsCount rmX4_tellsCount false [.ref mp, .int 6] (Ω th f sp sv m sn hs bf ln i sg fi se t3 hh) (some (.int (s_ofC f m 6))) (Ω th f sp sv m sn hs bf ln i sg fi se t3 hh) := by
  refine mj_MC (cc := cX4_tellsCount) (nl := 2) (ret := (some .int)) (plainFor_of_name (by decide)) rfl (⟨_, rfl, rfl⟩) (Nat.le_of_ble_eq_true rfl) ?_
  show GG l cX4_tellsCount MX4_tellsCount false (.inl ((some (.int (s_ofC f m 6))), Ω th f sp sv m sn hs bf ln i sg fi se t3 hh)) 0 [some (.ref mp), some (.int 6)] [] (Ω th f sp sv m sn hs bf ln i sg fi se t3 hh) 0 0
  refine G_iload_n dX4_tellsCount_0 rfl ?_
  refine G_tabIn (off := 107) 108 dX4_tellsCount_1 (by decide) (by decide) (by decide) (by decide) ?_
  refine G_aload_n dX4_tellsCount_108 rfl ?_
  refine G_bipush (v := 35) dX4_tellsCount_109 (by decide) ?_
  refine G_iconst (v := 5) dX4_tellsCount_111 (by decide) ?_
  refine G_callVi dX4_tellsCount_112 kX4_tellsCount_X4_sumOf ⟨rfl, rfl⟩ ⟨Nat.zero_le _, Nat.zero_le _⟩ (m_sumOf (hΩ.fv th sp sv m sn hs bf ln i sg fi se t3 hh) (a := 35) (m := 5) (by omega)) rfl rfl ((hΩ _ _ _ _ _ _ _ _ _ _ _ _ _ _ _).1) rfl rfl ?_
  exact G_iret dX4_tellsCount_115 ⟨Nat.zero_le _, Nat.zero_le _⟩ (X_i (show s_ofC f m 6 = s_ofA f 6 from if_neg (by decide)))
theorem m_tellsCount_7 (hΩ : MV mp p1 p2 p3 p5 p7 Ω) {th hs sg fi se t3 : Int32} {f sp sv sn bf : mj_S} {m ln i : Nat} {hh : Int64} : MC l yX4_tellsCount wsX4_tellsCount rmX4_tellsCount false [.ref mp, .int 7] (Ω th f sp sv m sn hs bf ln i sg fi se t3 hh) (some (.int (s_ofC f m 7))) (Ω th f sp sv m sn hs bf ln i sg fi se t3 hh) := by
  refine mj_MC (cc := cX4_tellsCount) (nl := 2) (ret := (some .int)) (plainFor_of_name (by decide)) rfl (⟨_, rfl, rfl⟩) (Nat.le_of_ble_eq_true rfl) ?_
  show GG l cX4_tellsCount MX4_tellsCount false (.inl ((some (.int (s_ofC f m 7))), Ω th f sp sv m sn hs bf ln i sg fi se t3 hh)) 0 [some (.ref mp), some (.int 7)] [] (Ω th f sp sv m sn hs bf ln i sg fi se t3 hh) 0 0
  refine G_iload_n dX4_tellsCount_0 rfl ?_
  refine G_tabIn (off := 115) 116 dX4_tellsCount_1 (by decide) (by decide) (by decide) (by decide) ?_
  refine G_aload_n dX4_tellsCount_116 rfl ?_
  refine G_iconst (v := 1) dX4_tellsCount_117 (by decide) ?_
  refine G_callVi dX4_tellsCount_118 kX4_tellsCount_X4_shortHearths ⟨rfl, rfl⟩ ⟨Nat.zero_le _, Nat.zero_le _⟩ (m_s_shs (hΩ.fv th sp sv m sn hs bf ln i sg fi se t3 hh)) rfl rfl ((hΩ _ _ _ _ _ _ _ _ _ _ _ _ _ _ _).1) rfl rfl ?_
  exact G_iret dX4_tellsCount_121 ⟨Nat.zero_le _, Nat.zero_le _⟩ (X_i (show s_ofC f m 7 = s_ofA f 7 from if_neg (by decide)))
theorem m_tellsCount_8 (hΩ : MV mp p1 p2 p3 p5 p7 Ω) {th hs sg fi se t3 : Int32} {f sp sv sn bf : mj_S} {m ln i : Nat} {hh : Int64} : MC l yX4_tellsCount wsX4_tellsCount rmX4_tellsCount false [.ref mp, .int 8] (Ω th f sp sv m sn hs bf ln i sg fi se t3 hh) (some (.int (s_ofC f m 8))) (Ω th f sp sv m sn hs bf ln i sg fi se t3 hh) := by
  refine mj_MC (cc := cX4_tellsCount) (nl := 2) (ret := (some .int)) (plainFor_of_name (by decide)) rfl (⟨_, rfl, rfl⟩) (Nat.le_of_ble_eq_true rfl) ?_
  show GG l cX4_tellsCount MX4_tellsCount false (.inl ((some (.int (s_ofC f m 8))), Ω th f sp sv m sn hs bf ln i sg fi se t3 hh)) 0 [some (.ref mp), some (.int 8)] [] (Ω th f sp sv m sn hs bf ln i sg fi se t3 hh) 0 0
  refine G_iload_n dX4_tellsCount_0 rfl ?_
  refine G_tabIn (off := 121) 122 dX4_tellsCount_1 (by decide) (by decide) (by decide) (by decide) ?_
  refine G_aload_n dX4_tellsCount_122 rfl ?_
  refine G_iconst (v := 0) dX4_tellsCount_123 (by decide) ?_
  refine G_callVi dX4_tellsCount_124 kX4_tellsCount_X4_shortHearths ⟨rfl, rfl⟩ ⟨Nat.zero_le _, Nat.zero_le _⟩ (m_s_shs2 (hΩ.fv th sp sv m sn hs bf ln i sg fi se t3 hh)) rfl rfl ((hΩ _ _ _ _ _ _ _ _ _ _ _ _ _ _ _).1) rfl rfl ?_
  exact G_iret dX4_tellsCount_127 ⟨Nat.zero_le _, Nat.zero_le _⟩ (X_i (show s_ofC f m 8 = s_ofA f 8 from if_neg (by decide)))
theorem m_tellsCount_9 (hΩ : MV mp p1 p2 p3 p5 p7 Ω) {th hs sg fi se t3 : Int32} {f sp sv sn bf : mj_S} {m ln i : Nat} {hh : Int64} : MC l yX4_tellsCount wsX4_tellsCount rmX4_tellsCount false [.ref mp, .int 9] (Ω th f sp sv m sn hs bf ln i sg fi se t3 hh) (some (.int (s_ofC f m 9))) (Ω th f sp sv m sn hs bf ln i sg fi se t3 hh) := by
  refine mj_MC (cc := cX4_tellsCount) (nl := 2) (ret := (some .int)) (plainFor_of_name (by decide)) rfl (⟨_, rfl, rfl⟩) (Nat.le_of_ble_eq_true rfl) ?_
  show GG l cX4_tellsCount MX4_tellsCount false (.inl ((some (.int (s_ofC f m 9))), Ω th f sp sv m sn hs bf ln i sg fi se t3 hh)) 0 [some (.ref mp), some (.int 9)] [] (Ω th f sp sv m sn hs bf ln i sg fi se t3 hh) 0 0
  refine G_iload_n dX4_tellsCount_0 rfl ?_
  refine G_tabIn (off := 127) 128 dX4_tellsCount_1 (by decide) (by decide) (by decide) (by decide) ?_
  refine G_aload_n dX4_tellsCount_128 rfl ?_
  refine G_getf dX4_tellsCount_129 fX4_tellsCount_7 ((hΩ _ _ _ _ _ _ _ _ _ _ _ _ _ _ _).1) (rfl) ?_
  refine G_iconst (v := 2) dX4_tellsCount_132 (by decide) ?_
  refine G_iload_n dX4_tellsCount_133 rfl ?_
  refine G_iaddN (a := 2) (c := 9) (s := 11) dX4_tellsCount_134 (by omega) ?_
  refine G_bipush (v := 9) dX4_tellsCount_135 (by decide) ?_
  refine G_isubN (a := 11) (c := 9) (s := 2) dX4_tellsCount_137 (by omega) ?_
  refine G_ialdN (j := 2) dX4_tellsCount_138 ((hΩ _ _ _ _ _ _ _ _ _ _ _ _ _ _ _).2.1) (by omega) ?_
  exact G_iret dX4_tellsCount_139 ⟨Nat.zero_le _, Nat.zero_le _⟩ (X_i (show s_ofC f m 9 = s_ofA f 9 from if_neg (by decide)))
theorem m_tellsCount_10 (hΩ : MV mp p1 p2 p3 p5 p7 Ω) {th hs sg fi se t3 : Int32} {f sp sv sn bf : mj_S} {m ln i : Nat} {hh : Int64} : MC l yX4_tellsCount wsX4_tellsCount rmX4_tellsCount false [.ref mp, .int 10] (Ω th f sp sv m sn hs bf ln i sg fi se t3 hh) (some (.int (s_ofC f m 10))) (Ω th f sp sv m sn hs bf ln i sg fi se t3 hh) := by
  refine mj_MC (cc := cX4_tellsCount) (nl := 2) (ret := (some .int)) (plainFor_of_name (by decide)) rfl (⟨_, rfl, rfl⟩) (Nat.le_of_ble_eq_true rfl) ?_
  show GG l cX4_tellsCount MX4_tellsCount false (.inl ((some (.int (s_ofC f m 10))), Ω th f sp sv m sn hs bf ln i sg fi se t3 hh)) 0 [some (.ref mp), some (.int 10)] [] (Ω th f sp sv m sn hs bf ln i sg fi se t3 hh) 0 0
  refine G_iload_n dX4_tellsCount_0 rfl ?_
  refine G_tabIn (off := 127) 128 dX4_tellsCount_1 (by decide) (by decide) (by decide) (by decide) ?_
  refine G_aload_n dX4_tellsCount_128 rfl ?_
  refine G_getf dX4_tellsCount_129 fX4_tellsCount_7 ((hΩ _ _ _ _ _ _ _ _ _ _ _ _ _ _ _).1) (rfl) ?_
  refine G_iconst (v := 2) dX4_tellsCount_132 (by decide) ?_
  refine G_iload_n dX4_tellsCount_133 rfl ?_
  refine G_iaddN (a := 2) (c := 10) (s := 12) dX4_tellsCount_134 (by omega) ?_
  refine G_bipush (v := 9) dX4_tellsCount_135 (by decide) ?_
  refine G_isubN (a := 12) (c := 9) (s := 3) dX4_tellsCount_137 (by omega) ?_
  refine G_ialdN (j := 3) dX4_tellsCount_138 ((hΩ _ _ _ _ _ _ _ _ _ _ _ _ _ _ _).2.1) (by omega) ?_
  exact G_iret dX4_tellsCount_139 ⟨Nat.zero_le _, Nat.zero_le _⟩ (X_i (show s_ofC f m 10 = s_ofA f 10 from if_neg (by decide)))
theorem m_tellsCount_11 (hΩ : MV mp p1 p2 p3 p5 p7 Ω) {th hs sg fi se t3 : Int32} {f sp sv sn bf : mj_S} {m ln i : Nat} {hh : Int64} : MC l yX4_tellsCount wsX4_tellsCount rmX4_tellsCount false [.ref mp, .int 11] (Ω th f sp sv m sn hs bf ln i sg fi se t3 hh) (some (.int (s_ofC f m 11))) (Ω th f sp sv m sn hs bf ln i sg fi se t3 hh) := by
  refine mj_MC (cc := cX4_tellsCount) (nl := 2) (ret := (some .int)) (plainFor_of_name (by decide)) rfl (⟨_, rfl, rfl⟩) (Nat.le_of_ble_eq_true rfl) ?_
  show GG l cX4_tellsCount MX4_tellsCount false (.inl ((some (.int (s_ofC f m 11))), Ω th f sp sv m sn hs bf ln i sg fi se t3 hh)) 0 [some (.ref mp), some (.int 11)] [] (Ω th f sp sv m sn hs bf ln i sg fi se t3 hh) 0 0
  refine G_iload_n dX4_tellsCount_0 rfl ?_
  refine G_tabIn (off := 127) 128 dX4_tellsCount_1 (by decide) (by decide) (by decide) (by decide) ?_
  refine G_aload_n dX4_tellsCount_128 rfl ?_
  refine G_getf dX4_tellsCount_129 fX4_tellsCount_7 ((hΩ _ _ _ _ _ _ _ _ _ _ _ _ _ _ _).1) (rfl) ?_
  refine G_iconst (v := 2) dX4_tellsCount_132 (by decide) ?_
  refine G_iload_n dX4_tellsCount_133 rfl ?_
  refine G_iaddN (a := 2) (c := 11) (s := 13) dX4_tellsCount_134 (by omega) ?_
  refine G_bipush (v := 9) dX4_tellsCount_135 (by decide) ?_
  refine G_isubN (a := 13) (c := 9) (s := 4) dX4_tellsCount_137 (by omega) ?_
  refine G_ialdN (j := 4) dX4_tellsCount_138 ((hΩ _ _ _ _ _ _ _ _ _ _ _ _ _ _ _).2.1) (by omega) ?_
  exact G_iret dX4_tellsCount_139 ⟨Nat.zero_le _, Nat.zero_le _⟩ (X_i (show s_ofC f m 11 = s_ofA f 11 from if_neg (by decide)))
theorem m_tellsCount_12 (hΩ : MV mp p1 p2 p3 p5 p7 Ω) {th hs sg fi se t3 : Int32} {f sp sv sn bf : mj_S} {m ln i : Nat} {hh : Int64} : MC l yX4_tellsCount wsX4_tellsCount rmX4_tellsCount false [.ref mp, .int 12] (Ω th f sp sv m sn hs bf ln i sg fi se t3 hh) (some (.int (s_ofC f m 12))) (Ω th f sp sv m sn hs bf ln i sg fi se t3 hh) := by
  refine mj_MC (cc := cX4_tellsCount) (nl := 2) (ret := (some .int)) (plainFor_of_name (by decide)) rfl (⟨_, rfl, rfl⟩) (Nat.le_of_ble_eq_true rfl) ?_
  show GG l cX4_tellsCount MX4_tellsCount false (.inl ((some (.int (s_ofC f m 12))), Ω th f sp sv m sn hs bf ln i sg fi se t3 hh)) 0 [some (.ref mp), some (.int 12)] [] (Ω th f sp sv m sn hs bf ln i sg fi se t3 hh) 0 0
  refine G_iload_n dX4_tellsCount_0 rfl ?_
  refine G_tabOut 140 dX4_tellsCount_1 (by decide) (by decide) ?_
  refine G_aload_n dX4_tellsCount_140 rfl ?_
  refine G_getf dX4_tellsCount_141 fX4_tellsCount_33 ((hΩ _ _ _ _ _ _ _ _ _ _ _ _ _ _ _).1) (rfl) ?_
  exact G_iret dX4_tellsCount_144 ⟨Nat.zero_le _, Nat.zero_le _⟩ (rfl)
theorem m_tellsCount (hΩ : MV mp p1 p2 p3 p5 p7 Ω) {th hs sg fi se t3 : Int32} {f sp sv sn bf : mj_S} {m ln i : Nat} {hh : Int64} {w : Nat} (hw : w < 13) : MC l yX4_tellsCount wsX4_tellsCount rmX4_tellsCount false [.ref mp, .int (nI (w))] (Ω th f sp sv m sn hs bf ln i sg fi se t3 hh) (some (.int (s_ofC f m w))) (Ω th f sp sv m sn hs bf ln i sg fi se t3 hh) := by
  rcases (show w = 0 ∨ w = 1 ∨ w = 2 ∨ w = 3 ∨ w = 4 ∨ w = 5 ∨ w = 6 ∨ w = 7 ∨ w = 8 ∨ w = 9 ∨ w = 10 ∨ w = 11 ∨ w = 12 by omega) with rfl | rfl | rfl | rfl | rfl | rfl | rfl | rfl | rfl | rfl | rfl | rfl | rfl
  · exact m_tellsCount_0 hΩ
  · exact m_tellsCount_1 hΩ
  · exact m_tellsCount_2 hΩ
  · exact m_tellsCount_3 hΩ
  · exact m_tellsCount_4 hΩ
  · exact m_tellsCount_5 hΩ
  · exact m_tellsCount_6 hΩ
  · exact m_tellsCount_7 hΩ
  · exact m_tellsCount_8 hΩ
  · exact m_tellsCount_9 hΩ
  · exact m_tellsCount_10 hΩ
  · exact m_tellsCount_11 hΩ
  · exact m_tellsCount_12 hΩ
end RC

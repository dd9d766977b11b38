/-! three rows out of the parts on the reference that the class needs too -/
def s_com (f : mj_S) (b : Nat) : Int32 := itr (fun h x => x - f (53 + b + 4 * h)) 5 0 12
theorem mj_arrV_eq {cA : ClassId} {nn : Nat} {f f' : mj_S} (h : ∀ j, j < nn → f j = f' j) : arrV cA nn (fun j => .int (f j)) = arrV cA nn (fun j => .int (f' j)) := by
  unfold arrV
  congr 1
  exact congrArg Array.ofFn (funext fun j => congrArg Value.int (h j.val j.isLt))
/-- an array is what it holds in its range -/
theorem G_aeq {l : Launch} {cc : ByteArray} {M : mj_M} {b : Bool} {X : mj_R} {pc : Nat} {L : mj_L} {st : List Value} {w w' : mj_W} {k n o nn : Nat} {ty : FieldType} {f f' : mj_S} (hw : w[o]? = some (.inl (ty, (nn, .inl f)))) (he : ∀ j, j < nn → f j = f' j) (hw' : w.set o (.inl (ty, (nn, .inl f'))) = w') (kk : GG l cc M b X pc L st w' k n) : GG l cc M b X pc L st w k n := by
  intro p e s m args below meth c Q D A ad0 N F E ad cy H locs ls r P S hl
  subst hw'
  refine kk p e s m args below meth c Q D A ad0 N F E ad cy H locs ls (r.len (by simp)) ⟨?_, ?_, P.2.2.set hw⟩ S hl
  · rw [← mj_w_setA (ty := ty)]
    intro k0 q hq
    rw [List.getElem?_set] at hq
    split at hq
    · rename_i hk
      subst hk
      split at hq
      · cases hq
        have h1 := P.1 o _ (mj_w_get hw)
        have h1 : H[ad o]? = some (vp_cell (cy o) (nn, .inl f)) := h1
        show H[ad o]? = some (vp_cell (cy o) (nn, .inl f'))
        rw [h1]
        exact congrArg some (mj_arrV_eq he)
      · cases hq
    · exact P.1 k0 q hq
  · rw [← mj_w_setA (ty := ty)]
    exact P.2.1.set (mj_w_get hw)
/-- a row of n numbers laid into another from b on: where each number then stands -/
theorem blit_at (r : mj_S) (b : Nat) : ∀ (d c : Nat) (R : mj_S) (k : Nat), itr (fun i a => upd a (b + i) (r i)) d c R k = if b + c ≤ k ∧ k < b + c + d then r (k - b) else R k
  | 0, c, R, k => by rw [itr_0, if_neg (by omega)]
  | d + 1, c, R, k => by
    rw [itr_s, blit_at r b d (c + 1)]
    by_cases h1 : b + (c + 1) ≤ k ∧ k < b + (c + 1) + d
    · rw [if_pos h1, if_pos (by omega)]
    · rw [if_neg h1]
      by_cases h2 : k = b + c
      · subst h2; rw [upd_s, if_pos (by omega)]; congr 1; omega
      · rw [upd_n h2, if_neg (by omega)]
theorem take_at (R : mj_S) (b : Nat) : ∀ (d c : Nat) (r : mj_S) (k : Nat), itr (fun i a => upd a i (R (b + i))) d c r k = if c ≤ k ∧ k < c + d then R (b + k) else r k
  | 0, c, r, k => by rw [itr_0, if_neg (by omega)]
  | d + 1, c, r, k => by
    rw [itr_s, take_at R b d (c + 1)]
    by_cases h1 : c + 1 ≤ k ∧ k < c + 1 + d
    · rw [if_pos h1, if_pos (by omega)]
    · rw [if_neg h1]
      by_cases h2 : k = c
      · subst h2; rw [upd_s, if_pos (by omega)]
      · rw [upd_n h2, if_neg (by omega)]
def s_ofC (f : mj_S) (m : Nat) (w : Nat) : Int32 := if w = 12 then nI m else s_ofA f w

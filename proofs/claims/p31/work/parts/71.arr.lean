/-! THE LAW'S ARRAYS: the state of part 20, laid in seven rows -/
def aQ (f : mj_S) : mj_S := fun j => if j < 13 then f (if j < 5 then j else 40 + j) else 0
def aH (f : mj_S) : mj_S := fun j => if j < 40 then f (5 + 5 * (j % 8) + j / 8) else 0
def aB (b : Nat) (f : mj_S) : mj_S := fun j => if j < 20 then f (b + j) else 0
def aC (f : mj_S) : mj_S := fun j => if j < 24 then f (133 + 6 * (j % 4) + j / 4) else 0
theorem rdQl {f : mj_S} {j : Nat} (h : j < 5) : aQ f j = f j := by
  unfold aQ
  rw [if_pos (by omega), if_pos h]
theorem rdQh {f : mj_S} {j i : Nat} (h : 5 ≤ j ∧ j < 13) (e : 40 + j = i) : aQ f j = f i := by
  subst e
  unfold aQ
  rw [if_pos h.2, if_neg (by omega)]
theorem rdH {f : mj_S} {j i : Nat} (h : j < 40) (e : 5 + 5 * (j % 8) + j / 8 = i) : aH f j = f i := by
  subst e
  exact if_pos h
theorem rdB {f : mj_S} {b j i : Nat} (h : j < 20) (e : b + j = i) : aB b f j = f i := by
  subst e
  exact if_pos h
theorem rdC {f : mj_S} {j i : Nat} (h : j < 24) (e : 133 + 6 * (j % 4) + j / 4 = i) : aC f j = f i := by
  subst e
  exact if_pos h
theorem ar_in {n : Nat} {p : Nat → Nat} {f : mj_S} {j : Nat} {v : Int32} (inj : ∀ k, k < n → p k = p j → k = j) (hj : j < n) : upd (fun k => if k < n then f (p k) else 0) j v = fun k => if k < n then upd f (p j) v (p k) else 0 := by
  funext k
  simp only [upd]
  by_cases e : k = j
  · subst e
    rw [if_pos rfl, if_pos hj, if_pos rfl]
  · rw [if_neg e]
    by_cases h : k < n
    · rw [if_pos h, if_pos h, if_neg (fun q => e (inj k h q))]
    · rw [if_neg h, if_neg h]
theorem ar_out {n : Nat} {p : Nat → Nat} {f : mj_S} {i : Nat} {v : Int32} (h : ∀ k, k < n → p k ≠ i) : (fun k => if k < n then upd f i v (p k) else 0) = fun k => if k < n then f (p k) else 0 := by
  funext k
  by_cases hk : k < n
  · rw [if_pos hk, if_pos hk, upd_n (h k hk)]
  · rw [if_neg hk, if_neg hk]
theorem aQ_l {f : mj_S} {j : Nat} {v : Int32} (hj : j < 5) : upd (aQ f) j v = aQ (upd f j v) := by
  have h := ar_in (n := 13) (p := fun j => if j < 5 then j else 40 + j) (f := f) (j := j) (v := v) (fun k _ q => by
    simp only [if_pos hj] at q
    split at q <;> omega) (by omega)
  simp only [if_pos hj] at h
  exact h
theorem aQ_h {f : mj_S} {j i : Nat} {v : Int32} (hj : 5 ≤ j ∧ j < 13) (e : 40 + j = i) : upd (aQ f) j v = aQ (upd f i v) := by
  subst e
  have h := ar_in (n := 13) (p := fun j => if j < 5 then j else 40 + j) (f := f) (j := j) (v := v) (fun k _ q => by
    simp only [if_neg (show ¬ j < 5 by omega)] at q
    split at q <;> omega) hj.2
  simp only [if_neg (show ¬ j < 5 by omega)] at h
  exact h
theorem aH_i {f : mj_S} {j i : Nat} {v : Int32} (hj : j < 40) (e : 5 + 5 * (j % 8) + j / 8 = i) : upd (aH f) j v = aH (upd f i v) := by
  subst e
  exact ar_in (n := 40) (p := fun j => 5 + 5 * (j % 8) + j / 8) (fun k hk q => by
    omega) hj
theorem aB_i {f : mj_S} {b j i : Nat} {v : Int32} (hj : j < 20) (e : b + j = i) : upd (aB b f) j v = aB b (upd f i v) := by
  subst e
  exact ar_in (n := 20) (p := fun j => b + j) (fun k hk q => by
    omega) hj
theorem aC_i {f : mj_S} {j i : Nat} {v : Int32} (hj : j < 24) (e : 133 + 6 * (j % 4) + j / 4 = i) : upd (aC f) j v = aC (upd f i v) := by
  subst e
  exact ar_in (n := 24) (p := fun j => 133 + 6 * (j % 4) + j / 4) (fun k hk q => by
    omega) hj
theorem aQ_o {f : mj_S} {i : Nat} {v : Int32} (h : 5 ≤ i ∧ (i < 45 ∨ 53 ≤ i)) : aQ (upd f i v) = aQ f := ar_out (n := 13) (p := fun j => if j < 5 then j else 40 + j) (fun k hk q => by
  split at q <;> omega)
theorem aH_o {f : mj_S} {i : Nat} {v : Int32} (h : i < 5 ∨ 45 ≤ i) : aH (upd f i v) = aH f := ar_out (n := 40) (p := fun j => 5 + 5 * (j % 8) + j / 8) (fun k hk q => by
  omega)
theorem aB_o {f : mj_S} {b i : Nat} {v : Int32} (h : i < b ∨ b + 20 ≤ i) : aB b (upd f i v) = aB b f := ar_out (n := 20) (p := fun j => b + j) (fun k hk q => by
  omega)
theorem aC_o {f : mj_S} {i : Nat} {v : Int32} (h : i < 133 ∨ 157 ≤ i) : aC (upd f i v) = aC f := ar_out (n := 24) (p := fun j => 133 + 6 * (j % 4) + j / 4) (fun k hk q => by
  omega)
/-- worlds that hold the law's rows at their seven places -/
def HV (Ψ : mj_S → mj_W) : Prop := ∀ f, ((Ψ f)[11]? = some (.inl (.int, (13, .inl (aQ f)))) ∧ (Ψ f)[12]? = some (.inl (.int, (40, .inl (aH f)))) ∧ (Ψ f)[13]? = some (.inl (.int, (20, .inl (aB 53 f)))) ∧ (Ψ f)[14]? = some (.inl (.int, (20, .inl (aB 73 f)))) ∧ (Ψ f)[15]? = some (.inl (.int, (20, .inl (aB 93 f)))) ∧ (Ψ f)[16]? = some (.inl (.int, (20, .inl (aB 113 f)))) ∧ (Ψ f)[17]? = some (.inl (.int, (24, .inl (aC f))))) ∧
  (∀ j v, j < 5 → (Ψ f).set 11 (.inl (.int, (13, .inl (upd (aQ f) j v)))) = Ψ (upd f j v)) ∧
  (∀ j i v, 5 ≤ j ∧ j < 13 → 40 + j = i → (Ψ f).set 11 (.inl (.int, (13, .inl (upd (aQ f) j v)))) = Ψ (upd f i v)) ∧
  (∀ j i v, j < 40 → 5 + 5 * (j % 8) + j / 8 = i → (Ψ f).set 12 (.inl (.int, (40, .inl (upd (aH f) j v)))) = Ψ (upd f i v)) ∧
  (∀ j i v, j < 20 → 53 + j = i → (Ψ f).set 13 (.inl (.int, (20, .inl (upd (aB 53 f) j v)))) = Ψ (upd f i v)) ∧
  (∀ j i v, j < 20 → 73 + j = i → (Ψ f).set 14 (.inl (.int, (20, .inl (upd (aB 73 f) j v)))) = Ψ (upd f i v)) ∧
  (∀ j i v, j < 20 → 93 + j = i → (Ψ f).set 15 (.inl (.int, (20, .inl (upd (aB 93 f) j v)))) = Ψ (upd f i v)) ∧
  (∀ j i v, j < 20 → 113 + j = i → (Ψ f).set 16 (.inl (.int, (20, .inl (upd (aB 113 f) j v)))) = Ψ (upd f i v)) ∧
  (∀ j i v, j < 24 → 133 + 6 * (j % 4) + j / 4 = i → (Ψ f).set 17 (.inl (.int, (24, .inl (upd (aC f) j v)))) = Ψ (upd f i v))
/-- what lies ahead of the law's rows is told by A -/
def lwW (A : Nat → mj_C) (f : mj_S) : mj_W := [A 0, A 1, A 2, A 3, A 4, A 5, A 6, A 7, A 8, A 9, A 10, .inl (.int, (13, .inl (aQ f))), .inl (.int, (40, .inl (aH f))), .inl (.int, (20, .inl (aB 53 f))), .inl (.int, (20, .inl (aB 73 f))), .inl (.int, (20, .inl (aB 93 f))), .inl (.int, (20, .inl (aB 113 f))), .inl (.int, (24, .inl (aC f)))]
theorem lwW_HV (A : Nat → mj_C) : HV (lwW A) := by
  intro f
  refine ⟨⟨rfl, rfl, rfl, rfl, rfl, rfl, rfl⟩, ?_, ?_, ?_, ?_, ?_, ?_, ?_, ?_⟩
  · intro j v hj
    unfold lwW
    rw [aQ_l hj, aH_o (f := f) (i := j) (v := v) (by omega), aB_o (f := f) (b := 53) (i := j) (v := v) (by omega), aB_o (f := f) (b := 73) (i := j) (v := v) (by omega), aB_o (f := f) (b := 93) (i := j) (v := v) (by omega), aB_o (f := f) (b := 113) (i := j) (v := v) (by omega), aC_o (f := f) (i := j) (v := v) (by omega)]
    rfl
  · intro j i v hj e
    unfold lwW
    rw [aQ_h hj e, aH_o (f := f) (i := i) (v := v) (by omega), aB_o (f := f) (b := 53) (i := i) (v := v) (by omega), aB_o (f := f) (b := 73) (i := i) (v := v) (by omega), aB_o (f := f) (b := 93) (i := i) (v := v) (by omega), aB_o (f := f) (b := 113) (i := i) (v := v) (by omega), aC_o (f := f) (i := i) (v := v) (by omega)]
    rfl
  · intro j i v hj e
    unfold lwW
    rw [aH_i hj e, aQ_o (f := f) (i := i) (v := v) (by omega), aB_o (f := f) (b := 53) (i := i) (v := v) (by omega), aB_o (f := f) (b := 73) (i := i) (v := v) (by omega), aB_o (f := f) (b := 93) (i := i) (v := v) (by omega), aB_o (f := f) (b := 113) (i := i) (v := v) (by omega), aC_o (f := f) (i := i) (v := v) (by omega)]
    rfl
  · intro j i v hj e
    unfold lwW
    rw [aB_i hj e, aQ_o (f := f) (i := i) (v := v) (by omega), aH_o (f := f) (i := i) (v := v) (by omega), aB_o (f := f) (b := 73) (i := i) (v := v) (by omega), aB_o (f := f) (b := 93) (i := i) (v := v) (by omega), aB_o (f := f) (b := 113) (i := i) (v := v) (by omega), aC_o (f := f) (i := i) (v := v) (by omega)]
    rfl
  · intro j i v hj e
    unfold lwW
    rw [aB_i hj e, aQ_o (f := f) (i := i) (v := v) (by omega), aH_o (f := f) (i := i) (v := v) (by omega), aB_o (f := f) (b := 53) (i := i) (v := v) (by omega), aB_o (f := f) (b := 93) (i := i) (v := v) (by omega), aB_o (f := f) (b := 113) (i := i) (v := v) (by omega), aC_o (f := f) (i := i) (v := v) (by omega)]
    rfl
  · intro j i v hj e
    unfold lwW
    rw [aB_i hj e, aQ_o (f := f) (i := i) (v := v) (by omega), aH_o (f := f) (i := i) (v := v) (by omega), aB_o (f := f) (b := 53) (i := i) (v := v) (by omega), aB_o (f := f) (b := 73) (i := i) (v := v) (by omega), aB_o (f := f) (b := 113) (i := i) (v := v) (by omega), aC_o (f := f) (i := i) (v := v) (by omega)]
    rfl
  · intro j i v hj e
    unfold lwW
    rw [aB_i hj e, aQ_o (f := f) (i := i) (v := v) (by omega), aH_o (f := f) (i := i) (v := v) (by omega), aB_o (f := f) (b := 53) (i := i) (v := v) (by omega), aB_o (f := f) (b := 73) (i := i) (v := v) (by omega), aB_o (f := f) (b := 93) (i := i) (v := v) (by omega), aC_o (f := f) (i := i) (v := v) (by omega)]
    rfl
  · intro j i v hj e
    unfold lwW
    rw [aC_i hj e, aQ_o (f := f) (i := i) (v := v) (by omega), aH_o (f := f) (i := i) (v := v) (by omega), aB_o (f := f) (b := 53) (i := i) (v := v) (by omega), aB_o (f := f) (b := 73) (i := i) (v := v) (by omega), aB_o (f := f) (b := 93) (i := i) (v := v) (by omega), aB_o (f := f) (b := 113) (i := i) (v := v) (by omega)]
    rfl
theorem lwW_eq {A : Nat → mj_C} {f g : mj_S} (h : ∀ k, k < 157 → f k = g k) : lwW A f = lwW A g := by
  have e1 : aQ f = aQ g := by
    funext k
    unfold aQ
    split
    · split
      · exact h _ (by omega)
      · exact h _ (by omega)
    · rfl
  have e2 : aH f = aH g := by
    funext k
    unfold aH
    split
    · exact h _ (by omega)
    · rfl
  have e3 : ∀ b, b ≤ 113 → aB b f = aB b g := by
    intro b hb
    funext k
    unfold aB
    split
    · exact h _ (by omega)
    · rfl
  have e4 : aC f = aC g := by
    funext k
    unfold aC
    split
    · exact h _ (by omega)
    · rfl
  unfold lwW
  rw [e1, e2, e3 53 (by omega), e3 73 (by omega), e3 93 (by omega), e3 113 (by omega), e4]

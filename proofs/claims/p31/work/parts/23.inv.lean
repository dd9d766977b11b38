/-! WHAT STAYS TRUE of the state: the settings and the works are in their ranges; no turf is lost, none is less than none -/
def oA (f : mj_S) (D : Nat) : Prop := f 0 = nI D ∧ (f 1 = 0 ∨ f 1 = 1) ∧ (∃ s, s ≤ 9 ∧ f 2 = nI s) ∧ (∃ s, s ≤ 50 ∧ f 3 = nI s) ∧ (∃ s, s ≤ 30 ∧ f 4 = nI s) ∧ (∀ h, h < 5 → f (5 + h) = 0 ∨ f (5 + h) = 1) ∧ (∀ b, b < 4 → ∃ c, c ≤ 90 ∧ f (49 + b) = nI c) ∧ (∀ c, c < 6 → ∃ s, s ≤ 40 ∧ f (133 + c) = nI s) ∧ (∀ c, c < 6 → (f (139 + c) = -1 ∧ f (145 + c) = -1) ∨ ∃ h b, h < 5 ∧ b < 4 ∧ f (139 + c) = nI h ∧ f (145 + c) = nI b)
def vt (f : mj_S) : Prop := ∀ p, p < 20 → ∃ x y z u : Nat, f (73 + p) = nI x ∧ f (93 + p) = nI y ∧ f (113 + p) = nI z ∧ f (45 + p % 4) = nI u ∧ x + y + z + u ≤ 2000
def inA (k : Nat) : Prop := k < 10 ∨ (49 ≤ k ∧ k < 53) ∨ (133 ≤ k ∧ k < 151)
def sA (f g : mj_S) : Prop := ∀ k, inA k → g k = f k
def inT (k : Nat) : Prop := (45 ≤ k ∧ k < 49) ∨ (73 ≤ k ∧ k < 133)
def sT (f g : mj_S) : Prop := ∀ k, inT k → g k = f k
theorem sA_rf (f : mj_S) : sA f f := fun _ _ => rfl
theorem sA.tr {f g h : mj_S} (a : sA f g) (b : sA g h) : sA f h := fun k hk => (b k hk).trans (a k hk)
theorem sA_upd {f g : mj_S} {j : Nat} {v : Int32} (h : sA f g) (hj : ¬ inA j) : sA f (upd g j v) := fun k hk => by
  have hne : k ≠ j := fun e => hj (by rw [← e]; exact hk)
  rw [upd_n hne]; exact h k hk
theorem sT_rf (f : mj_S) : sT f f := fun _ _ => rfl
theorem sT.tr {f g h : mj_S} (a : sT f g) (b : sT g h) : sT f h := fun k hk => (b k hk).trans (a k hk)
theorem sT_upd {f g : mj_S} {j : Nat} {v : Int32} (h : sT f g) (hj : ¬ inT j) : sT f (upd g j v) := fun k hk => by
  have hne : k ≠ j := fun e => hj (by rw [← e]; exact hk)
  rw [upd_n hne]; exact h k hk
theorem oA_same {f g : mj_S} {D : Nat} (h : sA f g) (ho : oA f D) : oA g D := by
  obtain ⟨a0, a1, a2, a3, a4, a5, a6, a7, a8⟩ := ho
  have e : ∀ k, inA k → g k = f k := h
  refine ⟨?_, ?_, ?_, ?_, ?_, fun i hi => ?_, fun i hi => ?_, fun i hi => ?_, fun i hi => ?_⟩
  · rw [e 0 (Or.inl (by omega))]; exact a0
  · rw [e 1 (Or.inl (by omega))]; exact a1
  · rw [e 2 (Or.inl (by omega))]; exact a2
  · rw [e 3 (Or.inl (by omega))]; exact a3
  · rw [e 4 (Or.inl (by omega))]; exact a4
  · rw [e (5 + i) (Or.inl (by omega))]; exact a5 i hi
  · rw [e (49 + i) (Or.inr (Or.inl (by omega)))]; exact a6 i hi
  · rw [e (133 + i) (Or.inr (Or.inr (by omega)))]; exact a7 i hi
  · rw [e (139 + i) (Or.inr (Or.inr (by omega))), e (145 + i) (Or.inr (Or.inr (by omega)))]; exact a8 i hi
theorem vt_same {f g : mj_S} (h : sT f g) (hv : vt f) : vt g := fun p hp => by
  rw [h (73 + p) (Or.inr (by omega)), h (93 + p) (Or.inr (by omega)), h (113 + p) (Or.inr (by omega)), h (45 + p % 4) (Or.inl (by omega))]
  exact hv p hp
theorem n_half {z : Nat} (h : z < 2147483647) : (nI z + 1) / 2 = nI ((z + 1) / 2) := by
  rw [nI_1, show (2 : Int32) = nI 2 from rfl, pk_div (by omega) (by omega) (by omega)]
theorem n_third {z : Nat} (h : z < 2147483647) : nI z / 3 + 1 = nI (z / 3 + 1) := by
  rw [show (3 : Int32) = nI 3 from rfl, pk_div (by omega) (by omega) (by omega), nI_1]
theorem n_mn {a b : Nat} (ha : a < 2147483648) (hb : b < 2147483648) : mn (nI a) (nI b) = nI (if b < a then b else a) := by
  unfold mn
  by_cases h : b < a
  · rw [if_pos ((nI_ltI hb ha).mpr h), if_pos h]
  · rw [if_neg (fun q => h ((nI_ltI hb ha).mp q)), if_neg h]
theorem vt_step {f g : mj_S} {p : Nat} (hp : p < 20) (hv : vt f) (h : ∀ k, k ≠ 73 + p → k ≠ 93 + p → k ≠ 113 + p → g k = f k) (hx : ∀ x y z : Nat, f (73 + p) = nI x → f (93 + p) = nI y → f (113 + p) = nI z → x + y + z ≤ 2000 → ∃ x' y' z' : Nat, g (73 + p) = nI x' ∧ g (93 + p) = nI y' ∧ g (113 + p) = nI z' ∧ x' + y' + z' ≤ x + y + z) : vt g := by
  intro p' hp'
  obtain ⟨x, y, z, u, ex, ey, ez, eu, hs⟩ := hv p' hp'
  by_cases e : p' = p
  · subst e
    obtain ⟨x', y', z', gx, gy, gz, hs'⟩ := hx x y z ex ey ez (by omega)
    exact ⟨x', y', z', u, gx, gy, gz, by rw [h _ (by omega) (by omega) (by omega)]; exact eu, by omega⟩
  · refine ⟨x, y, z, u, ?_, ?_, ?_, ?_, hs⟩
    · rw [h _ (by omega) (by omega) (by omega)]; exact ex
    · rw [h _ (by omega) (by omega) (by omega)]; exact ey
    · rw [h _ (by omega) (by omega) (by omega)]; exact ez
    · rw [h _ (by omega) (by omega) (by omega)]; exact eu
theorem sA_soak {f : mj_S} {p : Nat} (hp : p < 20) : sA f (s_soak p f) := sA_upd (sA_upd (sA_upd (sA_rf f) (by unfold inA; omega)) (by unfold inA; omega)) (by unfold inA; omega)
theorem sA_dry {f : mj_S} {p : Nat} (hp : p < 20) : sA f (s_dry p f) := sA_upd (sA_upd (sA_upd (sA_rf f) (by unfold inA; omega)) (by unfold inA; omega)) (by unfold inA; omega)
theorem vt_soak {f : mj_S} {p : Nat} (hp : p < 20) (hv : vt f) : vt (s_soak p f) := by
  refine vt_step hp hv (fun k h1 h2 h3 => by rw [s_soak, upd_n h1, upd_n h2, upd_n h3]) ?_
  intro x y z ex ey ez hs
  refine ⟨x + ((z + 1) / 2 + (y + 1) / 2), y - (y + 1) / 2, z - (z + 1) / 2, ?_, ?_, ?_, by omega⟩
  · rw [s_soak, upd_s, ex, ey, ez, n_half (by omega), n_half (by omega), nI_add, nI_add]
  · rw [s_soak, upd_n (by omega), upd_s, ey, n_half (by omega), pk_sub (by omega)]
  · rw [s_soak, upd_n (by omega), upd_n (by omega), upd_s, ez, n_half (by omega), pk_sub (by omega)]
theorem vt_dry {f : mj_S} {p : Nat} (hp : p < 20) (hv : vt f) : vt (s_dry p f) := by
  refine vt_step hp hv (fun k h1 h2 h3 => by rw [s_dry, upd_n h3, upd_n h2, upd_n h1]) ?_
  intro x y z ex ey ez hs
  have e1 : mn (nI y / 3 + 1) (nI y) = nI (if y < y / 3 + 1 then y else y / 3 + 1) := by rw [n_third (by omega), n_mn (by omega) (by omega)]
  have hle : (if y < y / 3 + 1 then y else y / 3 + 1) ≤ y := by split <;> omega
  generalize (if y < y / 3 + 1 then y else y / 3 + 1) = m at e1 hle
  refine ⟨x - (x + 1) / 2, y - m + (x + 1) / 2, z + m, ?_, ?_, ?_, by omega⟩
  · rw [s_dry, upd_n (by omega), upd_n (by omega), upd_s, ex, n_half (by omega), pk_sub (by omega)]
  · rw [s_dry, upd_n (by omega), upd_s, ex, ey, e1, n_half (by omega), pk_sub (by omega), nI_add]
  · rw [s_dry, upd_s, ey, ez, e1, nI_add]
theorem sA_wth {f : mj_S} {r : Nat} : sA f (s_wth r f) := by
  unfold s_wth
  have h1 : ∀ d c (g : mj_S), c + d ≤ 20 → sA f g → sA f (itr s_soak d c g) := by
    intro d
    induction d with
    | zero => intro c g _ h; exact h
    | succ d ih => intro c g hc h; exact ih (c + 1) _ (by omega) (h.tr (sA_soak (by omega)))
  have h2 : ∀ d c (g : mj_S), c + d ≤ 20 → sA f g → sA f (itr s_dry d c g) := by
    intro d
    induction d with
    | zero => intro c g _ h; exact h
    | succ d ih => intro c g hc h; exact ih (c + 1) _ (by omega) (h.tr (sA_dry (by omega)))
  split
  · exact h1 20 0 f (by omega) (sA_rf f)
  · split
    · exact h2 20 0 f (by omega) (sA_rf f)
    · exact sA_rf f
theorem vt_wth {f : mj_S} {r : Nat} (hv : vt f) : vt (s_wth r f) := by
  unfold s_wth
  have h1 : ∀ d c (g : mj_S), c + d ≤ 20 → vt g → vt (itr s_soak d c g) := by
    intro d
    induction d with
    | zero => intro c g _ h; exact h
    | succ d ih => intro c g hc h; exact ih (c + 1) _ (by omega) (vt_soak (by omega) h)
  have h2 : ∀ d c (g : mj_S), c + d ≤ 20 → vt g → vt (itr s_dry d c g) := by
    intro d
    induction d with
    | zero => intro c g _ h; exact h
    | succ d ih => intro c g hc h; exact ih (c + 1) _ (by omega) (vt_dry (by omega) h)
  split
  · exact h1 20 0 f (by omega) hv
  · split
    · exact h2 20 0 f (by omega) hv
    · exact hv
/-- where a plot is empty nothing dries and nothing is wetted -/
theorem tv_empty {f : mj_S} {p : Nat} (hp : p < 20) (hv : vt f) (h : s_tv f p = 0) : f (73 + p) = 0 ∧ f (93 + p) = 0 ∧ f (113 + p) = 0 := by
  obtain ⟨x, y, z, u, ex, ey, ez, eu, hs⟩ := hv p hp
  rw [s_tv, ex, ey, ez, nI_add, nI_add] at h
  have h0 : x + y + z = 0 := (nI_eq (b := 0) (by omega) (by omega)).mp h
  rw [ex, ey, ez, show x = 0 by omega, show y = 0 by omega, show z = 0 by omega]
  exact ⟨rfl, rfl, rfl⟩
theorem upd_same {f : mj_S} {j : Nat} {v : Int32} (h : v = f j) : upd f j v = f := by rw [h]; exact upd_id f j
theorem soak_empty {f : mj_S} {p : Nat} (hp : p < 20) (hv : vt f) (h : s_tv f p = 0) : s_soak p f = f := by
  obtain ⟨h1, h2, h3⟩ := tv_empty hp hv h
  rw [s_soak, h1, h2, h3, show (0 : Int32) - (0 + 1) / 2 = 0 from rfl, show (0 : Int32) + ((0 + 1) / 2 + (0 + 1) / 2) = 0 from rfl, upd_same (f := f) h3.symm, upd_same h2.symm, upd_same h1.symm]
theorem dry_empty {f : mj_S} {p : Nat} (hp : p < 20) (hv : vt f) (h : s_tv f p = 0) : s_dry p f = f := by
  obtain ⟨h1, h2, h3⟩ := tv_empty hp hv h
  rw [s_dry, h1, h2, h3, show mn ((0 : Int32) / 3 + 1) 0 = 0 from rfl, show (0 : Int32) - (0 + 1) / 2 = 0 from rfl, show (0 : Int32) - 0 + (0 + 1) / 2 = 0 from rfl, show (0 : Int32) + 0 = 0 from rfl, upd_same (f := f) h1.symm, upd_same h2.symm, upd_same h3.symm]
theorem sA_cut {f : mj_S} {D c : Nat} (ho : oA f D) (hc : c < 6) : sA f (s_cut c f) := by
  unfold s_cut
  split
  · exact sA_rf f
  · rename_i hne
    obtain ⟨-, -, -, -, -, -, -, -, a8⟩ := ho
    rcases a8 c hc with ⟨e1, -⟩ | ⟨h, b, hh, hb, e1, e2⟩
    · exact absurd e1 hne
    · simp only [e1, e2, nI_clamp (show h < 2 ^ 31 by omega), nI_clamp (show b < 2 ^ 31 by omega)]
      exact sA_upd (sA_upd (sA_upd (sA_upd (sA_rf f) (by unfold inA; omega)) (by unfold inA; omega)) (by unfold inA; omega)) (by unfold inA; omega)
theorem vt_cut {f : mj_S} {D c : Nat} (ho : oA f D) (hc : c < 6) (hv : vt f) : vt (s_cut c f) := by
  unfold s_cut
  split
  · exact hv
  · rename_i hne
    obtain ⟨-, -, -, -, -, -, -, a7, a8⟩ := ho
    rcases a8 c hc with ⟨e1, -⟩ | ⟨h, b, hh, hb, e1, e2⟩
    · exact absurd e1 hne
    · obtain ⟨st, hst, es⟩ := a7 c hc
      obtain ⟨x0, y0, z0, u0, ex0, ey0, ez0, eu0, hs0⟩ := hv (b + 4 * h) (by omega)
      rw [show (b + 4 * h) % 4 = b by omega] at eu0
      simp only [e1, e2, nI_clamp (show h < 2 ^ 31 by omega), nI_clamp (show b < 2 ^ 31 by omega), es, eu0, n_mn (show st < 2147483648 by omega) (show u0 < 2147483648 by omega)]
      have hle : (if u0 < st then u0 else st) ≤ u0 := by split <;> omega
      generalize (if u0 < st then u0 else st) = m at hle
      intro p hp
      obtain ⟨x, y, z, u, ex, ey, ez, eu, hs⟩ := hv p hp
      by_cases hb2 : p % 4 = b
      · by_cases hpp : p = b + 4 * h
        · subst hpp
          rw [ex0] at ex; rw [ey0] at ey; rw [ez0] at ez
          refine ⟨x0 + m, y0, z0, u0 - m, ?_, ?_, ?_, ?_, by omega⟩
          · rw [upd_n (by omega), upd_n (by omega), show 73 + (b + 4 * h) = 73 + b + 4 * h by omega, upd_s, upd_n (by omega), show 73 + b + 4 * h = 73 + (b + 4 * h) by omega, ex0, nI_add]
          · rw [upd_n (by omega), upd_n (by omega), upd_n (by omega), upd_n (by omega), ey0]
          · rw [upd_n (by omega), upd_n (by omega), upd_n (by omega), upd_n (by omega), ez0]
          · rw [upd_n (by omega), upd_n (by omega), upd_n (by omega), hb2, upd_s, pk_sub hle]
        · rw [hb2] at eu
          rw [eu0] at eu
          have huu : u = u0 := ((nI_eq (by omega) (by omega)).mp eu).symm
          refine ⟨x, y, z, u0 - m, ?_, ?_, ?_, ?_, by omega⟩
          · rw [upd_n (by omega), upd_n (by omega), upd_n (by omega), upd_n (by omega), ex]
          · rw [upd_n (by omega), upd_n (by omega), upd_n (by omega), upd_n (by omega), ey]
          · rw [upd_n (by omega), upd_n (by omega), upd_n (by omega), upd_n (by omega), ez]
          · rw [upd_n (by omega), upd_n (by omega), upd_n (by omega), hb2, upd_s, pk_sub hle]
      · refine ⟨x, y, z, u, ?_, ?_, ?_, ?_, hs⟩
        · rw [upd_n (by omega), upd_n (by omega), upd_n (by omega), upd_n (by omega), ex]
        · rw [upd_n (by omega), upd_n (by omega), upd_n (by omega), upd_n (by omega), ey]
        · rw [upd_n (by omega), upd_n (by omega), upd_n (by omega), upd_n (by omega), ez]
        · rw [upd_n (by omega), upd_n (by omega), upd_n (by omega), upd_n (by omega), eu]
theorem cuts_ok {f : mj_S} {D : Nat} : ∀ (d c : Nat) (g : mj_S), c + d ≤ 6 → sA f g → oA f D → vt g → sA f (itr s_cut d c g) ∧ vt (itr s_cut d c g)
  | 0, c, g, hc, h, ho, hv => ⟨h, hv⟩
  | d + 1, c, g, hc, h, ho, hv => cuts_ok d (c + 1) _ (by omega) (h.tr (sA_cut (oA_same h ho) (by omega))) ho (vt_cut (oA_same h ho) (by omega) hv)
/-- the widow's hearth that is named is one -/
theorem poor_in (f : mj_S) : s_poor f = -1 ∨ ∃ v, v < 5 ∧ s_poor f = nI v := by
  unfold s_poor
  have h : ∀ d c (a : Int32), c + d ≤ 5 → (a = -1 ∨ ∃ v, v < 5 ∧ a = nI v) → (itr (fun h a => if f (5 + h) = 1 ∧ (a = -1 ∨ f (15 + h) < f (15 + a.toNatClampNeg)) then nI h else a) d c a = -1 ∨ ∃ v, v < 5 ∧ itr (fun h a => if f (5 + h) = 1 ∧ (a = -1 ∨ f (15 + h) < f (15 + a.toNatClampNeg)) then nI h else a) d c a = nI v) := by
    intro d
    induction d with
    | zero => intro c a _ h; exact h
    | succ d ih =>
      intro c a hc h
      refine ih (c + 1) _ (by omega) ?_
      dsimp only
      split
      · exact Or.inr ⟨c, by omega, rfl⟩
      · exact h
  exact h 5 0 (-1) (by omega) (Or.inl rfl)
theorem sA_bring {f : mj_S} {h b : Nat} {m : Int32} (hh : h < 5) (hb : b < 4) : sA f (s_bring f h b m) := by
  unfold s_bring
  have h2 : sA f (upd (upd f (113 + b + 4 * h) (f (113 + b + 4 * h) - m)) (15 + h) (upd f (113 + b + 4 * h) (f (113 + b + 4 * h) - m) (15 + h) + m)) := sA_upd (sA_upd (sA_rf f) (by unfold inA; omega)) (by unfold inA; omega)
  dsimp only
  generalize upd (upd f (113 + b + 4 * h) (f (113 + b + 4 * h) - m)) (15 + h) (upd f (113 + b + 4 * h) (f (113 + b + 4 * h) - m) (15 + h) + m) = f2 at h2
  split
  · exact h2
  · split
    · exact h2
    · rename_i hne
      rcases poor_in f2 with e | ⟨v, hv, e⟩
      · exact absurd e hne
      · rw [e, nI_clamp (by omega)]
        exact sA_upd (sA_upd (sA_upd (sA_upd h2 (by unfold inA; omega)) (by unfold inA; omega)) (by unfold inA; omega)) (by unfold inA; omega)
theorem vt_bring {f : mj_S} {h b : Nat} {m z : Nat} (hh : h < 5) (hb : b < 4) (hv : vt f) (hz : f (113 + b + 4 * h) = nI z) (hz2 : z ≤ 2000) (hm : m ≤ z) : vt (s_bring f h b (nI m)) := by
  have h1 : vt (upd f (113 + b + 4 * h) (f (113 + b + 4 * h) - nI m)) := by
    refine vt_step (p := b + 4 * h) (by omega) hv (fun k _ _ h3 => upd_n (by omega)) ?_
    intro x y z' ex ey ez hs
    rw [show 113 + (b + 4 * h) = 113 + b + 4 * h by omega] at ez ⊢
    rw [hz] at ez
    have hzz : z = z' := (nI_eq (by omega) (by omega)).mp ez
    exact ⟨x, y, z - m, by rw [upd_n (by omega)]; exact ex, by rw [upd_n (by omega)]; exact ey, by rw [upd_s, hz, pk_sub hm], by omega⟩
  have h2 : vt (upd (upd f (113 + b + 4 * h) (f (113 + b + 4 * h) - nI m)) (15 + h) (upd f (113 + b + 4 * h) (f (113 + b + 4 * h) - nI m) (15 + h) + nI m)) := vt_same (sT_upd (sT_rf _) (by unfold inT; omega)) h1
  unfold s_bring
  dsimp only
  generalize upd (upd f (113 + b + 4 * h) (f (113 + b + 4 * h) - nI m)) (15 + h) (upd f (113 + b + 4 * h) (f (113 + b + 4 * h) - nI m) (15 + h) + nI m) = f2 at h2
  split
  · exact h2
  · split
    · exact h2
    · rename_i hne
      rcases poor_in f2 with e | ⟨v, hv, e⟩
      · exact absurd e hne
      · rw [e, nI_clamp (by omega)]
        exact vt_same (sT_upd (sT_upd (sT_upd (sT_upd (sT_rf _) (by unfold inT; omega)) (by unfold inT; omega)) (by unfold inT; omega)) (by unfold inT; omega)) h2
/-- the carts of a bank: at most what the track carries, never less than none -/
theorem cart_ok {f : mj_S} {D b : Nat} (hb : b < 4) : ∀ (d c : Nat) (g : mj_S) (l : Nat), sA f g → vt g → l < 2147483648 → ∃ l', l' ≤ l ∧ sA f (itr (s_cart1 D b) d c (g, nI l)).1 ∧ vt (itr (s_cart1 D b) d c (g, nI l)).1 ∧ (itr (s_cart1 D b) d c (g, nI l)).2 = nI l'
  | 0, c, g, l, h, hv, hl => ⟨l, Nat.le_refl _, h, hv, rfl⟩
  | d + 1, c, g, l, h, hv, hl => by
    have hh : (D + c) % 5 < 5 := Nat.mod_lt _ (by omega)
    obtain ⟨x, y, z, u, ex, ey, ez, eu, hs⟩ := hv (b + 4 * ((D + c) % 5)) (by omega)
    rw [show 113 + (b + 4 * ((D + c) % 5)) = 113 + b + 4 * ((D + c) % 5) by omega] at ez
    have e1 : mn (g (113 + b + 4 * ((D + c) % 5))) (nI l) = nI (if l < z then l else z) := by rw [ez, n_mn (by omega) hl]
    have hle : (if l < z then l else z) ≤ z ∧ (if l < z then l else z) ≤ l := by split <;> omega
    generalize (if l < z then l else z) = m at e1 hle
    have e2 : itr (s_cart1 D b) (d + 1) c (g, nI l) = itr (s_cart1 D b) d (c + 1) (s_bring g ((D + c) % 5) b (nI m), nI (l - m)) := by
      rw [itr_s, s_cart1]
      dsimp only
      rw [e1, pk_sub hle.2]
    rw [e2]
    obtain ⟨l', h1, h2, h3, h4⟩ := cart_ok (f := f) (D := D) hb d (c + 1) (s_bring g ((D + c) % 5) b (nI m)) (l - m) (h.tr (sA_bring hh hb)) (vt_bring hh hb hv ez (by omega) hle.1) (by omega)
    exact ⟨l', by omega, h2, h3, h4⟩
theorem carts_ok {f : mj_S} {D E : Nat} (ho : oA f D) : ∀ (d c : Nat) (g : mj_S) (n : Nat), c + d ≤ 4 → sA f g → vt g → n + 90 * d < 2147483648 → ∃ n', n' ≤ n + 90 * d ∧ sA f (itr (s_carts1 E) d c (g, nI n)).1 ∧ vt (itr (s_carts1 E) d c (g, nI n)).1 ∧ (itr (s_carts1 E) d c (g, nI n)).2 = nI n'
  | 0, c, g, n, hc, h, hv, hn => ⟨n, by omega, h, hv, rfl⟩
  | d + 1, c, g, n, hc, h, hv, hn => by
    obtain ⟨k, hk, ek⟩ := (oA_same h ho).2.2.2.2.2.2.1 c (by omega)
    obtain ⟨l', h1, h2, h3, h4⟩ := cart_ok (f := f) (D := E) (b := c) (by omega) 5 0 g k h hv (by omega)
    have e2 : itr (s_carts1 E) (d + 1) c (g, nI n) = itr (s_carts1 E) d (c + 1) ((s_cart E c g).1, nI (n + (k - l'))) := by
      rw [itr_s, s_carts1]
      dsimp only
      rw [show (s_cart E c g).2 = nI l' by rw [s_cart, ek]; exact h4, ek, pk_sub h1, nI_add]
    rw [e2]
    have e3 : (s_cart E c g).1 = (itr (s_cart1 E c) 5 0 (g, nI k)).1 := by rw [s_cart, ek]
    rw [← e3] at h2 h3
    obtain ⟨n', q1, q2, q3, q4⟩ := carts_ok (E := E) ho d (c + 1) (s_cart E c g).1 (n + (k - l')) (by omega) h2 h3 (by omega)
    exact ⟨n', by omega, q2, q3, q4⟩
theorem burn_ok {f : mj_S} : ∀ (d c : Nat) (g : mj_S), c + d ≤ 5 → sA f g → vt g → sA f (itr s_burn1 d c g) ∧ vt (itr s_burn1 d c g)
  | 0, c, g, hc, h, hv => ⟨h, hv⟩
  | d + 1, c, g, hc, h, hv => burn_ok d (c + 1) _ (by omega) (sA_upd (sA_upd (sA_upd h (by unfold inA; omega)) (by unfold inA; omega)) (by unfold inA; omega)) (vt_same (sT_upd (sT_upd (sT_upd (sT_rf g) (by unfold inT; omega)) (by unfold inT; omega)) (by unfold inT; omega)) hv)
theorem oA_day {f : mj_S} {D : Nat} (ho : oA f D) : oA (upd f 0 (f 0 + 1)) (D + 1) := by
  obtain ⟨a0, a1, a2, a3, a4, a5, a6, a7, a8⟩ := ho
  refine ⟨?_, ?_, ?_, ?_, ?_, fun i hi => ?_, fun i hi => ?_, fun i hi => ?_, fun i hi => ?_⟩
  · rw [upd_s, a0, nI_1]
  · rw [upd_n (by omega)]; exact a1
  · rw [upd_n (by omega)]; exact a2
  · rw [upd_n (by omega)]; exact a3
  · rw [upd_n (by omega)]; exact a4
  · rw [upd_n (by omega)]; exact a5 i hi
  · rw [upd_n (by omega)]; exact a6 i hi
  · rw [upd_n (by omega)]; exact a7 i hi
  · rw [upd_n (by omega), upd_n (by omega)]; exact a8 i hi
/-- a day keeps it all; what comes home is between none and 360 -/
theorem day_ok {f : mj_S} {D : Nat} (ho : oA f D) (hv : vt f) : oA (s_day f).1 (D + 1) ∧ vt (s_day f).1 ∧ ∃ n, n ≤ 360 ∧ (s_day f).2 = nI n := by
  have ho1 := oA_day ho
  have hv1 : vt (upd f 0 (f 0 + 1)) := vt_same (sT_upd (sT_rf f) (by unfold inT; omega)) hv
  unfold s_day
  dsimp only
  generalize upd f 0 (f 0 + 1) = f0 at ho1 hv1
  by_cases hs : f 1 = 1
  · simp only [if_pos hs]
    obtain ⟨h1, h2⟩ := burn_ok (f := s_wth 0 f0) 5 0 (s_wth 0 f0) (by omega) (sA_rf _) (vt_wth hv1)
    exact ⟨oA_same (sA_wth.tr h1) ho1, h2, 0, by omega, rfl⟩
  · simp only [if_neg hs]
    obtain ⟨h1, h2⟩ := cuts_ok (f := f0) 6 0 f0 (by omega) (sA_rf _) ho1 hv1
    have h3 : sA f0 (s_wth (s_rain f0 (f0 0).toNatClampNeg) (s_cuts f0)) := sA.tr h1 sA_wth
    have h4 : vt (s_wth (s_rain f0 (f0 0).toNatClampNeg) (s_cuts f0)) := vt_wth h2
    generalize s_wth (s_rain f0 (f0 0).toNatClampNeg) (s_cuts f0) = g at h3 h4
    obtain ⟨n', q1, q2, q3, q4⟩ := carts_ok (E := (f0 0).toNatClampNeg) (oA_same h3 ho1) 4 0 g 0 (by omega) (sA_rf _) h4 (by omega)
    exact ⟨oA_same (h3.tr q2) ho1, q3, n', by omega, q4⟩
theorem days_ok {f : mj_S} {D : Nat} (ho : oA f D) (hv : vt f) : ∀ n : Nat, 360 * n < 2147483648 → oA (s_days n f).1 (D + n) ∧ vt (s_days n f).1 ∧ ∃ k, k ≤ 360 * n ∧ (s_days n f).2 = nI k
  | 0, _ => ⟨ho, hv, 0, by omega, rfl⟩
  | n + 1, hn => by
    obtain ⟨h1, h2, k, hk, ek⟩ := days_ok ho hv n (by omega)
    have e : s_days (n + 1) f = s_days1 (0 + n) (s_days n f) := itr_last _ _ _ _
    rw [e, s_days1]
    dsimp only
    obtain ⟨q1, q2, m, hm, em⟩ := day_ok h1 h2
    exact ⟨q1, q2, k + m, by omega, by rw [ek, em, nI_add]⟩

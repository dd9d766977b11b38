/-! WHAT THE LAW LOOKS AT: sums, hearths -/
def su (g : Nat → Int32) (n : Nat) : Int32 := itr (fun i a => a + g i) n 0 0
theorem su_s (g : Nat → Int32) (n : Nat) : su g (n + 1) = su g n + g n := by
  unfold su
  rw [itr_last, Nat.zero_add]
theorem su_add (g h : Nat → Int32) : ∀ n, su (fun i => g i + h i) n = su g n + su h n
  | 0 => rfl
  | n + 1 => by
    rw [su_s, su_s, su_s, su_add g h n]
    grind
theorem su_0 : ∀ n, su (fun _ => 0) n = 0
  | 0 => rfl
  | n + 1 => by
    rw [su_s, su_0 n]
    rfl
theorem su_swap (F : Nat → Nat → Int32) (m : Nat) : ∀ n, su (fun h => su (fun c => F c h) m) n = su (fun c => su (fun h => F c h) n) m
  | 0 => (su_0 m).symm
  | n + 1 => by
    rw [su_s, su_swap F m n, ← su_add]
    have e : (fun i => su (fun h => F i h) n + F i n) = fun i => su (fun h => F i h) (n + 1) := funext fun i => (su_s _ _).symm
    rw [e]
theorem su_congr {g h : Nat → Int32} : ∀ (n : Nat), (∀ i, i < n → g i = h i) → su g n = su h n
  | 0, _ => rfl
  | n + 1, e => by rw [su_s, su_s, su_congr n (fun i hi => e i (by omega)), e n (by omega)]
theorem su_sum (f : mj_S) (a n : Nat) : s_sum f a n = su (fun i => f (a + i)) n := rfl
/-- one that stands at p alone is counted once -/
theorem su_one (P : Prop) [Decidable P] {n p : Nat} (hp : p < n) (hn : n ≤ 5) : su (fun h => if nI p = nI h ∧ P then 1 else 0) n = if P then 1 else 0 := by
  by_cases hP : P
  · simp only [hP, and_true, if_true]
    rcases (show n = 1 ∨ n = 2 ∨ n = 3 ∨ n = 4 ∨ n = 5 by omega) with rfl | rfl | rfl | rfl | rfl <;> rcases (show p = 0 ∨ p = 1 ∨ p = 2 ∨ p = 3 ∨ p = 4 by omega) with rfl | rfl | rfl | rfl | rfl <;> first | (exfalso; omega) | decide +kernel
  · simp only [hP, and_false, if_false]
    exact su_0 n
theorem cnt_su (f : mj_S) (h b : Int32) : s_cnt f h b = su (fun c => if f (139 + c) = h ∧ f (145 + c) = b then 1 else 0) 6 := by
  unfold s_cnt su
  exact itr_congr 6 0 0 (fun k _ _ x => by
    by_cases e : f (139 + k) = h ∧ f (145 + k) = b
    · rw [if_pos e]
      dsimp only
      rw [if_pos e]
    · rw [if_neg e]
      dsimp only
      rw [if_neg e]
      grind)
theorem wk_su (f : mj_S) (x y : Int32) : s_wk f x y = su (fun c => if 0 ≤ f (139 + c) ∧ (x < 0 ∨ f (139 + c) = x) ∧ (y < 0 ∨ f (145 + c) = y) then 1 else 0) 6 := rfl
theorem wk_cnt {f : mj_S} {h b : Nat} (hh : h < 5) (hb : b < 4) : s_wk f (nI h) (nI b) = s_cnt f (nI h) (nI b) := by
  rw [wk_su, cnt_su]
  refine su_congr 6 (fun c hc => ?_)
  by_cases e : f (139 + c) = nI h ∧ f (145 + c) = nI b
  · rw [if_pos e, if_pos ⟨by rw [e.1]; exact nI_pos' (by omega), Or.inr e.1, Or.inr e.2⟩]
  · rw [if_neg e, if_neg (fun q => e ⟨q.2.1.resolve_left (nI_pos (by omega)), q.2.2.resolve_left (nI_pos (by omega))⟩)]
theorem wk_cntB {f : mj_S} {D b : Nat} (ho : oA f D) (hb : b < 4) : s_wk f (-1) (nI b) = s_cntB f (nI b) := by
  have e : s_cntB f (nI b) = su (fun h => su (fun c => if f (139 + c) = nI h ∧ f (145 + c) = nI b then 1 else 0) 6) 5 := by
    unfold s_cntB su
    exact itr_congr 5 0 0 (fun k _ _ x => by rw [cnt_su]; rfl)
  rw [e, su_swap, wk_su]
  refine su_congr 6 (fun c hc => ?_)
  rcases ho.2.2.2.2.2.2.2.2 c hc with ⟨e1, e2⟩ | ⟨h0, b0, hh0, hb0, e1, e2⟩
  · rw [e1, if_neg (fun q => absurd q.1 (by decide))]
    refine ((su_congr 5 (fun h hh => ?_)).trans (su_0 5)).symm
    rw [if_neg (fun q => nI_m1 (a := h) (by omega) q.1.symm)]
  · rw [e1, e2, su_one (nI b0 = nI b) hh0 (by omega)]
    by_cases q : nI b0 = nI b
    · rw [if_pos q, if_pos ⟨nI_pos' (by omega), Or.inl m1_neg, Or.inr q⟩]
    · rw [if_neg q, if_neg (fun z => q (z.2.2.resolve_left (nI_pos (by omega))))]
theorem wk_cntA {f : mj_S} {D : Nat} (ho : oA f D) : s_wk f (-1) (-1) = s_cntA f := by
  have e : s_cntA f = su (fun b => su (fun c => if 0 ≤ f (139 + c) ∧ ((-1 : Int32) < 0 ∨ f (139 + c) = -1) ∧ (nI b < 0 ∨ f (145 + c) = nI b) then 1 else 0) 6) 4 := by
    unfold s_cntA su
    exact itr_congr 4 0 0 (fun k _ hk x => by rw [← wk_cntB ho (by omega), wk_su]; rfl)
  rw [e, su_swap, wk_su]
  refine su_congr 6 (fun c hc => ?_)
  rcases ho.2.2.2.2.2.2.2.2 c hc with ⟨e1, e2⟩ | ⟨h0, b0, hh0, hb0, e1, e2⟩
  · rw [e1, if_neg (fun q => absurd q.1 (by decide))]
    refine ((su_congr 4 (fun h hh => ?_)).trans (su_0 4)).symm
    rw [if_neg (fun q => absurd q.1 (by decide))]
  · rw [e1, e2, if_pos ⟨nI_pos' (by omega), Or.inl m1_neg, Or.inl m1_neg⟩]
    have h1 := su_one True hb0 (show 4 ≤ 5 by omega)
    rw [if_pos trivial] at h1
    refine h1.symm.trans (su_congr 4 (fun b hb => ?_))
    by_cases q : nI b0 = nI b
    · rw [if_pos ⟨q, trivial⟩, if_pos ⟨nI_pos' (by omega), Or.inl m1_neg, Or.inr q⟩]
    · rw [if_neg (fun z => q z.1), if_neg (fun z => q (z.2.2.resolve_left (nI_pos (by omega))))]
theorem tvH_su (f : mj_S) (k : Nat) : s_tvH f k = s_sum f (73 + 4 * k) 4 + s_sum f (93 + 4 * k) 4 + s_sum f (113 + 4 * k) 4 := by
  rw [su_sum, su_sum, su_sum, ← su_add, ← su_add]
  unfold s_tvH su
  exact itr_congr 4 0 0 (fun i _ _ x => by rw [s_tv, show 73 + (i + 4 * k) = 73 + 4 * k + i by omega, show 93 + (i + 4 * k) = 93 + 4 * k + i by omega, show 113 + (i + 4 * k) = 113 + 4 * k + i by omega])
theorem tvH_n {f : mj_S} (hv : vt f) {k : Nat} (hk : k < 5) : ∃ t, t ≤ 8000 ∧ s_tvH f k = nI t := by
  have h : ∀ d c x, c + d ≤ 4 → ∃ t, t ≤ x + 2000 * d ∧ itr (fun b a => a + s_tv f (b + 4 * k)) d c (nI x) = nI t := by
    intro d
    induction d with
    | zero => intro c x _; exact ⟨x, by omega, rfl⟩
    | succ d ih =>
      intro c x hc
      obtain ⟨x1, y1, z1, u1, e1, e2, e3, -, hs⟩ := hv (c + 4 * k) (by omega)
      obtain ⟨t, h1, h2⟩ := ih (c + 1) (x + (x1 + y1 + z1)) (by omega)
      refine ⟨t, by omega, ?_⟩
      rw [itr_s, s_tv, e1, e2, e3, nI_add, nI_add, nI_add]
      exact h2
  obtain ⟨t, h1, h2⟩ := h 4 0 0 (by omega)
  exact ⟨t, by omega, h2⟩
/-- what comes home and lies on banks is what was cut and given, less what was given away and burnt -/
theorem bal_eq {f : mj_S} {k : Nat} (h : bal f k = 0) : f (15 + k) + s_tvH f k = f (20 + k) + f (25 + k) - f (30 + k) - f (35 + k) := by
  unfold bal at h
  rw [tvH_su]
  grind
theorem sub3 (a b c : Int32) : a - (b + c) = a - b - c := by grind
theorem sh3_eq {f : mj_S} {k : Nat} (h : bal f k = 0) : s_sh3 f k = s_sh2 f k := by
  unfold s_sh3 s_sh2
  rw [← bal_eq h, sub3]
theorem mx0_le {n x : Nat} (hn : n < 1073741824) (hx : x < 1073741824) (h : n ≤ x) : mx0 (nI n - nI x) = 0 := by
  unfold mx0
  by_cases e : n = x
  · subst e
    rw [Int32.sub_self]
    rfl
  · have h1 : n < x := Nat.lt_of_le_of_ne h e
    rw [if_pos (pk_sneg hx h1)]
theorem mx0_gt {n x : Nat} (hn : n < 1073741824) (h : x ≤ n) : mx0 (nI n - nI x) = nI n - nI x := by
  unfold mx0
  rw [pk_sub h, if_neg (nI_pos (by omega))]


/-! NOTHING IS LOST: the sums that the law tells, and what a step does to them -/
theorem sum_go (f : mj_S) (j : Nat) (v : Int32) (a : Nat) : ∀ (d c : Nat) (x : Int32), (a + c + d ≤ j ∨ j < a + c) → itr (fun i x => x + upd f j v (a + i)) d c x = itr (fun i x => x + f (a + i)) d c x
  | 0, c, x, _ => rfl
  | d + 1, c, x, h => by
    rw [itr_s, itr_s, sum_go f j v a d (c + 1) _ (by omega), upd_n (by omega)]
theorem sum_o {f : mj_S} {j a n : Nat} {v : Int32} (h : j < a ∨ a + n ≤ j) : s_sum (upd f j v) a n = s_sum f a n := sum_go f j v a n 0 0 (by omega)
theorem itr_sh (g : Nat → Int32) (z : Int32) : ∀ (d c : Nat) (x : Int32), itr (fun i x => x + g i) d c (x + z) = itr (fun i x => x + g i) d c x + z
  | 0, _, _ => rfl
  | d + 1, c, x => by
    rw [itr_s, itr_s, ← itr_sh g z d (c + 1) (x + g c), show x + z + g c = x + g c + z by ac_rfl]
theorem sum_gi (f : mj_S) (j : Nat) (v : Int32) (a : Nat) : ∀ (d c : Nat) (x : Int32), a + c ≤ j → j < a + c + d → itr (fun i x => x + upd f j v (a + i)) d c x = itr (fun i x => x + f (a + i)) d c x + (v - f j)
  | 0, c, x, h1, h2 => by omega
  | d + 1, c, x, h1, h2 => by
    rw [itr_s, itr_s]
    by_cases e : j = a + c
    · subst e
      rw [sum_go f (a + c) v a d (c + 1) _ (by omega), upd_s, ← itr_sh, show x + f (a + c) + (v - f (a + c)) = x + v by grind]
    · rw [sum_gi f j v a d (c + 1) _ (by omega) (by omega), upd_n (by omega)]
theorem sum_i {f : mj_S} {j a n : Nat} {v : Int32} (h : a ≤ j) (h2 : j < a + n) : s_sum (upd f j v) a n = s_sum f a n + (v - f j) := sum_gi f j v a n 0 0 (by omega) (by omega)
def tot (f : mj_S) : Int32 := s_sum f 45 4 + s_sum f 73 20 + s_sum f 93 20 + s_sum f 113 20 + s_sum f 15 5 + s_sum f 35 5
def bal (f : mj_S) (k : Nat) : Int32 := f (15 + k) + s_sum f (73 + 4 * k) 4 + s_sum f (93 + 4 * k) 4 + s_sum f (113 + 4 * k) 4 + f (30 + k) + f (35 + k) - f (20 + k) - f (25 + k)
theorem tot_o {f : mj_S} {j : Nat} {v : Int32} (h : j < 15 ∨ (20 ≤ j ∧ j < 35) ∨ (40 ≤ j ∧ j < 45) ∨ (49 ≤ j ∧ j < 73) ∨ 133 ≤ j) : tot (upd f j v) = tot f := by
  unfold tot
  rw [sum_o (a := 45) (by omega), sum_o (a := 73) (by omega), sum_o (a := 93) (by omega), sum_o (a := 113) (by omega), sum_o (a := 15) (by omega), sum_o (a := 35) (by omega)]
theorem tot_i {f : mj_S} {j : Nat} {v : Int32} (h : (15 ≤ j ∧ j < 20) ∨ (35 ≤ j ∧ j < 40) ∨ (45 ≤ j ∧ j < 49) ∨ (73 ≤ j ∧ j < 133)) : tot (upd f j v) = tot f + (v - f j) := by
  unfold tot
  rcases (show (15 ≤ j ∧ j < 20) ∨ (35 ≤ j ∧ j < 40) ∨ (45 ≤ j ∧ j < 49) ∨ (73 ≤ j ∧ j < 93) ∨ (93 ≤ j ∧ j < 113) ∨ (113 ≤ j ∧ j < 133) by omega) with h | h | h | h | h | h
  · rw [sum_o (a := 45) (by omega), sum_o (a := 73) (by omega), sum_o (a := 93) (by omega), sum_o (a := 113) (by omega), sum_i (a := 15) (by omega) (by omega), sum_o (a := 35) (by omega)]
    grind
  · rw [sum_o (a := 45) (by omega), sum_o (a := 73) (by omega), sum_o (a := 93) (by omega), sum_o (a := 113) (by omega), sum_o (a := 15) (by omega), sum_i (a := 35) (by omega) (by omega)]
    grind
  · rw [sum_i (a := 45) (by omega) (by omega), sum_o (a := 73) (by omega), sum_o (a := 93) (by omega), sum_o (a := 113) (by omega), sum_o (a := 15) (by omega), sum_o (a := 35) (by omega)]
    grind
  · rw [sum_o (a := 45) (by omega), sum_i (a := 73) (by omega) (by omega), sum_o (a := 93) (by omega), sum_o (a := 113) (by omega), sum_o (a := 15) (by omega), sum_o (a := 35) (by omega)]
    grind
  · rw [sum_o (a := 45) (by omega), sum_o (a := 73) (by omega), sum_i (a := 93) (by omega) (by omega), sum_o (a := 113) (by omega), sum_o (a := 15) (by omega), sum_o (a := 35) (by omega)]
    grind
  · rw [sum_o (a := 45) (by omega), sum_o (a := 73) (by omega), sum_o (a := 93) (by omega), sum_i (a := 113) (by omega) (by omega), sum_o (a := 15) (by omega), sum_o (a := 35) (by omega)]
    grind
theorem bal_o {f : mj_S} {j k : Nat} {v : Int32} (h : j ≠ 15 + k ∧ j ≠ 20 + k ∧ j ≠ 25 + k ∧ j ≠ 30 + k ∧ j ≠ 35 + k ∧ (j < 73 + 4 * k ∨ 77 + 4 * k ≤ j) ∧ (j < 93 + 4 * k ∨ 97 + 4 * k ≤ j) ∧ (j < 113 + 4 * k ∨ 117 + 4 * k ≤ j)) : bal (upd f j v) k = bal f k := by
  unfold bal
  rw [upd_n (by omega), upd_n (by omega), upd_n (by omega), upd_n (by omega), upd_n (by omega), sum_o (a := 73 + 4 * k) (by omega), sum_o (a := 93 + 4 * k) (by omega), sum_o (a := 113 + 4 * k) (by omega)]
theorem bal_m {f : mj_S} {j k : Nat} {v : Int32} (hk : k < 5) (h : j = 20 + k ∨ j = 25 + k) : bal (upd f j v) k = bal f k - (v - f j) := by
  unfold bal
  rcases h with rfl | rfl
  · rw [sum_o (a := 73 + 4 * k) (by omega), sum_o (a := 93 + 4 * k) (by omega), sum_o (a := 113 + 4 * k) (by omega), upd_s, upd_n (by omega), upd_n (by omega), upd_n (by omega), upd_n (by omega)]
    grind
  · rw [sum_o (a := 73 + 4 * k) (by omega), sum_o (a := 93 + 4 * k) (by omega), sum_o (a := 113 + 4 * k) (by omega), upd_s, upd_n (by omega), upd_n (by omega), upd_n (by omega), upd_n (by omega)]
    grind
theorem bal_i {f : mj_S} {j k : Nat} {v : Int32} (hk : k < 5) (h : j = 15 + k ∨ j = 30 + k ∨ j = 35 + k ∨ (73 + 4 * k ≤ j ∧ j < 77 + 4 * k) ∨ (93 + 4 * k ≤ j ∧ j < 97 + 4 * k) ∨ (113 + 4 * k ≤ j ∧ j < 117 + 4 * k)) : bal (upd f j v) k = bal f k + (v - f j) := by
  unfold bal
  rcases h with rfl | rfl | rfl | h | h | h
  · rw [sum_o (a := 73 + 4 * k) (by omega), sum_o (a := 93 + 4 * k) (by omega), sum_o (a := 113 + 4 * k) (by omega), upd_s, upd_n (by omega), upd_n (by omega), upd_n (by omega), upd_n (by omega)]
    grind
  · rw [sum_o (a := 73 + 4 * k) (by omega), sum_o (a := 93 + 4 * k) (by omega), sum_o (a := 113 + 4 * k) (by omega), upd_s, upd_n (by omega), upd_n (by omega), upd_n (by omega), upd_n (by omega)]
    grind
  · rw [sum_o (a := 73 + 4 * k) (by omega), sum_o (a := 93 + 4 * k) (by omega), sum_o (a := 113 + 4 * k) (by omega), upd_s, upd_n (by omega), upd_n (by omega), upd_n (by omega), upd_n (by omega)]
    grind
  · rw [sum_i (a := 73 + 4 * k) (by omega) (by omega), sum_o (a := 93 + 4 * k) (by omega), sum_o (a := 113 + 4 * k) (by omega), upd_n (by omega), upd_n (by omega), upd_n (by omega), upd_n (by omega), upd_n (by omega)]
    grind
  · rw [sum_o (a := 73 + 4 * k) (by omega), sum_i (a := 93 + 4 * k) (by omega) (by omega), sum_o (a := 113 + 4 * k) (by omega), upd_n (by omega), upd_n (by omega), upd_n (by omega), upd_n (by omega), upd_n (by omega)]
    grind
  · rw [sum_o (a := 73 + 4 * k) (by omega), sum_o (a := 93 + 4 * k) (by omega), sum_i (a := 113 + 4 * k) (by omega) (by omega), upd_n (by omega), upd_n (by omega), upd_n (by omega), upd_n (by omega), upd_n (by omega)]
    grind
/-- nothing is lost on the way from f to g -/
def kb (f g : mj_S) : Prop := tot g = tot f ∧ ∀ k, k < 5 → bal g k = bal f k
theorem kb_rf (f : mj_S) : kb f f := ⟨rfl, fun _ _ => rfl⟩
theorem kb.tr {f g h : mj_S} (a : kb f g) (b : kb g h) : kb f h := ⟨b.1.trans a.1, fun k hk => (b.2 k hk).trans (a.2 k hk)⟩
theorem kb_u {f : mj_S} {j : Nat} {v : Int32} (h : j < 15 ∨ (40 ≤ j ∧ j < 45) ∨ (49 ≤ j ∧ j < 73) ∨ 133 ≤ j) : kb f (upd f j v) := ⟨tot_o (by omega), fun k hk => bal_o (by omega)⟩
theorem kb_mv {f : mj_S} {i j : Nat} {x y : Int32} (hx : x - f i + (y - upd f i x j) = 0) (hi : (15 ≤ i ∧ i < 20) ∨ (35 ≤ i ∧ i < 40) ∨ (45 ≤ i ∧ i < 49) ∨ (73 ≤ i ∧ i < 133)) (hj : (15 ≤ j ∧ j < 20) ∨ (35 ≤ j ∧ j < 40) ∨ (45 ≤ j ∧ j < 49) ∨ (73 ≤ j ∧ j < 133)) : tot (upd (upd f i x) j y) = tot f := by
  rw [tot_i hj, tot_i hi]
  grind
theorem kb_cut {f : mj_S} {D c : Nat} (ho : oA f D) (hc : c < 6) : kb f (s_cut c f) := by
  unfold s_cut
  split
  · exact kb_rf f
  · rename_i hne
    obtain ⟨-, -, -, -, -, -, -, -, a8⟩ := ho
    rcases a8 c hc with ⟨e1, -⟩ | ⟨h, b, hh, hb, e1, e2⟩
    · exact absurd e1 hne
    · simp only [e1, e2, nI_clamp (show h < 2 ^ 31 by omega), nI_clamp (show b < 2 ^ 31 by omega)]
      generalize mn (f (133 + c)) (f (45 + b)) = m
      refine kb.tr ?_ (kb_u (by omega))
      refine ⟨?_, fun k hk => ?_⟩
      · rw [tot_o (j := 20 + h) (by omega)]
        exact kb_mv (by grind) (by omega) (by omega)
      · by_cases e : k = h
        · subst e
          rw [bal_m hk (by omega), bal_i hk (by omega), bal_o (j := 45 + b) (by omega)]
          grind
        · rw [bal_o (j := 20 + h) (by omega), bal_o (j := 73 + b + 4 * h) (by omega), bal_o (j := 45 + b) (by omega)]
theorem kb_soak {f : mj_S} {p : Nat} (hp : p < 20) : kb f (s_soak p f) := by
  unfold s_soak
  generalize (f (113 + p) + 1) / 2 = A
  generalize (f (93 + p) + 1) / 2 = B
  refine ⟨?_, fun k hk => ?_⟩
  · rw [tot_i (by omega), tot_i (by omega), tot_i (by omega), upd_n (show 73 + p ≠ 93 + p by omega), upd_n (show 73 + p ≠ 113 + p by omega), upd_n (show 93 + p ≠ 113 + p by omega)]
    grind
  · by_cases e : p / 4 = k
    · rw [bal_i hk (by omega), bal_i hk (by omega), bal_i hk (by omega), upd_n (show 73 + p ≠ 93 + p by omega), upd_n (show 73 + p ≠ 113 + p by omega), upd_n (show 93 + p ≠ 113 + p by omega)]
      grind
    · rw [bal_o (by omega), bal_o (by omega), bal_o (by omega)]
theorem kb_dry {f : mj_S} {p : Nat} (hp : p < 20) : kb f (s_dry p f) := by
  unfold s_dry
  generalize (f (73 + p) + 1) / 2 = A
  generalize mn (f (93 + p) / 3 + 1) (f (93 + p)) = B
  refine ⟨?_, fun k hk => ?_⟩
  · rw [tot_i (by omega), tot_i (by omega), tot_i (by omega), upd_n (show 113 + p ≠ 93 + p by omega), upd_n (show 113 + p ≠ 73 + p by omega), upd_n (show 93 + p ≠ 73 + p by omega)]
    grind
  · by_cases e : p / 4 = k
    · rw [bal_i hk (by omega), bal_i hk (by omega), bal_i hk (by omega), upd_n (show 113 + p ≠ 93 + p by omega), upd_n (show 113 + p ≠ 73 + p by omega), upd_n (show 93 + p ≠ 73 + p by omega)]
      grind
    · rw [bal_o (by omega), bal_o (by omega), bal_o (by omega)]
theorem itr_kb {f0 : mj_S} {g : Nat → mj_S → mj_S} {n : Nat} (h : ∀ c a, c < n → kb a (g c a)) : ∀ d c a, c + d ≤ n → kb f0 a → kb f0 (itr g d c a)
  | 0, _, _, _, ha => ha
  | d + 1, c, a, hc, ha => itr_kb h d (c + 1) _ (by omega) (ha.tr (h c a (by omega)))
theorem itr_kb2 {f0 : mj_S} {g : Nat → mj_S × Int32 → mj_S × Int32} {n : Nat} (h : ∀ c a, c < n → kb a.1 (g c a).1) : ∀ d c a, c + d ≤ n → kb f0 a.1 → kb f0 (itr g d c a).1
  | 0, _, _, _, ha => ha
  | d + 1, c, a, hc, ha => itr_kb2 h d (c + 1) _ (by omega) (ha.tr (h c a (by omega)))
theorem kb_wth (r : Nat) (f : mj_S) : kb f (s_wth r f) := by
  unfold s_wth
  split
  · exact itr_kb (n := 20) (fun c a hc => kb_soak hc) 20 0 _ (by omega) (kb_rf f)
  · split
    · exact itr_kb (n := 20) (fun c a hc => kb_dry hc) 20 0 _ (by omega) (kb_rf f)
    · exact kb_rf f
theorem kb_cuts {f : mj_S} {D : Nat} : ∀ (d c : Nat) (g : mj_S), c + d ≤ 6 → sA f g → oA f D → kb f g → kb f (itr s_cut d c g)
  | 0, _, _, _, _, _, hs => hs
  | d + 1, c, g, hc, h, ho, hs => kb_cuts d (c + 1) _ (by omega) (h.tr (sA_cut (oA_same h ho) (by omega))) ho (hs.tr (kb_cut (oA_same h ho) (by omega)))
theorem kb_gift {f : mj_S} {h v : Nat} {g : Int32} (hh : h < 5) (hv : v < 5) : kb f (upd (upd (upd (upd f (15 + h) (f (15 + h) - g)) (30 + h) (upd f (15 + h) (f (15 + h) - g) (30 + h) + g)) (15 + v) (upd (upd f (15 + h) (f (15 + h) - g)) (30 + h) (upd f (15 + h) (f (15 + h) - g) (30 + h) + g) (15 + v) + g)) (25 + v) (upd (upd (upd f (15 + h) (f (15 + h) - g)) (30 + h) (upd f (15 + h) (f (15 + h) - g) (30 + h) + g)) (15 + v) (upd (upd f (15 + h) (f (15 + h) - g)) (30 + h) (upd f (15 + h) (f (15 + h) - g) (30 + h) + g) (15 + v) + g) (25 + v) + g)) := by
  generalize e1 : upd f (15 + h) (f (15 + h) - g) = f1
  generalize e2 : upd f1 (30 + h) (f1 (30 + h) + g) = f2
  generalize e3 : upd f2 (15 + v) (f2 (15 + v) + g) = f3
  have t1 : tot f1 = tot f - g := by rw [← e1, tot_i (by omega)]; grind
  have t2 : tot f2 = tot f - g := by rw [← e2, tot_o (by omega)]; exact t1
  have t3 : tot f3 = tot f := by rw [← e3, tot_i (by omega), t2]; grind
  refine ⟨by rw [tot_o (by omega)]; exact t3, fun k hk => ?_⟩
  have b2 : bal f2 k = bal f k := by
    by_cases e : k = h
    · subst e
      rw [← e2, bal_i hk (by omega), ← e1, bal_i hk (by omega)]
      grind
    · rw [← e2, bal_o (by omega), ← e1, bal_o (by omega)]
  by_cases e : k = v
  · subst e
    rw [bal_m hk (by omega), ← e3, bal_i hk (by omega), b2]
    grind
  · rw [bal_o (by omega), ← e3, bal_o (by omega)]
    exact b2
theorem kb_bring {f : mj_S} {h b : Nat} {m : Int32} (hh : h < 5) (hb : b < 4) : kb f (s_bring f h b m) := by
  have h2 : kb f (upd (upd f (113 + b + 4 * h) (f (113 + b + 4 * h) - m)) (15 + h) (upd f (113 + b + 4 * h) (f (113 + b + 4 * h) - m) (15 + h) + m)) := by
    refine ⟨?_, fun k hk => ?_⟩
    · rw [tot_i (by omega), tot_i (by omega)]
      grind
    · by_cases e : k = h
      · subst e
        rw [bal_i hk (by omega), bal_i hk (by omega)]
        grind
      · rw [bal_o (by omega), bal_o (by omega)]
  unfold s_bring
  dsimp only
  generalize upd (upd f (113 + b + 4 * h) (f (113 + b + 4 * h) - m)) (15 + h) (upd f (113 + b + 4 * h) (f (113 + b + 4 * h) - m) (15 + h) + m) = f2 at h2
  split
  · exact h2
  · split
    · exact h2
    · rename_i hne
      rcases poor_in f2 with e | ⟨v, hv, e⟩
      · exact absurd e hne
      · rw [e, nI_clamp (by omega)]
        exact h2.tr (kb_gift hh hv)
theorem kb_cart {f0 : mj_S} {D b : Nat} (hb : b < 4) (f : mj_S) (hs : kb f0 f) : kb f0 (s_cart D b f).1 := by
  unfold s_cart
  exact itr_kb2 (g := s_cart1 D b) (n := 5) (fun c a _ => show kb a.1 (s_bring a.1 ((D + c) % 5) b (mn (a.1 (113 + b + 4 * ((D + c) % 5))) a.2)) from kb_bring (Nat.mod_lt _ (by omega)) hb) 5 0 (f, f (49 + b)) (by omega) hs
theorem kb_carts {f0 : mj_S} {D : Nat} (f : mj_S) (hs : kb f0 f) : kb f0 (s_carts D f).1 := by
  unfold s_carts
  exact itr_kb2 (g := s_carts1 D) (n := 4) (fun c a hc => show kb a.1 (s_cart D c a.1).1 from kb_cart hc a.1 (kb_rf _)) 4 0 (f, 0) (by omega) hs
theorem kb_burn {f0 : mj_S} (f : mj_S) (hs : kb f0 f) : kb f0 (s_burn f) := by
  unfold s_burn
  refine itr_kb (n := 5) (fun c a hc => ?_) 5 0 _ (by omega) hs
  unfold s_burn1
  dsimp only
  generalize mn (a 4) (a (15 + c)) = m
  refine kb.tr ?_ (kb_u (by omega))
  refine ⟨?_, fun k hk => ?_⟩
  · rw [tot_i (by omega), tot_i (by omega)]
    grind
  · by_cases e : k = c
    · subst e
      rw [bal_i hk (by omega), bal_i hk (by omega)]
      grind
    · rw [bal_o (by omega), bal_o (by omega)]
theorem kb_day {f : mj_S} {D : Nat} (ho : oA f D) : kb f (s_day f).1 := by
  have ho1 := oA_day ho
  have h0 : kb f (upd f 0 (f 0 + 1)) := kb_u (by omega)
  unfold s_day
  dsimp only
  generalize upd f 0 (f 0 + 1) = f0 at ho1 h0
  by_cases hs : f 1 = 1
  · simp only [if_pos hs]
    exact kb_burn _ (h0.tr (kb_wth 0 f0))
  · simp only [if_neg hs]
    exact kb_carts _ (h0.tr ((kb_cuts 6 0 f0 (by omega) (sA_rf _) ho1 (kb_rf _)).tr (kb_wth _ _)))
theorem kb_days {f : mj_S} {D : Nat} (ho : oA f D) (hv : vt f) : ∀ n : Nat, 360 * n < 2147483648 → kb f (s_days n f).1
  | 0, _ => kb_rf f
  | n + 1, hn => by
    obtain ⟨h1, h2, -⟩ := days_ok ho hv n (by omega)
    have e : s_days (n + 1) f = s_days1 (0 + n) (s_days n f) := itr_last _ _ _ _
    rw [e, s_days1]
    exact (kb_days ho hv n (by omega)).tr (kb_day h1)
/-! what the hearths need stays over the days -/
def sN (f g : mj_S) : Prop := ∀ k, 10 ≤ k → k < 15 → g k = f k
theorem sN_rf (f : mj_S) : sN f f := fun _ _ _ => rfl
theorem sN.tr {f g h : mj_S} (a : sN f g) (b : sN g h) : sN f h := fun k h1 h2 => (b k h1 h2).trans (a k h1 h2)
theorem sN_upd {f g : mj_S} {j : Nat} {v : Int32} (h : sN f g) (hj : j < 10 ∨ 15 ≤ j) : sN f (upd g j v) := fun k h1 h2 => by
  rw [upd_n (by omega)]
  exact h k h1 h2
theorem itr_sN {f0 : mj_S} {g : Nat → mj_S → mj_S} {n : Nat} (h : ∀ c a, c < n → sN f0 a → sN f0 (g c a)) : ∀ d c a, c + d ≤ n → sN f0 a → sN f0 (itr g d c a)
  | 0, _, _, _, ha => ha
  | d + 1, c, a, hc, ha => itr_sN h d (c + 1) _ (by omega) (h c a (by omega) ha)
theorem itr_sN2 {f0 : mj_S} {g : Nat → mj_S × Int32 → mj_S × Int32} {n : Nat} (h : ∀ c a, c < n → sN f0 a.1 → sN f0 (g c a).1) : ∀ d c a, c + d ≤ n → sN f0 a.1 → sN f0 (itr g d c a).1
  | 0, _, _, _, ha => ha
  | d + 1, c, a, hc, ha => itr_sN2 h d (c + 1) _ (by omega) (h c a (by omega) ha)
theorem sN_setw {f0 f : mj_S} {c : Nat} {h b : Int32} (hs : sN f0 f) : sN f0 (s_setw f c h b) := sN_upd (sN_upd hs (by omega)) (by omega)
theorem sN_turn (f : mj_S) : sN f (s_turn f) := by
  unfold s_turn
  split
  · exact itr_sN (n := 6) (fun c a _ h => sN_setw h) 6 0 _ (by omega) (sN_upd (sN_rf f) (by omega))
  · exact sN_upd (sN_rf f) (by omega)
theorem sN_wth (r : Nat) (f : mj_S) : sN f (s_wth r f) := by
  unfold s_wth
  split
  · exact itr_sN (n := 20) (fun c a _ h => sN_upd (sN_upd (sN_upd h (by omega)) (by omega)) (by omega)) 20 0 _ (by omega) (sN_rf f)
  · split
    · exact itr_sN (n := 20) (fun c a _ h => sN_upd (sN_upd (sN_upd h (by omega)) (by omega)) (by omega)) 20 0 _ (by omega) (sN_rf f)
    · exact sN_rf f
theorem sN_cut {f : mj_S} {D c : Nat} (ho : oA f D) (hc : c < 6) : sN f (s_cut c f) := by
  unfold s_cut
  split
  · exact sN_rf f
  · rename_i hne
    obtain ⟨-, -, -, -, -, -, -, -, a8⟩ := ho
    rcases a8 c hc with ⟨e1, -⟩ | ⟨h, b, hh, hb, e1, e2⟩
    · exact absurd e1 hne
    · simp only [e1, e2, nI_clamp (show h < 2 ^ 31 by omega), nI_clamp (show b < 2 ^ 31 by omega)]
      exact sN_upd (sN_upd (sN_upd (sN_upd (sN_rf f) (by omega)) (by omega)) (by omega)) (by omega)
theorem sN_cuts {f : mj_S} {D : Nat} : ∀ (d c : Nat) (g : mj_S), c + d ≤ 6 → sA f g → oA f D → sN f g → sN f (itr s_cut d c g)
  | 0, _, _, _, _, _, hs => hs
  | d + 1, c, g, hc, h, ho, hs => sN_cuts d (c + 1) _ (by omega) (h.tr (sA_cut (oA_same h ho) (by omega))) ho (hs.tr (sN_cut (oA_same h ho) (by omega)))
theorem sN_bring {f : mj_S} {h b : Nat} {m : Int32} (hh : h < 5) : sN f (s_bring f h b m) := by
  unfold s_bring
  have h2 : sN f (upd (upd f (113 + b + 4 * h) (f (113 + b + 4 * h) - m)) (15 + h) (upd f (113 + b + 4 * h) (f (113 + b + 4 * h) - m) (15 + h) + m)) := sN_upd (sN_upd (sN_rf f) (by omega)) (by omega)
  dsimp only
  generalize upd (upd f (113 + b + 4 * h) (f (113 + b + 4 * h) - m)) (15 + h) (upd f (113 + b + 4 * h) (f (113 + b + 4 * h) - m) (15 + h) + m) = f2 at h2
  split
  · exact h2
  · split
    · exact h2
    · rename_i hne
      rcases poor_in f2 with e | ⟨v, hv, e⟩
      · exact absurd e hne
      · rw [e, nI_clamp (by omega)]
        exact sN_upd (sN_upd (sN_upd (sN_upd h2 (by omega)) (by omega)) (by omega)) (by omega)
theorem sN_cart {f0 : mj_S} {D b : Nat} (f : mj_S) (hs : sN f0 f) : sN f0 (s_cart D b f).1 := by
  unfold s_cart
  exact itr_sN2 (n := 5) (fun c a _ h => h.tr (sN_bring (Nat.mod_lt _ (by omega)))) 5 0 _ (by omega) hs
theorem sN_carts {f0 : mj_S} {D : Nat} (f : mj_S) (hs : sN f0 f) : sN f0 (s_carts D f).1 := by
  unfold s_carts
  exact itr_sN2 (g := s_carts1 D) (n := 4) (fun c a _ h => show sN f0 (s_cart D c a.1).1 from sN_cart a.1 h) 4 0 (f, 0) (by omega) hs
theorem sN_burn {f0 : mj_S} (f : mj_S) (hs : sN f0 f) : sN f0 (s_burn f) := by
  unfold s_burn
  exact itr_sN (n := 5) (fun c a hc h => sN_upd (sN_upd (sN_upd h (by omega)) (by omega)) (by omega)) 5 0 _ (by omega) hs
theorem sN_day {f : mj_S} {D : Nat} (ho : oA f D) : sN f (s_day f).1 := by
  have ho1 := oA_day ho
  have h0 : sN f (upd f 0 (f 0 + 1)) := sN_upd (sN_rf f) (by omega)
  unfold s_day
  dsimp only
  generalize upd f 0 (f 0 + 1) = f0 at ho1 h0
  by_cases hs : f 1 = 1
  · simp only [if_pos hs]
    exact sN_burn _ (h0.tr (sN_wth 0 f0))
  · simp only [if_neg hs]
    exact sN_carts _ (h0.tr ((sN_cuts 6 0 f0 (by omega) (sA_rf _) ho1 (sN_rf _)).tr (sN_wth _ _)))
theorem sN_days {f : mj_S} {D : Nat} (ho : oA f D) (hv : vt f) : ∀ n : Nat, 360 * n < 2147483648 → sN f (s_days n f).1
  | 0, _ => sN_rf f
  | n + 1, hn => by
    obtain ⟨h1, h2, -⟩ := days_ok ho hv n (by omega)
    have e : s_days (n + 1) f = s_days1 (0 + n) (s_days n f) := itr_last _ _ _ _
    rw [e, s_days1]
    exact (sN_days ho hv n (by omega)).tr (sN_day h1)

/-! HOW THE TWO READ A TEXT: the same -/
def DR (t : Nat → Nat) (n i r : Nat) : Prop := i ≤ n ∧ s_rs t n 0 0 = s_rs t (n - i) i r ∧ s_fd t n 0 0 = s_fd t (n - i) i r
def Bad (t : Nat → Nat) (n i : Nat) : Prop := i ≤ n ∧ s_rs t n 0 0 = i ∧ s_ep (s_fd t n 0 0) = 0
theorem DR_0 (t : Nat → Nat) (n : Nat) : DR t n 0 0 := ⟨Nat.zero_le _, rfl, rfl⟩
theorem DR.step {t : Nat → Nat} {n i r q : Nat} (h : DR t n i r) (hi : i < n) (e : dn r (t i) = q) (hq : q ≠ 11) : DR t n (i + 1) q := by
  obtain ⟨h0, h1, h2⟩ := h
  refine ⟨hi, ?_, ?_⟩
  · rw [h1, show n - i = (n - (i + 1)) + 1 by omega, s_rs, if_neg (by omega), e]
  · rw [h2, show n - i = (n - (i + 1)) + 1 by omega, s_fd, e]
theorem fd_11 (t : Nat → Nat) : ∀ d i, s_fd t d i 11 = 11
  | 0, _ => rfl
  | d + 1, i => by
    rw [s_fd, show dn 11 (t i) = 11 from rfl]
    exact fd_11 t d (i + 1)
theorem DR.dead {t : Nat → Nat} {n i r : Nat} (h : DR t n i r) (hi : i < n) (e : dn r (t i) = 11) : Bad t n i := by
  obtain ⟨h0, h1, h2⟩ := h
  refine ⟨h0, ?_, ?_⟩
  · rw [h1, show n - i = (n - (i + 1)) + 1 by omega, s_rs, if_pos e]
  · rw [h2, show n - i = (n - (i + 1)) + 1 by omega, s_fd, e, fd_11]; rfl
theorem DR.fin {t : Nat → Nat} {n r : Nat} (h : DR t n n r) : s_rs t n 0 0 = n ∧ s_fd t n 0 0 = r := by
  obtain ⟨h0, h1, h2⟩ := h
  rw [h1, h2, Nat.sub_self]
  exact ⟨rfl, rfl⟩
theorem DR.stop {t : Nat → Nat} {n i r : Nat} (h : DR t n i r) (he : s_ep r = 0) (hd : i < n → dn r (t i) = 11) : Bad t n i := by
  by_cases hi : i < n
  · exact h.dead hi (hd hi)
  · obtain rfl : i = n := by have := h.1; omega
    exact ⟨Nat.le_refl _, h.fin.1, by rw [h.fin.2]; exact he⟩
theorem nx_1 {t : Nat → Nat} {n i : Nat} (h : i < n) : nx t n i = t i := if_pos h
theorem DR.by {t : Nat → Nat} {n i r q : Nat} (C : Nat → Prop) (h : DR t n i r) (he : s_ep r = 0) (hy : ∀ c, C c → dn r c = q) (hn : ∀ c, ¬ C c → dn r c = 11) (h0 : ¬ C 0) (hq : q ≠ 11) : (C (nx t n i) ∧ i < n ∧ t i = nx t n i ∧ DR t n (i + 1) q) ∨ (¬ C (nx t n i) ∧ Bad t n i) := by
  by_cases hc : C (nx t n i)
  · by_cases hi : i < n
    · exact Or.inl ⟨hc, hi, (nx_1 hi).symm, h.step hi (hy _ (by rw [← nx_1 (t := t) hi]; exact hc)) hq⟩
    · rw [nx, if_neg hi] at hc; exact absurd hc h0
  · exact Or.inr ⟨hc, h.stop he (fun hi => hn _ (by rw [← nx_1 (t := t) hi]; exact hc))⟩
theorem dgt1 {c h : Nat} (x : 48 ≤ c ∧ c ≤ 48 + h) : dgt c h = 1 := if_pos x
theorem dgt0 {c h : Nat} (x : ¬ (48 ≤ c ∧ c ≤ 48 + h)) : dgt c h = 0 := if_neg x
theorem td1 {t : Nat → Nat} {n i h : Nat} (hh : h < 10) (x : 48 ≤ nx t n i ∧ nx t n i ≤ 48 + h) : td t n i h = nI (nx t n i - 48) ∧ ti t n i h = i + 1 ∧ ¬ nI (nx t n i - 48) = -1 := ⟨if_pos x, if_pos x, nI_m1 (by omega)⟩
theorem td0 {t : Nat → Nat} {n i h : Nat} (x : ¬ (48 ≤ nx t n i ∧ nx t n i ≤ 48 + h)) : td t n i h = -1 ∧ ti t n i h = i := ⟨if_neg x, if_neg x⟩
theorem tk1 {t : Nat → Nat} {n i c : Nat} (x : nx t n i = c) : ¬ tk t n i c = 0 ∧ tj t n i c = i + 1 := ⟨by rw [tk, if_pos x]; omega, if_pos x⟩
theorem tk0 {t : Nat → Nat} {n i c : Nat} (x : ¬ nx t n i = c) : tk t n i c = 0 ∧ tj t n i c = i := ⟨if_neg x, if_neg x⟩
theorem DR.dig {t : Nat → Nat} {n i r q h : Nat} (H : DR t n i r) (he : s_ep r = 0) (hy : ∀ c, dn r c = if dgt c h = 1 then q else 11) (hq : q ≠ 11) : ((48 ≤ nx t n i ∧ nx t n i ≤ 48 + h) ∧ i < n ∧ t i = nx t n i ∧ DR t n (i + 1) q) ∨ (¬ (48 ≤ nx t n i ∧ nx t n i ≤ 48 + h) ∧ Bad t n i) :=
  H.by (fun c => 48 ≤ c ∧ c ≤ 48 + h) he (fun c x => by rw [hy, if_pos (dgt1 x)]) (fun c x => by rw [hy, if_neg (by rw [dgt0 x]; omega)]) (by omega) hq
theorem work_ok {t : Nat → Nat} {n i : Nat} (se t3 : Int32) (H : DR t n i 1) : ((r_work t n i se t3).1 = 0 ∧ Bad t n (r_work t n i se t3).2.1) ∨ (r_work t n i se t3 = (1, i + 5, nI (t i - 48), nI (t (i + 2) - 48), nI (t (i + 4) - 48)) ∧ i + 5 ≤ n ∧ DR t n (i + 5) 10 ∧ (48 ≤ t i ∧ t i ≤ 53) ∧ t (i + 1) = 62 ∧ (48 ≤ t (i + 2) ∧ t (i + 2) ≤ 52) ∧ t (i + 3) = 47 ∧ (48 ≤ t (i + 4) ∧ t (i + 4) ≤ 51)) := by
  rcases H.dig (h := 5) (q := 2) rfl (fun c => rfl) (by omega) with ⟨c1, l1, e1, H1⟩ | ⟨c1, B⟩
  · obtain ⟨a1, a2, a3⟩ := td1 (by omega) c1
    rw [r_work, a1, a2, if_neg a3]
    rcases H1.by (q := 3) (fun c => c = 62) rfl (fun c x => by rw [x]; rfl) (fun c x => by show (if c = 62 then 3 else 11) = 11; rw [if_neg x]) (by omega) (by omega) with ⟨c2, l2, e2, H2⟩ | ⟨c2, B⟩
    · obtain ⟨b1, b2⟩ := tk1 c2
      rw [if_neg b1, b2]
      rcases H2.dig (h := 4) (q := 4) rfl (fun c => rfl) (by omega) with ⟨c3, l3, e3, H3⟩ | ⟨c3, B⟩
      · obtain ⟨d1, d2, d3⟩ := td1 (by omega) c3
        rw [d1, d2, if_neg d3]
        rcases H3.by (q := 5) (fun c => c = 47) rfl (fun c x => by rw [x]; rfl) (fun c x => by show (if c = 47 then 5 else 11) = 11; rw [if_neg x]) (by omega) (by omega) with ⟨c4, l4, e4, H4⟩ | ⟨c4, B⟩
        · obtain ⟨f1, f2⟩ := tk1 c4
          rw [if_neg f1, f2]
          rcases H4.dig (h := 3) (q := 10) rfl (fun c => rfl) (by omega) with ⟨c5, l5, e5, H5⟩ | ⟨c5, B⟩
          · obtain ⟨g1, g2, g3⟩ := td1 (by omega) c5
            rw [g1, g2, if_neg g3]
            refine Or.inr ⟨?_, by omega, H5, ?_⟩
            · rw [← e1, ← e3, ← e5]
            · rw [← e1] at c1; rw [← e2] at c2; rw [← e3] at c3; rw [← e4] at c4; rw [← e5] at c5
              exact ⟨c1, c2, c3, c4, c5⟩
          · obtain ⟨g1, g2⟩ := td0 c5
            rw [g1, g2, if_pos rfl]
            exact Or.inl ⟨rfl, B⟩
        · obtain ⟨f1, f2⟩ := tk0 c4
          rw [if_pos f1, f2]
          exact Or.inl ⟨rfl, B⟩
      · obtain ⟨d1, d2⟩ := td0 c3
        rw [d1, d2, if_pos rfl]
        exact Or.inl ⟨rfl, B⟩
    · obtain ⟨b1, b2⟩ := tk0 c2
      rw [if_pos b1, b2]
      exact Or.inl ⟨rfl, B⟩
  · obtain ⟨a1, a2⟩ := td0 c1
    rw [r_work, a1, a2, if_pos rfl]
    exact Or.inl ⟨rfl, B⟩
/-- where a part ends: a state that may end there; every other sign than ; breaks the text -/
def EP (t : Nat → Nat) (n i : Nat) : Prop := ∃ q, s_ep q = 1 ∧ DR t n i q ∧ (i < n → t i ≠ 59 → dn q (t i) = 11)
theorem EP_10 {t : Nat → Nat} {n i : Nat} (h : DR t n i 10) : EP t n i := ⟨10, rfl, h, fun _ x => by rw [dn, if_neg (fun z => x z.2)]; rfl⟩
theorem nm_1 {t : Nat → Nat} {n i : Nat} (hi : i < n) (hd : 48 ≤ t i ∧ t i ≤ 57) (he : i + 1 < n → ¬ (48 ≤ t (i + 1) ∧ t (i + 1) ≤ 57)) : s_nm t n i = t i - 48 := by
  have e : dgt (sg t n (i + 1)) 9 = 0 := by
    apply dgt0
    unfold sg
    split
    · rename_i h; exact he h
    · omega
  rw [s_nm, show sg t n i = t i from if_pos hi, dgt1 (h := 9) (by omega), if_neg (by omega), if_pos e]
theorem nm_2 {t : Nat → Nat} {n i : Nat} (hi : i + 1 < n) (hd : 48 ≤ t i ∧ t i ≤ 57) (he : 48 ≤ t (i + 1) ∧ t (i + 1) ≤ 57) : s_nm t n i = (t (i + 1) - 48) + 10 * (t i - 48) := by
  rw [s_nm, show sg t n i = t i from if_pos (by omega), show sg t n (i + 1) = t (i + 1) from if_pos hi, dgt1 (h := 9) (by omega), if_neg (by omega), dgt1 (h := 9) (by omega), if_neg (by omega)]
  omega
theorem days_ok2 {t : Nat → Nat} {n i : Nat} (fi : Int32) (H : DR t n i 7) : ((r_days t n i fi).1 = 0 ∧ Bad t n (r_days t n i fi).2.1) ∨ ((r_days t n i fi).1 = 1 ∧ (∃ j, (r_days t n i fi).2.1 = j ∧ i < j ∧ j ≤ n ∧ (∀ k, i ≤ k → k < j → t k ≠ 59) ∧ EP t n j ∧ ((j < n → t j = 59) → (r_days t n i fi).2.2 = nI (s_nm t n i) ∧ 1 ≤ s_nm t n i ∧ s_nm t n i ≤ 60))) := by
  by_cases c1 : 49 ≤ nx t n i ∧ nx t n i ≤ 57
  · have hi : i < n := by
      by_cases hi : i < n
      · exact hi
      · rw [nx, if_neg hi] at c1; omega
    have e1 : nx t n i = t i := nx_1 hi
    rw [e1] at c1
    right
    by_cases c2 : (48 ≤ nx t n (i + 1) ∧ nx t n (i + 1) ≤ 57) ∧ 10 * (t i - 48) + (nx t n (i + 1) - 48) ≤ 60
    · have hi2 : i + 1 < n := by
        by_cases hi : i + 1 < n
        · exact hi
        · rw [nx, if_neg hi] at c2; omega
      have e2 : nx t n (i + 1) = t (i + 1) := nx_1 hi2
      rw [r_days, e1, if_pos c1, if_pos c2, e2]
      rw [e2] at c2
      refine ⟨rfl, i + 2, rfl, by omega, by omega, ?_, EP_10 ?_, fun _ => ?_⟩
      · intro k k1 k2
        rcases (show k = i ∨ k = i + 1 by omega) with rfl | rfl <;> omega
      · by_cases c3 : t i = 54
        · refine (H.step (q := 9) hi (by show s_bd (t i) = 9; rw [c3]; rfl) (by omega)).step (q := 10) hi2 ?_ (by omega)
          rw [show t (i + 1) = 48 by omega]; rfl
        · refine (H.step (q := 8) hi ?_ (by omega)).step (q := 10) hi2 ?_ (by omega)
          · show s_bd (t i) = 8
            rw [s_bd, if_neg (by rw [dgt1 (h := 9) (by omega)]; omega), if_neg c3, if_pos (by omega)]
          · rw [dn, if_neg (by omega)]
            show (if dgt (t (i + 1)) 9 = 1 then 10 else 11) = 10
            rw [if_pos (dgt1 (by omega))]
      · rw [nm_2 hi2 (by omega) (by omega)]
        exact ⟨rfl, by omega, by omega⟩
    · rw [r_days, e1, if_pos c1, if_neg c2]
      refine ⟨rfl, i + 1, rfl, by omega, by omega, ?_, ?_, fun hz => ?_⟩
      · intro k k1 k2
        rcases (show k = i by omega) with rfl; omega
      · by_cases c3 : t i = 54
        · refine ⟨9, rfl, H.step (q := 9) hi (by show s_bd (t i) = 9; rw [c3]; rfl) (by omega), fun h5 h6 => ?_⟩
          rw [nx_1 h5] at c2
          rw [dn, if_neg (fun z => h6 z.2)]
          show (if t (i + 1) = 48 then 10 else 11) = 11
          rw [if_neg (by omega)]
        · by_cases c4 : t i < 54
          · refine ⟨8, rfl, H.step (q := 8) hi ?_ (by omega), fun h5 h6 => ?_⟩
            · show s_bd (t i) = 8
              rw [s_bd, if_neg (by rw [dgt1 (h := 9) (by omega)]; omega), if_neg c3, if_pos (by omega)]
            · rw [nx_1 h5] at c2
              rw [dn, if_neg (fun z => h6 z.2)]
              show (if dgt (t (i + 1)) 9 = 1 then 10 else 11) = 11
              rw [dgt0 (by omega), if_neg (by omega)]
          · refine EP_10 (H.step (q := 10) hi ?_ (by omega))
            show s_bd (t i) = 10
            rw [s_bd, if_neg (by rw [dgt1 (h := 9) (by omega)]; omega), if_neg c3, if_neg c4]
      · rw [nm_1 hi (by omega) (fun h5 => by rw [hz h5]; omega)]
        exact ⟨rfl, by omega, by omega⟩
  · left
    rw [r_days, if_neg c1]
    refine ⟨rfl, H.stop rfl (fun hi => ?_)⟩
    rw [nx_1 hi] at c1
    show s_bd (t i) = 11
    rw [s_bd, if_pos]
    by_cases c2 : t i = 48
    · exact Or.inl c2
    · exact Or.inr (dgt0 (by omega))
/-- what a part says, in the class's numbers -/
def PC (t : Nat → Nat) (n i : Nat) (s a b c : Int32) : Prop :=
  (sg t n i = 99 ∧ s = 99 ∧ a = nI (s_nm t n (i + 1)) ∧ s_nm t n (i + 1) < 6 ∧ b = nI (s_nm t n (i + 3)) ∧ s_nm t n (i + 3) < 5 ∧ c = nI (s_nm t n (i + 5)) ∧ s_nm t n (i + 5) < 4) ∨
  (sg t n i = 114 ∧ s = 114 ∧ a = nI (s_nm t n (i + 1)) ∧ s_nm t n (i + 1) < 6) ∨
  (sg t n i = 43 ∧ s = 43 ∧ a = nI (s_nm t n (i + 1)) ∧ 1 ≤ s_nm t n (i + 1) ∧ s_nm t n (i + 1) ≤ 60) ∨
  (sg t n i = 42 ∧ s = 42)
theorem part_ok {t : Nat → Nat} {n i : Nat} (fi se t3 : Int32) (H : DR t n i 0) : ((r_part t n i fi se t3).1 = 0 ∧ Bad t n (r_part t n i fi se t3).2.1) ∨ ((r_part t n i fi se t3).1 = 1 ∧ ∃ j, (r_part t n i fi se t3).2.1 = j ∧ i < j ∧ j ≤ n ∧ (∀ k, i ≤ k → k < j → t k ≠ 59) ∧ EP t n j ∧ ((j < n → t j = 59) → PC t n i (r_part t n i fi se t3).2.2.1 (r_part t n i fi se t3).2.2.2.1 (r_part t n i fi se t3).2.2.2.2.1 (r_part t n i fi se t3).2.2.2.2.2)) := by
  by_cases hi : i < n
  · have e0 : nx t n i = t i := nx_1 hi
    have e9 : sg t n i = t i := if_pos hi
    by_cases c1 : t i = 99
    · have H1 : DR t n (i + 1) 1 := H.step hi (by rw [c1]; rfl) (by omega)
      have er : r_part t n i fi se t3 = ((r_work t n (i + 1) se t3).1, (r_work t n (i + 1) se t3).2.1, 99, (r_work t n (i + 1) se t3).2.2.1, (r_work t n (i + 1) se t3).2.2.2.1, (r_work t n (i + 1) se t3).2.2.2.2) := by rw [r_part, e0, if_pos c1]
      rcases work_ok se t3 H1 with ⟨a1, a2⟩ | ⟨a1, a2, a3, a4, a5, a6, a7, a8⟩
      · left; rw [er]; exact ⟨a1, a2⟩
      · right
        rw [er, a1]
        refine ⟨rfl, i + 6, rfl, by omega, by omega, ?_, EP_10 a3, fun hz => Or.inl ?_⟩
        · intro k k1 k2
          have a5' : t (i + 2) = 62 := a5
          have a6' : 48 ≤ t (i + 3) ∧ t (i + 3) ≤ 52 := a6
          have a7' : t (i + 4) = 47 := a7
          have a8' : 48 ≤ t (i + 5) ∧ t (i + 5) ≤ 51 := a8
          rcases (show k = i ∨ k = i + 1 ∨ k = i + 2 ∨ k = i + 3 ∨ k = i + 4 ∨ k = i + 5 by omega) with rfl | rfl | rfl | rfl | rfl | rfl <;> omega
        · have a5' : t (i + 2) = 62 := a5
          have a6' : 48 ≤ t (i + 3) ∧ t (i + 3) ≤ 52 := a6
          have a7' : t (i + 4) = 47 := a7
          have a8' : 48 ≤ t (i + 5) ∧ t (i + 5) ≤ 51 := a8
          have n1 : s_nm t n (i + 1) = t (i + 1) - 48 := nm_1 (by omega) (by omega) (fun _ => by rw [a5']; omega)
          have n3 : s_nm t n (i + 3) = t (i + 3) - 48 := nm_1 (by omega) (by omega) (fun _ => by rw [a7']; omega)
          have n5 : s_nm t n (i + 5) = t (i + 5) - 48 := nm_1 (by omega) (by omega) (fun h => by rw [hz h]; omega)
          rw [n1, n3, n5]
          exact ⟨by rw [e9]; exact c1, rfl, rfl, by omega, rfl, by omega, rfl, by omega⟩
    by_cases c2 : t i = 114
    · have H1 : DR t n (i + 1) 6 := H.step hi (by rw [c2]; rfl) (by omega)
      have er : r_part t n i fi se t3 = (if td t n (i + 1) 5 = -1 then 0 else 1, ti t n (i + 1) 5, 114, td t n (i + 1) 5, se, t3) := by rw [r_part, e0, if_neg c1, if_pos c2]
      rcases H1.dig (h := 5) (q := 10) rfl (fun c => rfl) (by omega) with ⟨d1, l1, e1, H2⟩ | ⟨d1, B⟩
      · obtain ⟨a1, a2, a3⟩ := td1 (by omega) d1
        rw [a1, a2, if_neg a3] at er
        right
        rw [er]
        rw [← e1] at d1
        refine ⟨rfl, i + 2, rfl, by omega, by omega, ?_, EP_10 H2, fun hz => Or.inr (Or.inl ?_)⟩
        · intro k k1 k2
          rcases (show k = i ∨ k = i + 1 by omega) with rfl | rfl <;> omega
        · have n1 : s_nm t n (i + 1) = t (i + 1) - 48 := nm_1 (by omega) (by omega) (fun h => by rw [hz h]; omega)
          rw [n1, ← e1]
          exact ⟨by rw [e9]; exact c2, rfl, rfl, by omega⟩
      · obtain ⟨a1, a2⟩ := td0 d1
        rw [a1, a2, if_pos rfl] at er
        left; rw [er]; exact ⟨rfl, B⟩
    by_cases c3 : t i = 43
    · have H1 : DR t n (i + 1) 7 := H.step hi (by rw [c3]; rfl) (by omega)
      have er : r_part t n i fi se t3 = ((r_days t n (i + 1) fi).1, (r_days t n (i + 1) fi).2.1, 43, (r_days t n (i + 1) fi).2.2, se, t3) := by rw [r_part, e0, if_neg c1, if_neg c2, if_pos c3]
      rcases days_ok2 fi H1 with ⟨a1, a2⟩ | ⟨a1, j, a2, a3, a4, a5, a6, a7⟩
      · left; rw [er]; exact ⟨a1, a2⟩
      · right
        rw [er]
        refine ⟨a1, j, a2, by omega, a4, ?_, a6, fun hz => Or.inr (Or.inr (Or.inl ?_))⟩
        · intro k k1 k2
          by_cases hk : k = i
          · subst hk; omega
          · exact a5 k (by omega) k2
        · obtain ⟨b1, b2, b3⟩ := a7 hz
          exact ⟨by rw [e9]; exact c3, rfl, b1, b2, b3⟩
    by_cases c4 : t i = 42
    · have H1 : DR t n (i + 1) 10 := H.step hi (by rw [c4]; rfl) (by omega)
      have er : r_part t n i fi se t3 = (1, i + 1, 42, fi, se, t3) := by rw [r_part, e0, if_neg c1, if_neg c2, if_neg c3, if_pos c4]
      right
      rw [er]
      refine ⟨rfl, i + 1, rfl, by omega, by omega, ?_, EP_10 H1, fun hz => Or.inr (Or.inr (Or.inr ⟨by rw [e9]; exact c4, rfl⟩))⟩
      intro k k1 k2
      rcases (show k = i by omega) with rfl; omega
    · left
      rw [r_part, e0, if_neg c1, if_neg c2, if_neg c3, if_neg c4]
      refine ⟨rfl, H.stop rfl (fun _ => ?_)⟩
      show s_bp (t i) = 11
      rw [s_bp, if_neg c1, if_neg c2, if_neg c3, if_neg c4]
  · have e0 : nx t n i = 0 := if_neg hi
    left
    rw [r_part, e0, if_neg (by omega), if_neg (by omega), if_neg (by omega), if_neg (by omega)]
    exact ⟨rfl, H.stop rfl (fun h => absurd h hi)⟩
/-- after a part: the next part, or the text is over, or it is wrong -/
theorem EP.next {t : Nat → Nat} {n j : Nat} (h : EP t n j) : (j = n ∧ s_rs t n 0 0 = n ∧ s_ep (s_fd t n 0 0) = 1) ∨ (j < n ∧ t j = 59 ∧ DR t n (j + 1) 0) ∨ (j < n ∧ t j ≠ 59 ∧ Bad t n j) := by
  obtain ⟨q, q1, q2, q3⟩ := h
  by_cases hj : j < n
  · by_cases c : t j = 59
    · refine Or.inr (Or.inl ⟨hj, c, q2.step hj ?_ (by omega)⟩)
      rw [dn, if_pos ⟨q1, c⟩]
    · exact Or.inr (Or.inr ⟨hj, c, q2.dead hj (q3 hj c)⟩)
  · obtain rfl : j = n := by have := q2.1; omega
    exact Or.inl ⟨rfl, q2.fin.1, by rw [q2.fin.2]; exact q1⟩

/-! HOW MANY ARE HOME: never less than none, and at most so many by the day -/
def hb (f : mj_S) (B : Nat) : Prop := ∀ k, k < 5 → ∃ x, x ≤ B ∧ f (15 + k) = nI x
theorem hb.mono {f : mj_S} {B C : Nat} (h : hb f B) (hBC : B ≤ C) : hb f C := fun k hk => by
  obtain ⟨x, h1, h2⟩ := h k hk
  exact ⟨x, by omega, h2⟩
theorem hb_u {f : mj_S} {B j : Nat} {v : Int32} (h : hb f B) (hj : j < 15 ∨ 20 ≤ j) : hb (upd f j v) B := fun k hk => by
  obtain ⟨x, h1, h2⟩ := h k hk
  exact ⟨x, h1, by rw [upd_n (by omega)]; exact h2⟩
theorem hb_set {f : mj_S} {B j x : Nat} {v : Int32} (h : hb f B) (hx : x ≤ B) (hv : v = nI x) : hb (upd f (15 + j) v) B := fun k hk => by
  by_cases e : k = j
  · subst e
    exact ⟨x, hx, by rw [upd_s]; exact hv⟩
  · obtain ⟨y, h1, h2⟩ := h k hk
    exact ⟨y, h1, by rw [upd_n (by omega)]; exact h2⟩
theorem hb_cut {f : mj_S} {D c B : Nat} (ho : oA f D) (hc : c < 6) (h : hb f B) : hb (s_cut c f) B := by
  unfold s_cut
  split
  · exact h
  · rename_i hne
    obtain ⟨-, -, -, -, -, -, -, -, a8⟩ := ho
    rcases a8 c hc with ⟨e1, -⟩ | ⟨x, b, hh, hb', e1, e2⟩
    · exact absurd e1 hne
    · simp only [e1, e2, nI_clamp (show x < 2 ^ 31 by omega), nI_clamp (show b < 2 ^ 31 by omega)]
      exact hb_u (hb_u (hb_u (hb_u h (by omega)) (by omega)) (by omega)) (by omega)
theorem hb_cuts {f : mj_S} {D B : Nat} : ∀ (d c : Nat) (g : mj_S), c + d ≤ 6 → sA f g → oA f D → hb g B → hb (itr s_cut d c g) B
  | 0, _, _, _, _, _, hs => hs
  | d + 1, c, g, hc, h, ho, hs => hb_cuts d (c + 1) _ (by omega) (h.tr (sA_cut (oA_same h ho) (by omega))) ho (hb_cut (oA_same h ho) (by omega) hs)
theorem itr_hb {B : Nat} {g : Nat → mj_S → mj_S} {n : Nat} (h : ∀ c a, c < n → hb a B → hb (g c a) B) : ∀ d c a, c + d ≤ n → hb a B → hb (itr g d c a) B
  | 0, _, _, _, ha => ha
  | d + 1, c, a, hc, ha => itr_hb h d (c + 1) _ (by omega) (h c a (by omega) ha)
theorem hb_wth {B : Nat} (r : Nat) {f : mj_S} (h : hb f B) : hb (s_wth r f) B := by
  unfold s_wth
  split
  · exact itr_hb (n := 20) (fun c a _ h => hb_u (hb_u (hb_u h (by omega)) (by omega)) (by omega)) 20 0 _ (by omega) h
  · split
    · exact itr_hb (n := 20) (fun c a _ h => hb_u (hb_u (hb_u h (by omega)) (by omega)) (by omega)) 20 0 _ (by omega) h
    · exact h
theorem gift_n {m s : Nat} (hm : m ≤ 2000) (hs : s ≤ 50) : nI m * nI s / 100 = nI (m * s / 100) ∧ m * s / 100 ≤ m := by
  have h1 : m * s ≤ m * 50 := Nat.mul_le_mul_left m hs
  refine ⟨?_, by omega⟩
  rw [pk_mul, show (100 : Int32) = nI 100 from rfl, pk_div (by omega) (by omega) (by omega)]
theorem hb_bring {f : mj_S} {h b m B : Nat} (hh : h < 5) (hb4 : b < 4) (hs : ∃ s, s ≤ 50 ∧ f 3 = nI s) (hm : m ≤ 2000) (H : hb f B) (hB : B + m < 1073741824) : hb (s_bring f h b (nI m)) (B + m) := by
  obtain ⟨s, hs5, es⟩ := hs
  obtain ⟨hg, hgm⟩ := gift_n hm hs5
  obtain ⟨x, hx, ex⟩ := H h hh
  have e0 : (upd f (113 + b + 4 * h) (f (113 + b + 4 * h) - nI m)) (15 + h) = nI x := by rw [upd_n (by omega)]; exact ex
  have h1 : hb (upd f (113 + b + 4 * h) (f (113 + b + 4 * h) - nI m)) B := hb_u H (by omega)
  have h3 : (upd f (113 + b + 4 * h) (f (113 + b + 4 * h) - nI m)) 3 = nI s := by rw [upd_n (by omega)]; exact es
  unfold s_bring
  dsimp only
  generalize upd f (113 + b + 4 * h) (f (113 + b + 4 * h) - nI m) = f1 at e0 h1 h3
  rw [e0, nI_add]
  have h2 : hb (upd f1 (15 + h) (nI (x + m))) (B + m) := hb_set (h1.mono (by omega)) (by omega) rfl
  have e2 : upd f1 (15 + h) (nI (x + m)) (15 + h) = nI (x + m) := upd_s _ _ _
  have e3 : upd f1 (15 + h) (nI (x + m)) 3 = nI s := by rw [upd_n (by omega)]; exact h3
  have e4 : ∀ v, v < 5 → v ≠ h → ∃ y, y ≤ B ∧ upd f1 (15 + h) (nI (x + m)) (15 + v) = nI y := fun v hv hne => by
    obtain ⟨y, q1, q2⟩ := h1 v hv
    exact ⟨y, q1, by rw [upd_n (by omega)]; exact q2⟩
  generalize upd f1 (15 + h) (nI (x + m)) = f2 at h2 e2 e3 e4
  split
  · exact h2
  · split
    · exact h2
    · rename_i hne
      rcases poor_in f2 with e | ⟨v, hv, e⟩
      · exact absurd e hne
      · rw [e, nI_clamp (by omega), e3, hg, e2, pk_sub (by omega)]
        refine hb_u ?_ (by omega)
        have h5 : hb (upd (upd f2 (15 + h) (nI (x + m - m * s / 100))) (30 + h) (upd f2 (15 + h) (nI (x + m - m * s / 100)) (30 + h) + nI (m * s / 100))) (B + m) := hb_u (hb_set h2 (by omega) rfl) (by omega)
        by_cases ev : v = h
        · subst ev
          refine hb_set (x := x + m - m * s / 100 + m * s / 100) h5 (by omega) ?_
          rw [upd_n (by omega), upd_s, nI_add]
        · obtain ⟨y, q1, q2⟩ := e4 v hv ev
          refine hb_set (x := y + m * s / 100) h5 (by omega) ?_
          rw [upd_n (by omega), upd_n (by omega), q2, nI_add]
theorem hb_cart {f : mj_S} {D E b : Nat} (ho : oA f E) (hb4 : b < 4) : ∀ (d c : Nat) (g : mj_S) (l B : Nat), sA f g → vt g → hb g B → l ≤ 90 → B + l < 1073741824 → ∃ l', l' ≤ l ∧ hb (itr (s_cart1 D b) d c (g, nI l)).1 (B + (l - l')) ∧ (itr (s_cart1 D b) d c (g, nI l)).2 = nI l'
  | 0, c, g, l, B, h, hv, H, hl, hB => ⟨l, Nat.le_refl _, H.mono (by omega), rfl⟩
  | d + 1, c, g, l, B, h, hv, H, hl, hB => by
    have hh : (D + c) % 5 < 5 := Nat.mod_lt _ (by omega)
    obtain ⟨x, y, z, u, ex, ey, ez, eu, hs⟩ := hv (b + 4 * ((D + c) % 5)) (by omega)
    rw [show 113 + (b + 4 * ((D + c) % 5)) = 113 + b + 4 * ((D + c) % 5) by omega] at ez
    have e1 : mn (g (113 + b + 4 * ((D + c) % 5))) (nI l) = nI (if l < z then l else z) := by rw [ez, n_mn (by omega) (by omega)]
    have hle : (if l < z then l else z) ≤ z ∧ (if l < z then l else z) ≤ l := by split <;> omega
    generalize (if l < z then l else z) = m at e1 hle
    have e2 : itr (s_cart1 D b) (d + 1) c (g, nI l) = itr (s_cart1 D b) d (c + 1) (s_bring g ((D + c) % 5) b (nI m), nI (l - m)) := by
      rw [itr_s, s_cart1]
      dsimp only
      rw [e1, pk_sub hle.2]
    rw [e2]
    obtain ⟨l', h1, h2, h3⟩ := hb_cart (D := D) ho hb4 d (c + 1) (s_bring g ((D + c) % 5) b (nI m)) (l - m) (B + m) (h.tr (sA_bring hh hb4)) (vt_bring hh hb4 hv ez (by omega) hle.1) (hb_bring hh hb4 (oA_same h ho).2.2.2.1 (by omega) H (by omega)) (by omega) (by omega)
    exact ⟨l', by omega, h2.mono (by omega), h3⟩
theorem hb_carts {f : mj_S} {D E : Nat} (ho : oA f D) : ∀ (d c : Nat) (g : mj_S) (n : Int32) (B : Nat), c + d ≤ 4 → sA f g → vt g → hb g B → B + 90 * d < 1073741824 → hb (itr (s_carts1 E) d c (g, n)).1 (B + 90 * d)
  | 0, c, g, n, B, hc, h, hv, H, hB => H
  | d + 1, c, g, n, B, hc, h, hv, H, hB => by
    obtain ⟨k, hk, ek⟩ := (oA_same h ho).2.2.2.2.2.2.1 c (by omega)
    obtain ⟨l', h1, h2, h3, -⟩ := cart_ok (f := f) (D := E) (b := c) (by omega) 5 0 g k h hv (by omega)
    obtain ⟨l2, q1, q2, -⟩ := hb_cart (D := E) ho (b := c) (by omega) 5 0 g k B h hv H hk (by omega)
    have e3 : (s_cart E c g).1 = (itr (s_cart1 E c) 5 0 (g, nI k)).1 := by rw [s_cart, ek]
    rw [← e3] at h2 h3 q2
    rw [itr_s, s_carts1]
    dsimp only
    exact (hb_carts (E := E) ho d (c + 1) (s_cart E c g).1 _ (B + 90) (by omega) h2 h3 (q2.mono (by omega)) (by omega)).mono (by omega)
theorem hb_burn {f : mj_S} {B : Nat} (h4 : ∃ s, s ≤ 30 ∧ f 4 = nI s) (hB : B < 1073741824) : ∀ (d c : Nat) (g : mj_S), c + d ≤ 5 → g 4 = f 4 → hb g B → hb (itr s_burn1 d c g) B
  | 0, c, g, hc, e, H => H
  | d + 1, c, g, hc, e, H => by
    obtain ⟨s, hs, es⟩ := h4
    obtain ⟨x, hx, ex⟩ := H c (by omega)
    rw [itr_s]
    refine hb_burn ⟨s, hs, es⟩ hB d (c + 1) _ (by omega) ?_ ?_
    · unfold s_burn1
      try dsimp only
      rw [upd_n (by omega), upd_n (by omega), upd_n (by omega)]
      exact e
    · unfold s_burn1
      try dsimp only
      refine hb_u (hb_u ?_ (by omega)) (by omega)
      rw [e, es, ex, n_mn (by omega) (by omega)]
      have hle : (if x < s then x else s) ≤ x := by split <;> omega
      rw [pk_sub hle]
      exact hb_set H (by omega) rfl
theorem hb_day {f : mj_S} {D B : Nat} (ho : oA f D) (hv : vt f) (H : hb f B) (hB : B + 360 < 1073741824) : hb (s_day f).1 (B + 360) := by
  have ho1 := oA_day ho
  have hv1 : vt (upd f 0 (f 0 + 1)) := vt_same (sT_upd (sT_rf f) (by unfold inT; omega)) hv
  have h0 : hb (upd f 0 (f 0 + 1)) B := hb_u H (by omega)
  unfold s_day
  dsimp only
  generalize upd f 0 (f 0 + 1) = f0 at ho1 h0 hv1
  by_cases hs : f 1 = 1
  · simp only [if_pos hs]
    have h4 := (oA_same (sA_wth (f := f0) (r := 0)) ho1).2.2.2.2.1
    exact (hb_burn h4 (by omega) 5 0 (s_wth 0 f0) (by omega) rfl (hb_wth 0 h0)).mono (by omega)
  · simp only [if_neg hs]
    obtain ⟨h1, h2⟩ := cuts_ok (f := f0) 6 0 f0 (by omega) (sA_rf _) ho1 hv1
    have h3 : sA f0 (s_wth (s_rain f0 (f0 0).toNatClampNeg) (s_cuts f0)) := sA.tr h1 sA_wth
    have h4 : vt (s_wth (s_rain f0 (f0 0).toNatClampNeg) (s_cuts f0)) := vt_wth h2
    have h5 : hb (s_wth (s_rain f0 (f0 0).toNatClampNeg) (s_cuts f0)) B := hb_wth _ (hb_cuts 6 0 f0 (by omega) (sA_rf _) ho1 h0)
    generalize s_wth (s_rain f0 (f0 0).toNatClampNeg) (s_cuts f0) = g at h3 h4 h5
    exact hb_carts (oA_same h3 ho1) 4 0 g 0 B (by omega) (sA_rf _) h4 h5 (by omega)
theorem hb_step {B n : Nat} (h : B + 360 * (n + 1) < 1073741824) : B + 360 * n + 360 < 1073741824 ∧ B + 360 * n < 1073741824 ∧ B + 360 * n + 360 ≤ B + 360 * (n + 1) ∧ 360 * n < 2147483648 := by
  have e : 360 * (n + 1) = 360 * n + 360 := Nat.mul_succ 360 n
  rw [e] at h ⊢
  generalize 360 * n = m at h ⊢
  exact ⟨(Nat.add_assoc B m 360).symm ▸ h, Nat.lt_of_le_of_lt (Nat.add_le_add_left (Nat.le_add_right m 360) B) h, Nat.le_of_eq (Nat.add_assoc B m 360), Nat.lt_of_le_of_lt (Nat.le_trans (Nat.le_add_right m 360) (Nat.le_add_left (m + 360) B)) (Nat.lt_trans h (by decide))⟩
theorem hb_days {f : mj_S} {D B : Nat} (ho : oA f D) (hv : vt f) (H : hb f B) (n : Nat) (hn : B + 360 * n < 1073741824) : hb (s_days n f).1 (B + 360 * n) := by
  induction n with
  | zero => exact H
  | succ n ih =>
    obtain ⟨hB, hB2, hB3, hB4⟩ := hb_step hn
    obtain ⟨h1, h2, -⟩ := days_ok ho hv n hB4
    have e : s_days (n + 1) f = s_days1 (0 + n) (s_days n f) := itr_last _ _ _ _
    rw [e, s_days1]
    have k1 := ih hB2
    have k2 := hb_day h1 h2 k1 hB
    exact k2.mono hB3
/-- a state as it may be in the law's run -/
def okJ (f : mj_S) (B : Nat) : Prop := (∀ k, k < 5 → ∃ n, n ≤ 900 ∧ f (10 + k) = nI n) ∧ hb f B ∧ tot f = 8000 ∧ ∀ k, k < 5 → bal f k = 0
def okL (f : mj_S) (B : Nat) : Prop := okS f B ∧ okJ f (360 * B)
theorem okL.mono {f : mj_S} {B C : Nat} (h : okL f B) (hBC : B ≤ C) : okL f C := ⟨h.1.mono hBC, h.2.1, h.2.2.1.mono (by omega), h.2.2.2⟩
theorem okJ_kb {f g : mj_S} {B C : Nat} (h : okJ f B) (hk : kb f g) (hN : sN f g) (hh : hb g C) : okJ g C := by
  obtain ⟨h1, h2, h3, h4⟩ := h
  refine ⟨fun k hk' => ?_, hh, hk.1.trans h3, fun k hk' => (hk.2 k hk').trans (h4 k hk')⟩
  rw [hN (10 + k) (by omega) (by omega)]
  exact h1 k hk'
theorem okL_days {f : mj_S} {B n : Nat} (h : okL f B) (hn : 1 ≤ n) (hB : 360 * (B + n) < 1073741824) : okL (s_days n f).1 (B + n) := by
  obtain ⟨⟨D, hD, ho, hv⟩, hJ⟩ := h
  obtain ⟨h1, h2, -⟩ := days_ok ho hv n (by omega)
  exact ⟨⟨D + n, by omega, h1, h2⟩, okJ_kb hJ (kb_days ho hv n (by omega)) (sN_days ho hv n (by omega)) ((hb_days ho hv hJ.2.1 n (by omega)).mono (by omega))⟩
theorem okJ_u {f : mj_S} {B j : Nat} {v : Int32} (h : okJ f B) (hj : j < 10 ∨ (40 ≤ j ∧ j < 45) ∨ (49 ≤ j ∧ j < 73) ∨ 133 ≤ j) : okJ (upd f j v) B := okJ_kb h (kb_u (by omega)) (sN_upd (sN_rf f) (by omega)) (hb_u h.2.1 (by omega))
theorem okJ_need {f : mj_S} {B k n : Nat} (h : okJ f B) (hk : k < 5) (hn : n ≤ 900) : okJ (upd f (10 + k) (nI n)) B := by
  obtain ⟨h1, h2, h3, h4⟩ := h
  have hkb : kb f (upd f (10 + k) (nI n)) := kb_u (by omega)
  refine ⟨fun i hi => ?_, hb_u h2 (by omega), hkb.1.trans h3, fun i hi => (hkb.2 i hi).trans (h4 i hi)⟩
  by_cases e : i = k
  · subst e
    exact ⟨n, hn, upd_s _ _ _⟩
  · obtain ⟨m, q1, q2⟩ := h1 i hi
    exact ⟨m, q1, by rw [upd_n (by omega)]; exact q2⟩

/-! RELATION: what stays of the shares; what is kept on both sides -/
theorem row_q_same {q q' f : mj_S} (h : ∀ b, b < 4 → q b = q' b) : row q f = row q' f := by
  funext k
  simp only [row]
  by_cases h1 : k < 53
  · rw [if_pos h1, if_pos h1]
  · rw [if_neg h1, if_neg h1]
    by_cases h2 : k < 57
    · rw [if_pos h2, if_pos h2]
      exact h (k - 53) (by omega)
    · rw [if_neg h2, if_neg h2]
def sS (f g : mj_S) : Prop := ∀ k, 53 ≤ k → k < 73 → g k = f k
theorem sS_rf (f : mj_S) : sS f f := fun _ _ _ => rfl
theorem sS.tr {f g h : mj_S} (a : sS f g) (b : sS g h) : sS f h := fun k h1 h2 => (b k h1 h2).trans (a k h1 h2)
theorem sS_upd {f g : mj_S} {j : Nat} {v : Int32} (h : sS f g) (hj : j < 53 ∨ 73 ≤ j) : sS f (upd g j v) := fun k h1 h2 => by
  rw [upd_n (by omega)]
  exact h k h1 h2
theorem com_same {f g : mj_S} (h : sS f g) : ∀ b, b < 4 → s_com f b = s_com g b := by
  intro b hb
  unfold s_com
  exact itr_congr 5 0 12 (fun k h1 h2 x => by rw [h (53 + b + 4 * k) (by omega) (by omega)])
theorem row_same {f g : mj_S} (hs : sS f g) (h : mj_S) : row (s_com f) h = row (s_com g) h := row_q_same (com_same hs)
theorem itr_sS {f0 : mj_S} {g : Nat → mj_S → mj_S} {n : Nat} (h : ∀ c a, c < n → sS f0 a → sS f0 (g c a)) : ∀ d c a, c + d ≤ n → sS f0 a → sS f0 (itr g d c a)
  | 0, _, _, _, ha => ha
  | d + 1, c, a, hc, ha => itr_sS h d (c + 1) _ (by omega) (h c a (by omega) ha)
theorem itr_sS2 {f0 : mj_S} {g : Nat → mj_S × Int32 → mj_S × Int32} {n : Nat} (h : ∀ c a, c < n → sS f0 a.1 → sS f0 (g c a).1) : ∀ d c a, c + d ≤ n → sS f0 a.1 → sS f0 (itr g d c a).1
  | 0, _, _, _, ha => ha
  | d + 1, c, a, hc, ha => itr_sS2 h d (c + 1) _ (by omega) (h c a (by omega) ha)
theorem sS_setw {f0 f : mj_S} {c : Nat} {h b : Int32} (hs : sS f0 f) : sS f0 (s_setw f c h b) := sS_upd (sS_upd hs (by omega)) (by omega)
theorem sS_turn (f : mj_S) : sS f (s_turn f) := by
  unfold s_turn
  split
  · exact itr_sS (n := 6) (fun c a _ h => sS_setw h) 6 0 _ (by omega) (sS_upd (sS_rf f) (by omega))
  · exact sS_upd (sS_rf f) (by omega)
theorem sS_wth (r : Nat) (f : mj_S) : sS f (s_wth r f) := by
  unfold s_wth
  split
  · exact itr_sS (n := 20) (fun c a _ h => sS_upd (sS_upd (sS_upd h (by omega)) (by omega)) (by omega)) 20 0 _ (by omega) (sS_rf f)
  · split
    · exact itr_sS (n := 20) (fun c a _ h => sS_upd (sS_upd (sS_upd h (by omega)) (by omega)) (by omega)) 20 0 _ (by omega) (sS_rf f)
    · exact sS_rf f
theorem sS_cut {f : mj_S} {D c : Nat} (ho : oA f D) (hc : c < 6) : sS f (s_cut c f) := by
  unfold s_cut
  split
  · exact sS_rf f
  · rename_i hne
    obtain ⟨-, -, -, -, -, -, -, -, a8⟩ := ho
    rcases a8 c hc with ⟨e1, -⟩ | ⟨h, b, hh, hb, e1, e2⟩
    · exact absurd e1 hne
    · simp only [e1, e2, nI_clamp (show h < 2 ^ 31 by omega), nI_clamp (show b < 2 ^ 31 by omega)]
      exact sS_upd (sS_upd (sS_upd (sS_upd (sS_rf f) (by omega)) (by omega)) (by omega)) (by omega)
theorem sS_cuts {f : mj_S} {D : Nat} : ∀ (d c : Nat) (g : mj_S), c + d ≤ 6 → sA f g → oA f D → sS f g → sS f (itr s_cut d c g)
  | 0, _, _, _, _, _, hs => hs
  | d + 1, c, g, hc, h, ho, hs => sS_cuts d (c + 1) _ (by omega) (h.tr (sA_cut (oA_same h ho) (by omega))) ho (hs.tr (sS_cut (oA_same h ho) (by omega)))
theorem sS_bring {f : mj_S} {h b : Nat} {m : Int32} (hh : h < 5) : sS f (s_bring f h b m) := by
  unfold s_bring
  have h2 : sS f (upd (upd f (113 + b + 4 * h) (f (113 + b + 4 * h) - m)) (15 + h) (upd f (113 + b + 4 * h) (f (113 + b + 4 * h) - m) (15 + h) + m)) := sS_upd (sS_upd (sS_rf f) (by omega)) (by omega)
  dsimp only
  generalize upd (upd f (113 + b + 4 * h) (f (113 + b + 4 * h) - m)) (15 + h) (upd f (113 + b + 4 * h) (f (113 + b + 4 * h) - m) (15 + h) + m) = f2 at h2
  split
  · exact h2
  · split
    · exact h2
    · rename_i hne
      rcases poor_in f2 with e | ⟨v, hv, e⟩
      · exact absurd e hne
      · rw [e, nI_clamp (by omega)]
        exact sS_upd (sS_upd (sS_upd (sS_upd h2 (by omega)) (by omega)) (by omega)) (by omega)
theorem sS_cart {f0 : mj_S} {D b : Nat} (f : mj_S) (hs : sS f0 f) : sS f0 (s_cart D b f).1 := by
  unfold s_cart
  exact itr_sS2 (n := 5) (fun c a _ h => h.tr (sS_bring (Nat.mod_lt _ (by omega)))) 5 0 _ (by omega) hs
theorem sS_carts {f0 : mj_S} {D : Nat} (f : mj_S) (hs : sS f0 f) : sS f0 (s_carts D f).1 := by
  unfold s_carts
  exact itr_sS2 (g := s_carts1 D) (n := 4) (fun c a _ h => show sS f0 (s_cart D c a.1).1 from sS_cart a.1 h) 4 0 (f, 0) (by omega) hs
theorem sS_burn {f0 : mj_S} (f : mj_S) (hs : sS f0 f) : sS f0 (s_burn f) := by
  unfold s_burn
  exact itr_sS (n := 5) (fun c a hc h => sS_upd (sS_upd (sS_upd h (by omega)) (by omega)) (by omega)) 5 0 _ (by omega) hs
theorem sS_day {f : mj_S} {D : Nat} (ho : oA f D) : sS f (s_day f).1 := by
  have ho1 := oA_day ho
  have h0 : sS f (upd f 0 (f 0 + 1)) := sS_upd (sS_rf f) (by omega)
  unfold s_day
  dsimp only
  generalize upd f 0 (f 0 + 1) = f0 at ho1 h0
  by_cases hs : f 1 = 1
  · simp only [if_pos hs]
    exact sS_burn _ (h0.tr (sS_wth 0 f0))
  · simp only [if_neg hs]
    exact sS_carts _ (h0.tr ((sS_cuts 6 0 f0 (by omega) (sA_rf _) ho1 (sS_rf _)).tr (sS_wth _ _)))
theorem sS_days {f : mj_S} {D : Nat} (ho : oA f D) (hv : vt f) : ∀ n : Nat, 360 * n < 2147483648 → sS f (s_days n f).1
  | 0, _ => sS_rf f
  | n + 1, hn => by
    obtain ⟨h1, h2, -⟩ := days_ok ho hv n (by omega)
    have e : s_days (n + 1) f = s_days1 (0 + n) (s_days n f) := itr_last _ _ _ _
    rw [e, s_days1]
    exact (sS_days ho hv n (by omega)).tr (sS_day h1)
/-- a state as it may be on a day that is at most B -/
def okS (f : mj_S) (B : Nat) : Prop := ∃ D, D ≤ B ∧ oA f D ∧ vt f
theorem okS.mono {f : mj_S} {B C : Nat} (h : okS f B) (hBC : B ≤ C) : okS f C := by
  obtain ⟨D, h1, h2⟩ := h
  exact ⟨D, by omega, h2⟩
theorem okS_same {f g : mj_S} {B : Nat} (h : okS f B) (hs : ∀ k, k < 157 → g k = f k) : okS g B := by
  obtain ⟨D, h1, h2, h3⟩ := h
  exact ⟨D, h1, oA_same (fun k hk => hs k (by unfold inA at hk; omega)) h2, vt_same (fun k hk => hs k (by unfold inT at hk; omega)) h3⟩
theorem okS_upd {f : mj_S} {B j : Nat} {v : Int32} (h : okS f B) (h1 : ¬ inA j) (h2 : ¬ inT j) : okS (upd f j v) B := by
  obtain ⟨D, h3, h4, h5⟩ := h
  exact ⟨D, h3, oA_same (sA_upd (sA_rf f) h1) h4, vt_same (sT_upd (sT_rf f) h2) h5⟩
theorem okS_wid {f : mj_S} {B h : Nat} {x : Int32} (hf : okS f B) (hh : h < 5) (hx : x = 0 ∨ x = 1) : okS (upd f (5 + h) x) B := by
  obtain ⟨D, h3, ⟨a0, a1, a2, a3, a4, a5, a6, a7, a8⟩, h5⟩ := hf
  refine ⟨D, h3, ⟨?_, ?_, ?_, ?_, ?_, fun i hi => ?_, fun i hi => ?_, fun i hi => ?_, fun i hi => ?_⟩, vt_same (sT_upd (sT_rf f) (by unfold inT; omega)) h5⟩
  · rw [upd_n (by omega)]; exact a0
  · rw [upd_n (by omega)]; exact a1
  · rw [upd_n (by omega)]; exact a2
  · rw [upd_n (by omega)]; exact a3
  · rw [upd_n (by omega)]; exact a4
  · by_cases e : i = h
    · subst e; rw [upd_s]; exact hx
    · rw [upd_n (by omega)]; exact a5 i hi
  · rw [upd_n (by omega)]; exact a6 i hi
  · rw [upd_n (by omega)]; exact a7 i hi
  · rw [upd_n (by omega), upd_n (by omega)]; exact a8 i hi
theorem okS_track {f : mj_S} {B b c : Nat} (hf : okS f B) (hb : b < 4) (hc : c ≤ 90) : okS (upd f (49 + b) (nI c)) B := by
  obtain ⟨D, h3, ⟨a0, a1, a2, a3, a4, a5, a6, a7, a8⟩, h5⟩ := hf
  refine ⟨D, h3, ⟨?_, ?_, ?_, ?_, ?_, fun i hi => ?_, fun i hi => ?_, fun i hi => ?_, fun i hi => ?_⟩, vt_same (sT_upd (sT_rf f) (by unfold inT; omega)) h5⟩
  · rw [upd_n (by omega)]; exact a0
  · rw [upd_n (by omega)]; exact a1
  · rw [upd_n (by omega)]; exact a2
  · rw [upd_n (by omega)]; exact a3
  · rw [upd_n (by omega)]; exact a4
  · rw [upd_n (by omega)]; exact a5 i hi
  · by_cases e : i = b
    · subst e; rw [upd_s]; exact ⟨c, hc, rfl⟩
    · rw [upd_n (by omega)]; exact a6 i hi
  · rw [upd_n (by omega)]; exact a7 i hi
  · rw [upd_n (by omega), upd_n (by omega)]; exact a8 i hi
theorem okS_str {f : mj_S} {B b c : Nat} (hf : okS f B) (hb : b < 6) (hc : c ≤ 40) : okS (upd f (133 + b) (nI c)) B := by
  obtain ⟨D, h3, ⟨a0, a1, a2, a3, a4, a5, a6, a7, a8⟩, h5⟩ := hf
  refine ⟨D, h3, ⟨?_, ?_, ?_, ?_, ?_, fun i hi => ?_, fun i hi => ?_, fun i hi => ?_, fun i hi => ?_⟩, vt_same (sT_upd (sT_rf f) (by unfold inT; omega)) h5⟩
  · rw [upd_n (by omega)]; exact a0
  · rw [upd_n (by omega)]; exact a1
  · rw [upd_n (by omega)]; exact a2
  · rw [upd_n (by omega)]; exact a3
  · rw [upd_n (by omega)]; exact a4
  · rw [upd_n (by omega)]; exact a5 i hi
  · rw [upd_n (by omega)]; exact a6 i hi
  · by_cases e : i = b
    · subst e; rw [upd_s]; exact ⟨c, hc, rfl⟩
    · rw [upd_n (by omega)]; exact a7 i hi
  · rw [upd_n (by omega), upd_n (by omega)]; exact a8 i hi
theorem okS_set {f : mj_S} {B c k : Nat} (hf : okS f B) (hk : (k = 2 ∧ c ≤ 9) ∨ (k = 3 ∧ c ≤ 50) ∨ (k = 4 ∧ c ≤ 30)) : okS (upd f k (nI c)) B := by
  obtain ⟨D, h3, ⟨a0, a1, a2, a3, a4, a5, a6, a7, a8⟩, h5⟩ := hf
  refine ⟨D, h3, ⟨?_, ?_, ?_, ?_, ?_, fun i hi => ?_, fun i hi => ?_, fun i hi => ?_, fun i hi => ?_⟩, vt_same (sT_upd (sT_rf f) (by unfold inT; omega)) h5⟩
  · rw [upd_n (by omega)]; exact a0
  · rw [upd_n (by omega)]; exact a1
  · rcases hk with ⟨rfl, hc⟩ | ⟨rfl, hc⟩ | ⟨rfl, hc⟩
    · rw [upd_s]; exact ⟨c, hc, rfl⟩
    · rw [upd_n (by omega)]; exact a2
    · rw [upd_n (by omega)]; exact a2
  · rcases hk with ⟨rfl, hc⟩ | ⟨rfl, hc⟩ | ⟨rfl, hc⟩
    · rw [upd_n (by omega)]; exact a3
    · rw [upd_s]; exact ⟨c, hc, rfl⟩
    · rw [upd_n (by omega)]; exact a3
  · rcases hk with ⟨rfl, hc⟩ | ⟨rfl, hc⟩ | ⟨rfl, hc⟩
    · rw [upd_n (by omega)]; exact a4
    · rw [upd_n (by omega)]; exact a4
    · rw [upd_s]; exact ⟨c, hc, rfl⟩
  · rw [upd_n (by omega)]; exact a5 i hi
  · rw [upd_n (by omega)]; exact a6 i hi
  · rw [upd_n (by omega)]; exact a7 i hi
  · rw [upd_n (by omega), upd_n (by omega)]; exact a8 i hi
theorem okS_days {f : mj_S} {B n : Nat} (h : okS f B) (hn : n ≤ 60) : okS (s_days n f).1 (B + 60) := by
  obtain ⟨D, h1, h2, h3⟩ := h
  obtain ⟨k1, k2, -⟩ := days_ok h2 h3 n (by omega)
  exact ⟨D + n, by omega, k1, k2⟩
theorem okS.days {f : mj_S} {B n : Nat} (h : okS f B) (hn : n ≤ 60) : sS f (s_days n f).1 := by
  obtain ⟨D, h1, h2, h3⟩ := h
  exact sS_days h2 h3 n (by omega)
/-! the ring of the class, the list of the reference -/
theorem row_com_same {f g : mj_S} (h : ∀ p, p < 157 → f p = g p) : ∀ k, k < 161 → row (s_com f) f k = row (s_com g) g k := by
  intro k hk
  rw [row_same (f := f) (g := g) (fun p h1 h2 => (h p (by omega)).symm) f]
  simp only [row]
  split
  · exact h k (by omega)
  · split
    · rfl
    · exact h (k - 4) (by omega)
def svA (sv : mj_S) (j : Nat) : mj_S := fun p => sv (157 * j + p)
def Rg (R : mj_S) (T m : Nat) (sv : mj_S) : Prop := ∀ j, j < m → ∀ k, k < 161 → R (161 * ((T + 6 - j) % 6) + k) = row (s_com (svA sv (m - 1 - j))) (svA sv (m - 1 - j)) k
theorem sblit_at (r : mj_S) (b n : Nat) (R : mj_S) (k : Nat) : s_blit r b n R k = if b ≤ k ∧ k < b + n then r (k - b) else R k := by
  rw [s_blit, blit_at]
  rfl
theorem Rg_pop {R sv : mj_S} {T m : Nat} (hT : T < 6) (hm : m < 6) (h : Rg R T (m + 1) sv) : Rg R (pvT T) m sv := by
  intro j hj k hk
  have h1 := h (j + 1) (by omega) k hk
  have eT : pvT T < 6 ∧ (pvT T + 1) % 6 = T := by unfold pvT; split <;> omega
  rw [show (pvT T + 6 - j) % 6 = (T + 6 - (j + 1)) % 6 by omega, h1, show m + 1 - 1 - (j + 1) = m - 1 - j by omega]
theorem Rg_top {R sv : mj_S} {T m : Nat} (hT : T < 6) (h : Rg R T (m + 1) sv) : ∀ j, j < 161 → R (161 * T + j) = row (s_com (svA sv m)) (svA sv m) j := by
  intro k hk
  have h1 := h 0 (by omega) k hk
  rw [show (T + 6 - 0) % 6 = T by omega] at h1
  exact h1
def svO (sv : mj_S) (m B : Nat) : Prop := ∀ j, j < m → okS (svA sv j) B
theorem nxT_lt {T : Nat} (h : T < 6) : nxT T < 6 := by unfold nxT; split <;> omega
theorem nxM_le {m : Nat} (h : m ≤ 6) : nxM m ≤ 6 := by unfold nxM; split <;> omega
theorem pvT_lt {T : Nat} (h : T < 6) : pvT T < 6 := by unfold pvT; split <;> omega
/-- the snapshot on both sides -/
def snR (R1 : mj_S) (m1 : Nat) (sn : mj_S) (hs : Int32) (B : Nat) : Prop := (hs = 0 ∧ m1 = 0) ∨ (hs = 1 ∧ m1 = 1 ∧ (∀ k, k < 161 → R1 (161 * 0 + k) = row (s_com sn) sn k) ∧ okS sn B)
theorem snR.mono {R1 : mj_S} {m1 : Nat} {sn : mj_S} {hs : Int32} {B C : Nat} (h : snR R1 m1 sn hs B) (hBC : B ≤ C) : snR R1 m1 sn hs C := h.imp id (fun ⟨a, b, c, d⟩ => ⟨a, b, c, d.mono hBC⟩)
/-- all that is related -/
def Inv (B : Nat) (f R : mj_S) (T m : Nat) (R1 : mj_S) (m1 : Nat) (g : mj_S) (n : Nat) (sv sn : mj_S) (hs : Int32) (bf : mj_S) (t : Nat → Nat) : Prop := okS f B ∧ T < 6 ∧ m ≤ 6 ∧ Rg R T m sv ∧ svO sv m B ∧ snR R1 m1 sn hs B ∧ TX g n t ∧ TX bf n t
theorem Inv.mono {B C : Nat} {f R : mj_S} {T m : Nat} {R1 : mj_S} {m1 : Nat} {g : mj_S} {n : Nat} {sv sn : mj_S} {hs : Int32} {bf : mj_S} {t : Nat → Nat} (h : Inv B f R T m R1 m1 g n sv sn hs bf t) (hBC : B ≤ C) : Inv C f R T m R1 m1 g n sv sn hs bf t := by
  obtain ⟨h1, h2, h3, h4, h5, h6, h7, h8⟩ := h
  exact ⟨h1.mono hBC, h2, h3, h4, fun j hj => (h5 j hj).mono hBC, h6.mono hBC, h7, h8⟩
theorem sS_hearth {f : mj_S} {h : Nat} {x v : Int32} (hh : h < 5) : sS f (upd (upd f (5 + h) x) (10 + h) v) := sS_upd (sS_upd (sS_rf f) (by omega)) (by omega)
/-- the commons, where a hearth's shares are others -/
theorem com_upd {f : mj_S} {g b : Nat} {x : Int32} (hg : g < 5) (hb : b < 4) : ∀ c, c < 4 → s_com (upd f (53 + b + 4 * g) x) c = if c = b then s_com f b + f (53 + b + 4 * g) - x else s_com f c := by
  intro c hc
  by_cases h : c = b
  · subst h
    rw [if_pos rfl]
    unfold s_com
    have hg5 : g = 0 ∨ g = 1 ∨ g = 2 ∨ g = 3 ∨ g = 4 := by omega
    simp only [itr]
    rcases hg5 with rfl | rfl | rfl | rfl | rfl
    all_goals
      simp only [Nat.zero_add, Nat.reduceAdd, Nat.mul_zero, Nat.reduceMul, Nat.add_zero]
      repeat rw [upd_s]
      repeat rw [upd_n (by omega)]
      apply Int32.toBitVec_inj.1
      simp only [Int32.toBitVec_sub, Int32.toBitVec_add]
      grind
  · rw [if_neg h]
    unfold s_com
    exact itr_congr 5 0 12 (fun k h1 h2 y => by rw [upd_n (by omega)])

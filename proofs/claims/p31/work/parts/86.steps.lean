/-! STEPS of the law: a call, what is due, and what stays true -/
def SH (f : mj_S) : Prop := ∀ b, b < 4 → ∃ s : Nat → Nat, (∀ h, h < 5 → f (53 + b + 4 * h) = nI (s h)) ∧ s 0 + s 1 + s 2 + s 3 + s 4 ≤ 12
theorem SH_same {f g : mj_S} (h : SH f) (hs : sS f g) : SH g := fun b hb => by
  obtain ⟨s, h1, h2⟩ := h b hb
  exact ⟨s, fun i hi => by rw [hs (53 + b + 4 * i) (by omega) (by omega)]; exact h1 i hi, h2⟩
theorem SH_com {f : mj_S} {b : Nat} {s : Nat → Nat} (hs : ∀ h, h < 5 → f (53 + b + 4 * h) = nI (s h)) (hle : s 0 + s 1 + s 2 + s 3 + s 4 ≤ 12) : s_com f b = nI (12 - (s 0 + s 1 + s 2 + s 3 + s 4)) := by
  show 12 - f (53 + b + 4 * 0) - f (53 + b + 4 * 1) - f (53 + b + 4 * 2) - f (53 + b + 4 * 3) - f (53 + b + 4 * 4) = _
  rw [hs 0 (by omega), hs 1 (by omega), hs 2 (by omega), hs 3 (by omega), hs 4 (by omega), show (12 : Int32) = nI 12 from rfl, pk_sub (by omega), pk_sub (by omega), pk_sub (by omega), pk_sub (by omega), pk_sub (by omega)]
  congr 1
  omega
theorem SH_set {f : mj_S} (H : SH f) {b h : Nat} (hb : b < 4) (hh : h < 5) {s : Nat → Nat} (hs : ∀ i, i < 5 → f (53 + b + 4 * i) = nI (s i)) {v : Nat} {x : Int32} (hx : x = nI v) (hv : s 0 + s 1 + s 2 + s 3 + s 4 + v ≤ 12 + s h) : SH (upd f (53 + b + 4 * h) x) := by
  intro b' hb'
  by_cases e : b' = b
  · subst e
    refine ⟨fun i => if i = h then v else s i, fun i hi => ?_, ?_⟩
    · by_cases ei : i = h
      · subst ei
        rw [upd_s]
        dsimp only
        rw [if_pos rfl]
        exact hx
      · rw [upd_n (by omega)]
        dsimp only
        rw [if_neg ei]
        exact hs i hi
    · rcases (show h = 0 ∨ h = 1 ∨ h = 2 ∨ h = 3 ∨ h = 4 by omega) with rfl | rfl | rfl | rfl | rfl <;> simp <;> omega
  · obtain ⟨s2, h1, h2⟩ := H b' hb'
    exact ⟨s2, fun i hi => by rw [upd_n (by omega)]; exact h1 i hi, h2⟩
theorem s_le {s : Nat → Nat} {h : Nat} (hh : h < 5) : s h ≤ s 0 + s 1 + s 2 + s 3 + s 4 := by
  rcases (show h = 0 ∨ h = 1 ∨ h = 2 ∨ h = 3 ∨ h = 4 by omega) with rfl | rfl | rfl | rfl | rfl <;> omega
theorem s_le2 {s : Nat → Nat} {g h : Nat} (hg : g < 5) (hh : h < 5) (hgh : ¬ g = h) : s g + s h ≤ s 0 + s 1 + s 2 + s 3 + s 4 := by
  rcases (show h = 0 ∨ h = 1 ∨ h = 2 ∨ h = 3 ∨ h = 4 by omega) with rfl | rfl | rfl | rfl | rfl <;> rcases (show g = 0 ∨ g = 1 ∨ g = 2 ∨ g = 3 ∨ g = 4 by omega) with rfl | rfl | rfl | rfl | rfl <;> omega
def okM (f : mj_S) (B : Nat) : Prop := okL f B ∧ SH f
theorem nn100 {n : Nat} (h : n < 2147483648) : ¬ nI n < -100 := by
  rw [Int32.lt_iff_toInt_lt, nI_toInt h, show (-100 : Int32).toInt = -100 by decide]
  omega
theorem su01 {g : Nat → Int32} (hg : ∀ i, g i = 0 ∨ g i = 1) : ∀ k, ∃ n, n ≤ k ∧ su g k = nI n
  | 0 => ⟨0, by omega, rfl⟩
  | k + 1 => by
    obtain ⟨n, h1, h2⟩ := su01 hg k
    rcases hg k with e | e
    · exact ⟨n, by omega, by rw [su_s, h2, e, Int32.add_zero]⟩
    · exact ⟨n + 1, by omega, by rw [su_s, h2, e, nI_1]⟩
theorem cnt_nn (f : mj_S) (h b : Int32) : ¬ s_cnt f h b < -100 := by
  obtain ⟨n, h1, h2⟩ := su01 (g := fun c => if f (139 + c) = h ∧ f (145 + c) = b then 1 else 0) (fun i => by
    by_cases q : f (139 + i) = h ∧ f (145 + i) = b
    · exact Or.inr (if_pos q)
    · exact Or.inl (if_neg q)) 6
  rw [cnt_su, h2]
  exact nn100 (by omega)
theorem cntA_nn {f : mj_S} {D : Nat} (ho : oA f D) : ¬ s_cntA f < -100 := by
  obtain ⟨n, h1, h2⟩ := su01 (g := fun c => if 0 ≤ f (139 + c) ∧ ((-1 : Int32) < 0 ∨ f (139 + c) = -1) ∧ ((-1 : Int32) < 0 ∨ f (145 + c) = -1) then 1 else 0) (fun i => by
    by_cases q : 0 ≤ f (139 + i) ∧ ((-1 : Int32) < 0 ∨ f (139 + i) = -1) ∧ ((-1 : Int32) < 0 ∨ f (145 + i) = -1)
    · exact Or.inr (if_pos q)
    · exact Or.inl (if_neg q)) 6
  rw [← wk_cntA ho, wk_su, h2]
  exact nn100 (by omega)
theorem itr_okJ {B : Nat} {g : Nat → mj_S → mj_S} {n : Nat} (h : ∀ c a, c < n → okJ a B → okJ (g c a) B) : ∀ d c a, c + d ≤ n → okJ a B → okJ (itr g d c a) B
  | 0, _, _, _, ha => ha
  | d + 1, c, a, hc, ha => itr_okJ h d (c + 1) _ (by omega) (h c a (by omega) ha)
theorem okJ_setw {f : mj_S} {B c : Nat} {x y : Int32} (h : okJ f B) (hc : c < 6) : okJ (s_setw f c x y) B := okJ_u (okJ_u h (by omega)) (by omega)
theorem okJ_turn {f : mj_S} {B : Nat} (h : okJ f B) : okJ (s_turn f) B := by
  unfold s_turn
  split
  · exact itr_okJ (n := 6) (fun c a hc ha => okJ_setw ha hc) 6 0 _ (by omega) (okJ_u h (by omega))
  · exact okJ_u h (by omega)
/-- the call answers t and leaves the class in the state f2; what it has changed can be undone -/
def CallOK (l : Launch) (as : List Value) (f f2 : mj_S) (t : Int32) : Prop := ∀ (R : mj_S) (T m : Nat) (h : mj_S), T < 6 → m ≤ 6 → ∃ (R2 : mj_S) (T2 m2 : Nat), T2 < 6 ∧ m2 ≤ 6 ∧ MCE l yL_call wsL_call rmL_call ctN false (.ref 0 :: as) (SW f R T m h) (some (.int t)) (SW f2 R2 T2 m2 h) ∧ (¬ t < -100 → 1 ≤ m2 ∧ ∀ j, j < 161 → R2 (161 * T2 + j) = row (s_com f) f j)
theorem call_ok {l : Launch} {as : List Value} {f f2 : mj_S} {t : Int32} (hM : ∀ (R : mj_S) (T m : Nat) (h : mj_S), T < 6 → m ≤ 6 → MCE l yL_call wsL_call rmL_call ctN false (.ref 0 :: as) (SW f R T m h) (some (.int t)) (SW f2 (s_blit (row (s_com f) f) (161 * nxT T) 161 R) (nxT T) (nxM m) h)) : CallOK l as f f2 t := fun R T m h hT hm => ⟨_, _, _, nxT_lt hT, nxM_le hm, hM R T m h hT hm, fun _ => ⟨by unfold nxM; split <;> omega, fun j hj => by rw [sblit_at, if_pos ⟨by omega, by omega⟩]; congr 1; omega⟩⟩
theorem call_thr {l : Launch} {as : List Value} {f : mj_S} {t : Int32} (ht : t < -100) (hM : ∀ (R : mj_S) (T m : Nat) (h : mj_S), T < 6 → m ≤ 6 → MCE l yL_call wsL_call rmL_call ctN false (.ref 0 :: as) (SW f R T m h) (some (.int t)) (SW f R T m h)) : CallOK l as f f t := fun R T m h hT hm => ⟨R, T, m, hT, hm, hM R T m h hT hm, fun q => absurd ht q⟩
def DueOK (l : Launch) (as : List Value) (f f2 : mj_S) (t : Int32) : Prop := ∀ (Ψ : mj_S → mj_W), HV Ψ → MC l yL_due wsL_due rmL_due false (as ++ [.ref 11, .ref 12, .ref 13, .ref 14, .ref 15, .ref 16, .ref 17]) (Ψ f) (some (.int t)) (Ψ f2)
def StepOK (l : Launch) (as : List Value) (f : mj_S) (B : Nat) : Prop := ∃ (f2 : mj_S) (t : Int32), CallOK l as f f2 t ∧ DueOK l as f f2 t ∧ okM f2 (B + 60) ∧ (t < -100 → f2 = f)
section SP
variable {l : Launch} {f : mj_S} {B : Nat}
theorem step_work (hl : l.stackTraces = false) (hM : okM f B) {a b e : Nat} {z : Nat} (ha : a < 6) (hb : b < 5) (he : e < 4) : StepOK l [.int 0, .int (nI a), .int (nI b), .int (nI e), .int (nI z)] f B := by
  obtain ⟨⟨⟨D, hD, ho, hv⟩, hJ⟩, hS⟩ := id hM
  by_cases hr : s_why f b e = 0
  · refine ⟨s_setw f a (nI b) (nI e), s_cnt (s_setw f a (nI b) (nI e)) (nI b) (nI e), call_ok (fun R T m h hT hm => ?_), fun Ψ hΨ => lm_due_work hΨ ha hb he hr, ⟨okL.mono ⟨⟨D, hD, oA_setw ho ha (Or.inr ⟨b, e, hb, he, rfl, rfl⟩), vt_setw ha hv⟩, okJ_setw hJ ha⟩ (by omega), SH_same hS (sS_setw (sS_rf f))⟩, fun q => absurd q (cnt_nn _ _ _)⟩
    have e1 : MC l yX3_work wsX3_work rmX3_work false [.ref 0, .int (nI a), .int (nI b), .int (nI e)] (SW f R T m h) (some (.int (s_cnt (s_setw f a (nI b) (nI e)) (nI b) (nI e)))) (SW (s_setw f a (nI b) (nI e)) (s_blit (row (s_com f) f) (161 * nxT T) 161 R) (nxT T) (nxM m) h) := by
      unfold SW
      rw [← row_same (sS_setw (sS_rf f)) (s_setw f a (nI b) (nI e))]
      exact x_work (cvL h) hT hm ha hb he hr
    exact lm_call_work (lh_work_0 e1 rfl)
  · refine ⟨f, -103, call_thr (by decide) (fun R T m h hT hm => ?_), fun Ψ hΨ => lm_due_workx hΨ ha hb he hr, ⟨okL.mono hM.1 (by omega), hS⟩, fun _ => rfl⟩
    have e1 : MCX l yX3_work wsX3_work rmT3_work [.ref 0, .int (nI a), .int (nI b), .int (nI e)] (SW f R T m h) "java/lang/IllegalStateException" (SW f R T m h) := by
      unfold SW
      exact x_work_2 hl (cvL h) ha hb he hr
    exact lm_call_workx (lh_work_2 e1 rfl)
theorem step_pass (hl : l.stackTraces = false) (hM : okM f B) (hB : B < 1000000) {a : Nat} {b e z : Nat} (ha : 1 ≤ a ∧ a ≤ 60) : StepOK l [.int 1, .int (nI a), .int (nI b), .int (nI e), .int (nI z)] f B := by
  obtain ⟨⟨⟨D, hD, ho, hv⟩, hJ⟩, hS⟩ := id hM
  obtain ⟨q1, q2, k, hk, ek⟩ := days_ok ho hv a (by omega)
  refine ⟨(s_days a f).1, (s_days a f).2, call_ok (fun R T m h hT hm => ?_), fun Ψ hΨ => lm_due_pass hΨ ha.2 (by omega) ho hv, ⟨(okL_days hM.1 ha.1 (by omega)).mono (by omega), SH_same hS (okS.days ⟨D, hD, ho, hv⟩ ha.2)⟩, fun q => absurd q (by rw [ek]; exact nn100 (by omega))⟩
  have e1 : MC l yX3_pass wsX3_pass rmX3_pass false [.ref 0, .int (nI a)] (SW f R T m h) (some (.int ((s_days a f).2))) (SW ((s_days a f).1) (s_blit (row (s_com f) f) (161 * nxT T) 161 R) (nxT T) (nxM m) h) := by
    unfold SW
    rw [← row_same (okS.days ⟨D, hD, ho, hv⟩ ha.2) (s_days a f).1]
    exact x_pass (cvL h) hT hm ho hv (by omega) ha
  exact lm_call_pass (lh_pass_0 e1 rfl)
theorem step_rest (hl : l.stackTraces = false) (hM : okM f B) (hB : B < 1000000) {a : Nat} {b e z : Nat} (ha : a < 6) : StepOK l [.int 2, .int (nI a), .int (nI b), .int (nI e), .int (nI z)] f B := by
  obtain ⟨⟨⟨D, hD, ho, hv⟩, hJ⟩, hS⟩ := id hM
  have ho2 := oA_setw ho ha (u := -1) (v := -1) (Or.inl ⟨rfl, rfl⟩)
  refine ⟨s_setw f a (-1) (-1), s_cntA (s_setw f a (-1) (-1)), call_ok (fun R T m h hT hm => ?_), fun Ψ hΨ => lm_due_rest hΨ ha ho2, ⟨okL.mono ⟨⟨D, hD, ho2, vt_setw ha hv⟩, okJ_setw hJ ha⟩ (by omega), SH_same hS (sS_setw (sS_rf f))⟩, fun q => absurd q (cntA_nn ho2)⟩
  have e1 : MC l yX3_rest wsX3_rest rmX3_rest false [.ref 0, .int (nI a)] (SW f R T m h) (some (.int (s_cntA (s_setw f a (-1) (-1))))) (SW (s_setw f a (-1) (-1)) (s_blit (row (s_com f) f) (161 * nxT T) 161 R) (nxT T) (nxM m) h) := by
    unfold SW
    rw [← row_same (sS_setw (sS_rf f)) (s_setw f a (-1) (-1))]
    exact x_rest (cvL h) hT hm ha
  exact lm_call_rest (lh_rest_0 e1 rfl)
theorem step_snow (hM : okM f B) {a b e z : Nat} : StepOK l [.int 4, .int (nI a), .int (nI b), .int (nI e), .int (nI z)] f B := by
  obtain ⟨⟨⟨D, hD, ho, hv⟩, hJ⟩, hS⟩ := id hM
  obtain ⟨k1, k2⟩ := turn_ok ho hv
  have hfl : f 1 ^^^ 1 = 1 - f 1 := by rcases ho.2.1 with q | q <;> rw [q] <;> rfl
  have ht : ¬ s_turn f 1 < -100 := by rw [turn_1]; rcases ho.2.1 with q | q <;> rw [q] <;> decide
  refine ⟨s_turn f, s_turn f 1, call_ok (fun R T m h hT hm => ?_), fun Ψ hΨ => lm_due_snow hΨ hfl, ⟨okL.mono ⟨⟨D, hD, k1, k2⟩, okJ_turn hJ⟩ (by omega), SH_same hS (sS_turn f)⟩, fun q => absurd q ht⟩
  have e1 : MC l yX3_snow wsX3_snow rmX3_snow false [.ref 0] (SW f R T m h) (some (.int (s_turn f 1))) (SW (s_turn f) (s_blit (row (s_com f) f) (161 * nxT T) 161 R) (nxT T) (nxM m) h) := by
    unfold SW
    rw [← row_same (sS_turn f) (s_turn f)]
    exact x_snow (cvL h) hT hm
  exact lm_call_snow e1 rfl
theorem step_hearth0 (hl : l.stackTraces = false) (hM : okM f B) (hB : B < 1000000) {a e : Nat} {z : Nat} (ha : a < 5) (he : 50 ≤ e ∧ e ≤ 900) : StepOK l [.int 5, .int (nI a), .int (nI 0), .int (nI e), .int (nI z)] f B := by
  obtain ⟨⟨⟨D, hD, ho, hv⟩, hJ⟩, hS⟩ := id hM
  obtain ⟨nd, hnd, end1⟩ := hJ.1 a ha
  refine ⟨upd (upd f (5 + a) 0) (10 + a) (nI e), f (10 + a), call_ok (fun R T m h hT hm => ?_), fun Ψ hΨ => lm_due_hearth hΨ ha, ⟨okL.mono ⟨okS_upd (okS_wid ⟨D, hD, ho, hv⟩ ha (Or.inl rfl)) (by unfold inA; omega) (by unfold inT; omega), okJ_need (okJ_u hJ (by omega)) ha he.2⟩ (by omega), SH_same hS (sS_hearth ha)⟩, fun q => absurd q (by rw [end1]; exact nn100 (by omega))⟩
  have e1 : MC l yX3_hearth wsX3_hearth rmX3_hearth false [.ref 0, .int (nI a), .int 0, .int (nI e)] (SW f R T m h) (some (.int (f (10 + a)))) (SW (upd (upd f (5 + a) 0) (10 + a) (nI e)) (s_blit (row (s_com f) f) (161 * nxT T) 161 R) (nxT T) (nxM m) h) := by
    unfold SW
    rw [← row_same (sS_hearth ha) (upd (upd f (5 + a) 0) (10 + a) (nI e))]
    exact x_hearth0 (cvL h) hT hm ha he
  exact lm_call_hearth0 (lh_hearth_0 e1 rfl)
theorem step_hearth1 (hl : l.stackTraces = false) (hM : okM f B) (hB : B < 1000000) {a e : Nat} {z : Nat} (ha : a < 5) (he : 50 ≤ e ∧ e ≤ 900) : StepOK l [.int 5, .int (nI a), .int (nI 1), .int (nI e), .int (nI z)] f B := by
  obtain ⟨⟨⟨D, hD, ho, hv⟩, hJ⟩, hS⟩ := id hM
  obtain ⟨nd, hnd, end1⟩ := hJ.1 a ha
  refine ⟨upd (upd f (5 + a) 1) (10 + a) (nI e), f (10 + a), call_ok (fun R T m h hT hm => ?_), fun Ψ hΨ => lm_due_hearth hΨ ha, ⟨okL.mono ⟨okS_upd (okS_wid ⟨D, hD, ho, hv⟩ ha (Or.inr rfl)) (by unfold inA; omega) (by unfold inT; omega), okJ_need (okJ_u hJ (by omega)) ha he.2⟩ (by omega), SH_same hS (sS_hearth ha)⟩, fun q => absurd q (by rw [end1]; exact nn100 (by omega))⟩
  have e1 : MC l yX3_hearth wsX3_hearth rmX3_hearth false [.ref 0, .int (nI a), .int 1, .int (nI e)] (SW f R T m h) (some (.int (f (10 + a)))) (SW (upd (upd f (5 + a) 1) (10 + a) (nI e)) (s_blit (row (s_com f) f) (161 * nxT T) 161 R) (nxT T) (nxM m) h) := by
    unfold SW
    rw [← row_same (sS_hearth ha) (upd (upd f (5 + a) 1) (10 + a) (nI e))]
    exact x_hearth1 (cvL h) hT hm ha he
  exact lm_call_hearth1 (lh_hearth_0 e1 rfl)
theorem step_track (hl : l.stackTraces = false) (hM : okM f B) (hB : B < 1000000) {a b : Nat} {e z : Nat} (ha : a < 4) (hb : 10 ≤ b ∧ b ≤ 90) : StepOK l [.int 6, .int (nI a), .int (nI b), .int (nI e), .int (nI z)] f B := by
  obtain ⟨⟨⟨D, hD, ho, hv⟩, hJ⟩, hS⟩ := id hM
  obtain ⟨nd, hnd, end1⟩ := ho.2.2.2.2.2.2.1 a ha
  refine ⟨upd f (49 + a) (nI b), f (49 + a), call_ok (fun R T m h hT hm => ?_), fun Ψ hΨ => lm_due_track hΨ ha, ⟨okL.mono ⟨okS_track ⟨D, hD, ho, hv⟩ ha hb.2, okJ_u hJ (by omega)⟩ (by omega), SH_same hS (sS_upd (sS_rf f) (by omega))⟩, fun q => absurd q (by rw [end1]; exact nn100 (by omega))⟩
  have e1 : MC l yX3_track wsX3_track rmX3_track false [.ref 0, .int (nI a), .int (nI b)] (SW f R T m h) (some (.int (f (49 + a)))) (SW (upd f (49 + a) (nI b)) (s_blit (row (s_com f) f) (161 * nxT T) 161 R) (nxT T) (nxM m) h) := by
    unfold SW
    rw [← row_same (sS_upd (sS_rf f) (by omega)) (upd f (49 + a) (nI b))]
    exact x_track (cvL h) hT hm ha hb
  exact lm_call_track (lh_track_0 e1 rfl)
theorem step_strength (hl : l.stackTraces = false) (hM : okM f B) (hB : B < 1000000) {a b : Nat} {e z : Nat} (ha : a < 6) (hb : 5 ≤ b ∧ b ≤ 40) : StepOK l [.int 7, .int (nI a), .int (nI b), .int (nI e), .int (nI z)] f B := by
  obtain ⟨⟨⟨D, hD, ho, hv⟩, hJ⟩, hS⟩ := id hM
  obtain ⟨nd, hnd, end1⟩ := ho.2.2.2.2.2.2.2.1 a ha
  refine ⟨upd f (133 + a) (nI b), f (133 + a), call_ok (fun R T m h hT hm => ?_), fun Ψ hΨ => lm_due_strength hΨ ha, ⟨okL.mono ⟨okS_str ⟨D, hD, ho, hv⟩ ha hb.2, okJ_u hJ (by omega)⟩ (by omega), SH_same hS (sS_upd (sS_rf f) (by omega))⟩, fun q => absurd q (by rw [end1]; exact nn100 (by omega))⟩
  have e1 : MC l yX3_strength wsX3_strength rmX3_strength false [.ref 0, .int (nI a), .int (nI b)] (SW f R T m h) (some (.int (f (133 + a)))) (SW (upd f (133 + a) (nI b)) (s_blit (row (s_com f) f) (161 * nxT T) 161 R) (nxT T) (nxM m) h) := by
    unfold SW
    rw [← row_same (sS_upd (sS_rf f) (by omega)) (upd f (133 + a) (nI b))]
    exact x_strength (cvL h) hT hm ha hb
  exact lm_call_strength (lh_strength_0 e1 rfl)
theorem step_set0 (hl : l.stackTraces = false) (hM : okM f B) (hB : B < 1000000) {b : Nat} {e z : Nat} (hb : 0 ≤ b ∧ b ≤ 9) : StepOK l [.int 8, .int (nI 0), .int (nI b), .int (nI e), .int (nI z)] f B := by
  obtain ⟨⟨⟨D, hD, ho, hv⟩, hJ⟩, hS⟩ := id hM
  obtain ⟨nd, hnd, end1⟩ := ho.2.2.1
  refine ⟨upd f 2 (nI b), f 2, call_ok (fun R T m h hT hm => ?_), fun Ψ hΨ => lm_due_set0 hΨ, ⟨okL.mono ⟨okS_set ⟨D, hD, ho, hv⟩ (Or.inl ⟨rfl, hb.2⟩), okJ_u hJ (by omega)⟩ (by omega), SH_same hS (sS_upd (sS_rf f) (by omega))⟩, fun q => absurd q (by rw [end1]; exact nn100 (by omega))⟩
  have e1 : MC l yX3_set wsX3_set rmX3_set false [.ref 0, .int 0, .int (nI b)] (SW f R T m h) (some (.int (f 2))) (SW (upd f 2 (nI b)) (s_blit (row (s_com f) f) (161 * nxT T) 161 R) (nxT T) (nxM m) h) := by
    unfold SW
    rw [← row_same (sS_upd (sS_rf f) (by omega)) (upd f 2 (nI b))]
    exact x_set0 (cvL h) hT hm hb
  exact lm_call_set (lh_set_0 e1 rfl)
theorem step_set1 (hl : l.stackTraces = false) (hM : okM f B) (hB : B < 1000000) {b : Nat} {e z : Nat} (hb : 0 ≤ b ∧ b ≤ 50) : StepOK l [.int 8, .int (nI 1), .int (nI b), .int (nI e), .int (nI z)] f B := by
  obtain ⟨⟨⟨D, hD, ho, hv⟩, hJ⟩, hS⟩ := id hM
  obtain ⟨nd, hnd, end1⟩ := ho.2.2.2.1
  refine ⟨upd f 3 (nI b), f 3, call_ok (fun R T m h hT hm => ?_), fun Ψ hΨ => lm_due_set1 hΨ, ⟨okL.mono ⟨okS_set ⟨D, hD, ho, hv⟩ (Or.inr (Or.inl ⟨rfl, hb.2⟩)), okJ_u hJ (by omega)⟩ (by omega), SH_same hS (sS_upd (sS_rf f) (by omega))⟩, fun q => absurd q (by rw [end1]; exact nn100 (by omega))⟩
  have e1 : MC l yX3_set wsX3_set rmX3_set false [.ref 0, .int 1, .int (nI b)] (SW f R T m h) (some (.int (f 3))) (SW (upd f 3 (nI b)) (s_blit (row (s_com f) f) (161 * nxT T) 161 R) (nxT T) (nxM m) h) := by
    unfold SW
    rw [← row_same (sS_upd (sS_rf f) (by omega)) (upd f 3 (nI b))]
    exact x_set1 (cvL h) hT hm hb
  exact lm_call_set (lh_set_0 e1 rfl)
theorem step_set2 (hl : l.stackTraces = false) (hM : okM f B) (hB : B < 1000000) {b : Nat} {e z : Nat} (hb : 1 ≤ b ∧ b ≤ 30) : StepOK l [.int 8, .int (nI 2), .int (nI b), .int (nI e), .int (nI z)] f B := by
  obtain ⟨⟨⟨D, hD, ho, hv⟩, hJ⟩, hS⟩ := id hM
  obtain ⟨nd, hnd, end1⟩ := ho.2.2.2.2.1
  refine ⟨upd f 4 (nI b), f 4, call_ok (fun R T m h hT hm => ?_), fun Ψ hΨ => lm_due_set2 hΨ, ⟨okL.mono ⟨okS_set ⟨D, hD, ho, hv⟩ (Or.inr (Or.inr ⟨rfl, hb.2⟩)), okJ_u hJ (by omega)⟩ (by omega), SH_same hS (sS_upd (sS_rf f) (by omega))⟩, fun q => absurd q (by rw [end1]; exact nn100 (by omega))⟩
  have e1 : MC l yX3_set wsX3_set rmX3_set false [.ref 0, .int 2, .int (nI b)] (SW f R T m h) (some (.int (f 4))) (SW (upd f 4 (nI b)) (s_blit (row (s_com f) f) (161 * nxT T) 161 R) (nxT T) (nxM m) h) := by
    unfold SW
    rw [← row_same (sS_upd (sS_rf f) (by omega)) (upd f 4 (nI b))]
    exact x_set2 (cvL h) hT hm hb
  exact lm_call_set (lh_set_0 e1 rfl)
theorem step_giveE (hl : l.stackTraces = false) (hM : okM f B) {x : Int32} (hx : -1 ≤ x ∧ x ≤ 4) {b v : Nat} (hb : b < 4) (hv2 : 1 ≤ v ∧ v ≤ 12) : StepOK l [.int 3, .int x, .int x, .int (nI b), .int (nI v)] f B := by
  refine ⟨f, -102, call_thr (by decide) (fun R T m h hT hm => ?_), fun Ψ hΨ => lm_due_give hΨ (lm_gives_eq hΨ hb), ⟨okL.mono hM.1 (by omega), hM.2⟩, fun _ => rfl⟩
  have hv3 : 1 ≤ nI v ∧ nI v ≤ 12 := ⟨(nI_leI (a := 1) (by omega) (by omega)).mpr hv2.1, (nI_leI (b := 12) (by omega) (by omega)).mpr hv2.2⟩
  have e1 : MCX l yX3_give wsX3_give rmT3_give [.ref 0, .int x, .int x, .int (nI b), .int (nI v)] (SW f R T m h) "java/lang/IllegalArgumentException" (SW f R T m h) := x_give_2e hl hx hx hb hv3 rfl
  exact lm_call_givex (lh_give_2 e1 rfl)
theorem step_giveN (hl : l.stackTraces = false) (hM : okM f B) {a b v : Nat} (ha : a < 5) (hb : b < 4) (hv2 : 1 ≤ v ∧ v ≤ 12) : StepOK l [.int 3, .int (-1), .int (nI a), .int (nI b), .int (nI v)] f B := by
  obtain ⟨⟨⟨D, hD, ho, hv⟩, hJ⟩, hS⟩ := id hM
  obtain ⟨s, hs, hle⟩ := hS b hb
  have hcom := SH_com hs hle
  by_cases hq : nI v ≤ s_com f b
  · have hq2 : v ≤ 12 - (s 0 + s 1 + s 2 + s 3 + s 4) := by
      rw [hcom] at hq
      exact (nI_leI (by omega) (by omega)).mp hq
    have hx : f (53 + b + 4 * a) + nI v = nI (s a + v) := by rw [hs a ha, nI_add]
    refine ⟨upd f (53 + b + 4 * a) (f (53 + b + 4 * a) + nI v), (upd f (53 + b + 4 * a) (f (53 + b + 4 * a) + nI v)) (53 + b + 4 * a), call_ok (fun R T m h hT hm => ?_), fun Ψ hΨ => lm_due_give hΨ (lm_gives_N hΨ hb ha hq), ⟨okL.mono ⟨okS_upd ⟨D, hD, ho, hv⟩ (by unfold inA; omega) (by unfold inT; omega), okJ_u hJ (by omega)⟩ (by omega), SH_set hS hb ha hs hx (by omega)⟩, fun q => absurd q (by rw [upd_s, hx]; exact nn100 (by have := s_le (s := s) ha; omega))⟩
    have e1 : MC l yX3_give wsX3_give rmX3_give false [.ref 0, .int (-1), .int (nI a), .int (nI b), .int (nI v)] (SW f R T m h) (some (.int ((upd f (53 + b + 4 * a) (f (53 + b + 4 * a) + nI v)) (53 + b + 4 * a)))) (SW (upd f (53 + b + 4 * a) (f (53 + b + 4 * a) + nI v)) (s_blit (row (s_com f) f) (161 * nxT T) 161 R) (nxT T) (nxM m) h) := by
      unfold SW
      rw [show row (s_com (upd f (53 + b + 4 * a) (f (53 + b + 4 * a) + nI v))) (upd f (53 + b + 4 * a) (f (53 + b + 4 * a) + nI v)) = row (upd (s_com f) b (s_com f b + (-(nI (v))))) (upd f (53 + b + 4 * a) (f (53 + b + 4 * a) + nI v)) from row_q_same (fun z hz => by rw [com_upd (by omega) (by omega) z hz]; simp only [upd]; split <;> first | rfl | rw [i_t2, i_addneg])]
      exact x_giveN (cvL h) hT hm ha hb hv2 hq
    exact lm_call_give (lh_give_0 e1 rfl)
  · skip
    refine ⟨f, -103, call_thr (by decide) (fun R T m h hT hm => ?_), fun Ψ hΨ => lm_due_give hΨ (lm_gives_Nx hΨ hb ha (Int32.not_le.mp hq)), ⟨okL.mono hM.1 (by omega), hS⟩, fun _ => rfl⟩
    have e1 : MCX l yX3_give wsX3_give rmT3_give [.ref 0, .int (-1), .int (nI a), .int (nI b), .int (nI v)] (SW f R T m h) "java/lang/IllegalStateException" (SW f R T m h) := by
      unfold SW
      exact x_give_3N hl (cvL h) ha hb hv2 (Int32.not_le.mp hq)
    exact lm_call_givex (lh_give_3 e1 rfl)
theorem step_giveT (hl : l.stackTraces = false) (hM : okM f B) {c b v : Nat} (hc : c < 5) (hb : b < 4) (hv2 : 1 ≤ v ∧ v ≤ 12) : StepOK l [.int 3, .int (nI c), .int (-1), .int (nI b), .int (nI v)] f B := by
  obtain ⟨⟨⟨D, hD, ho, hv⟩, hJ⟩, hS⟩ := id hM
  obtain ⟨s, hs, hle⟩ := hS b hb
  have hcom := SH_com hs hle
  by_cases hq : nI v ≤ f (53 + b + 4 * c)
  · have hq2 : v ≤ s c := by
      rw [hs c hc] at hq
      exact (nI_leI (by omega) (by have := s_le (s := s) hc; omega)).mp hq
    have hsc := s_le (s := s) hc
    have hx : f (53 + b + 4 * c) - nI v = nI (s c - v) := by rw [hs c hc, pk_sub hq2]
    have ev : s_com (upd f (53 + b + 4 * c) (f (53 + b + 4 * c) - nI v)) b = (upd (s_com f) b (s_com f b + nI v)) b := by rw [com_upd (by omega) (by omega) b (by omega), if_pos rfl, i_t1, upd_s]
    refine ⟨upd f (53 + b + 4 * c) (f (53 + b + 4 * c) - nI v), s_com (upd f (53 + b + 4 * c) (f (53 + b + 4 * c) - nI v)) b, call_ok (fun R T m h hT hm => ?_), fun Ψ hΨ => lm_due_give hΨ (lm_gives_T hΨ hb hc hq), ⟨okL.mono ⟨okS_upd ⟨D, hD, ho, hv⟩ (by unfold inA; omega) (by unfold inT; omega), okJ_u hJ (by omega)⟩ (by omega), SH_set hS hb hc hs hx (by omega)⟩, fun q => absurd q (by rw [ev, upd_s, hcom, nI_add]; exact nn100 (by omega))⟩
    have e1 : MC l yX3_give wsX3_give rmX3_give false [.ref 0, .int (nI c), .int (-1), .int (nI b), .int (nI v)] (SW f R T m h) (some (.int (s_com (upd f (53 + b + 4 * c) (f (53 + b + 4 * c) - nI v)) b))) (SW (upd f (53 + b + 4 * c) (f (53 + b + 4 * c) - nI v)) (s_blit (row (s_com f) f) (161 * nxT T) 161 R) (nxT T) (nxM m) h) := by
      unfold SW
      rw [show row (s_com (upd f (53 + b + 4 * c) (f (53 + b + 4 * c) - nI v))) (upd f (53 + b + 4 * c) (f (53 + b + 4 * c) - nI v)) = row (upd (s_com f) b (s_com f b + nI v)) (upd f (53 + b + 4 * c) (f (53 + b + 4 * c) + (-(nI (v))))) from by rw [i_addneg]; exact row_q_same (fun z hz => by rw [com_upd (by omega) (by omega) z hz]; simp only [upd]; split <;> first | rfl | rw [i_t1])]
      exact (ev ▸ x_giveT (cvL h) hT hm hc hb hv2 hq)
    exact lm_call_give (lh_give_0 e1 rfl)
  · skip
    refine ⟨f, -103, call_thr (by decide) (fun R T m h hT hm => ?_), fun Ψ hΨ => lm_due_give hΨ (lm_gives_Tx hΨ hb hc (Int32.not_le.mp hq)), ⟨okL.mono hM.1 (by omega), hS⟩, fun _ => rfl⟩
    have e1 : MCX l yX3_give wsX3_give rmT3_give [.ref 0, .int (nI c), .int (-1), .int (nI b), .int (nI v)] (SW f R T m h) "java/lang/IllegalStateException" (SW f R T m h) := by
      unfold SW
      exact x_give_3T hl (cvL h) hc hb hv2 (Int32.not_le.mp hq)
    exact lm_call_givex (lh_give_3 e1 rfl)
theorem step_giveG (hl : l.stackTraces = false) (hM : okM f B) {c a b v : Nat} (hc : c < 5) (ha : a < 5) (hca : ¬ c = a) (hb : b < 4) (hv2 : 1 ≤ v ∧ v ≤ 12) : StepOK l [.int 3, .int (nI c), .int (nI a), .int (nI b), .int (nI v)] f B := by
  obtain ⟨⟨⟨D, hD, ho, hv⟩, hJ⟩, hS⟩ := id hM
  obtain ⟨s, hs, hle⟩ := hS b hb
  by_cases hq : nI v ≤ f (53 + b + 4 * c)
  · have hq2 : v ≤ s c := by
      rw [hs c hc] at hq
      exact (nI_leI (by omega) (by have := s_le (s := s) hc; omega)).mp hq
    have hsc := s_le2 (s := s) hc ha hca
    have hx : f (53 + b + 4 * c) - nI v = nI (s c - v) := by rw [hs c hc, pk_sub hq2]
    have hS1 : SH (upd f (53 + b + 4 * c) (f (53 + b + 4 * c) - nI v)) := SH_set hS hb hc hs hx (by omega)
    have hs1 : ∀ i, i < 5 → (upd f (53 + b + 4 * c) (f (53 + b + 4 * c) - nI v)) (53 + b + 4 * i) = nI (if i = c then s c - v else s i) := fun i hi => by
      by_cases ei : i = c
      · subst ei
        rw [upd_s, if_pos rfl]
        exact hx
      · rw [upd_n (by omega), if_neg ei]
        exact hs i hi
    have hx2 : (upd f (53 + b + 4 * c) (f (53 + b + 4 * c) - nI v)) (53 + b + 4 * a) + nI v = nI (s a + v) := by rw [hs1 a ha, if_neg (fun q => hca q.symm), nI_add]
    have hS2 : SH (upd (upd f (53 + b + 4 * c) (f (53 + b + 4 * c) - nI v)) (53 + b + 4 * a) ((upd f (53 + b + 4 * c) (f (53 + b + 4 * c) - nI v)) (53 + b + 4 * a) + nI v)) := by
      refine SH_set hS1 hb ha hs1 hx2 ?_
      have ea : (if a = c then s c - v else s a) = s a := if_neg (fun q => hca q.symm)
      rw [ea]
      have hsum : (if 0 = c then s c - v else s 0) + (if 1 = c then s c - v else s 1) + (if 2 = c then s c - v else s 2) + (if 3 = c then s c - v else s 3) + (if 4 = c then s c - v else s 4) + v ≤ 12 := by
        rcases (show c = 0 ∨ c = 1 ∨ c = 2 ∨ c = 3 ∨ c = 4 by omega) with rfl | rfl | rfl | rfl | rfl <;> simp <;> omega
      generalize (if 0 = c then s c - v else s 0) = p0 at hsum ⊢
      generalize (if 1 = c then s c - v else s 1) = p1 at hsum ⊢
      generalize (if 2 = c then s c - v else s 2) = p2 at hsum ⊢
      generalize (if 3 = c then s c - v else s 3) = p3 at hsum ⊢
      generalize (if 4 = c then s c - v else s 4) = p4 at hsum ⊢
      omega
    refine ⟨upd (upd f (53 + b + 4 * c) (f (53 + b + 4 * c) - nI v)) (53 + b + 4 * a) ((upd f (53 + b + 4 * c) (f (53 + b + 4 * c) - nI v)) (53 + b + 4 * a) + nI v), (upd (upd f (53 + b + 4 * c) (f (53 + b + 4 * c) - nI v)) (53 + b + 4 * a) ((upd f (53 + b + 4 * c) (f (53 + b + 4 * c) - nI v)) (53 + b + 4 * a) + nI v)) (53 + b + 4 * a), call_ok (fun R T m h hT hm => ?_), fun Ψ hΨ => lm_due_give hΨ (lm_gives_G hΨ hb hc ha hca hq), ⟨okL.mono ⟨okS_upd (okS_upd ⟨D, hD, ho, hv⟩ (by unfold inA; omega) (by unfold inT; omega)) (by unfold inA; omega) (by unfold inT; omega), okJ_u (okJ_u hJ (by omega)) (by omega)⟩ (by omega), hS2⟩, fun q => absurd q (by rw [upd_s, hx2]; exact nn100 (by omega))⟩
    have e1 : MC l yX3_give wsX3_give rmX3_give false [.ref 0, .int (nI c), .int (nI a), .int (nI b), .int (nI v)] (SW f R T m h) (some (.int ((upd (upd f (53 + b + 4 * c) (f (53 + b + 4 * c) - nI v)) (53 + b + 4 * a) ((upd f (53 + b + 4 * c) (f (53 + b + 4 * c) - nI v)) (53 + b + 4 * a) + nI v)) (53 + b + 4 * a)))) (SW (upd (upd f (53 + b + 4 * c) (f (53 + b + 4 * c) - nI v)) (53 + b + 4 * a) ((upd f (53 + b + 4 * c) (f (53 + b + 4 * c) - nI v)) (53 + b + 4 * a) + nI v)) (s_blit (row (s_com f) f) (161 * nxT T) 161 R) (nxT T) (nxM m) h) := by
      unfold SW
      rw [show row (s_com (upd (upd f (53 + b + 4 * c) (f (53 + b + 4 * c) - nI v)) (53 + b + 4 * a) ((upd f (53 + b + 4 * c) (f (53 + b + 4 * c) - nI v)) (53 + b + 4 * a) + nI v))) (upd (upd f (53 + b + 4 * c) (f (53 + b + 4 * c) - nI v)) (53 + b + 4 * a) ((upd f (53 + b + 4 * c) (f (53 + b + 4 * c) - nI v)) (53 + b + 4 * a) + nI v)) = row (s_com f) (upd (upd f (53 + b + 4 * c) (f (53 + b + 4 * c) - nI v)) (53 + b + 4 * a) ((upd f (53 + b + 4 * c) (f (53 + b + 4 * c) - nI v)) (53 + b + 4 * a) + nI v)) from row_q_same (comG hc ha (by omega))]
      have e0 := x_giveG (l := l) (cvL h) (q := s_com f) (f := f) (rt := row (s_com s_f0) s_f0) (R := R) (R1 := fun _ => 0) (g := fun _ => 0) (T1 := 0) (m1 := 0) (n := 0) hT hm hc ha hca hb hv2 hq
      rw [i_addneg] at e0
      exact e0
    exact lm_call_give (lh_give_0 e1 rfl)
  · skip
    refine ⟨f, -103, call_thr (by decide) (fun R T m h hT hm => ?_), fun Ψ hΨ => lm_due_give hΨ (lm_gives_Gx hΨ hb hc ha hca (Int32.not_le.mp hq)), ⟨okL.mono hM.1 (by omega), hS⟩, fun _ => rfl⟩
    have e1 : MCX l yX3_give wsX3_give rmT3_give [.ref 0, .int (nI c), .int (nI a), .int (nI b), .int (nI v)] (SW f R T m h) "java/lang/IllegalStateException" (SW f R T m h) := by
      unfold SW
      exact x_give_3G hl (cvL h) hc ha hca hb hv2 (Int32.not_le.mp hq)
    exact lm_call_givex (lh_give_3 e1 rfl)
end SP

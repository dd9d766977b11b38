/-! REFERENCE: texts are read and played -/
def s_fe (t : Nat → Nat) (n : Nat) : Int32 := if s_ep (s_fd t n 0 0) = 1 then -1 else nI (s_rs t n 0 0)
def s_do (t : Nat → Nat) (n i : Nat) (f : mj_S) : Nat × mj_S :=
  if sg t n i = 99 then (if s_why f (s_nm t n (i + 3)) (s_nm t n (i + 5)) = 0 then (1, s_setw f (s_nm t n (i + 1)) (nI (s_nm t n (i + 3))) (nI (s_nm t n (i + 5)))) else (0, f)) else
  if sg t n i = 114 then (1, s_setw f (s_nm t n (i + 1)) (-1) (-1)) else
  if sg t n i = 43 then (1, (s_days (s_nm t n (i + 1)) f).1) else (1, s_turn f)
theorem s_do_le (t : Nat → Nat) (n i : Nat) (f : mj_S) : (s_do t n i f).1 ≤ 1 := by
  unfold s_do; repeat' split
  all_goals simp
def s_pl (t : Nat → Nat) (n : Nat) : Nat → Nat → mj_S → Nat → mj_S × Nat
  | 0, _, f, k => (f, k)
  | d + 1, i, f, k => if s_pb t n i = 1 then (if (s_do t n i f).1 = 1 then s_pl t n d (i + 1) (s_do t n i f).2 (k + 1) else ((s_do t n i f).2, k)) else s_pl t n d (i + 1) f k
theorem s_pl_skip {t : Nat → Nat} {n e : Nat} {f : mj_S} {k : Nat} : ∀ (m i : Nat), (∀ x, i ≤ x → x < i + m → s_pb t n x = 0) → s_pl t n (m + e) i f k = s_pl t n e (i + m) f k
  | 0, i, _ => by rw [Nat.zero_add]; rfl
  | m + 1, i, h => by
    rw [show m + 1 + e = (m + e) + 1 by omega, s_pl, if_neg (by rw [h i (by omega) (by omega)]; omega), s_pl_skip m (i + 1) (fun x h1 h2 => h x (by omega) (by omega)), show i + 1 + m = i + (m + 1) by omega]
theorem s_pb_no {t : Nat → Nat} {n i j : Nat} (h : ∀ k, i ≤ k → k < j → t k ≠ 59) (hj : j ≤ n) : ∀ x, i + 1 ≤ x → x < i + 1 + (j - i) → s_pb t n x = 0 := fun x h1 h2 => by
  rw [s_pb, if_neg]
  intro z
  rcases z with z | z
  · omega
  · rw [sg, if_pos (by omega)] at z
    exact h (x - 1) (by omega) (by omega) z
theorem pb_next {t : Nat → Nat} {n j : Nat} (hj : j < n) (h : t j = 59) : s_pb t n (j + 1) = 1 := by
  rw [s_pb, if_pos (Or.inr (by rw [show j + 1 - 1 = j by omega, sg, if_pos hj]; exact h))]
/-- one part of the text, then the next -/
theorem s_pl_part {t : Nat → Nat} {n i j : Nat} {f : mj_S} {k : Nat} (hb : s_pb t n i = 1) (hij : i < j) (hj : j ≤ n) (h : ∀ k, i ≤ k → k < j → t k ≠ 59) : s_pl t n (n - i) i f k = if (s_do t n i f).1 = 1 then (if j < n then s_pl t n (n - (j + 1)) (j + 1) (s_do t n i f).2 (k + 1) else ((s_do t n i f).2, k + 1)) else ((s_do t n i f).2, k) := by
  rw [show n - i = (n - (i + 1)) + 1 by omega, s_pl, if_pos hb]
  by_cases hd : (s_do t n i f).1 = 1
  · rw [if_pos hd, if_pos hd]
    by_cases hjn : j < n
    · rw [if_pos hjn, show n - (i + 1) = (j - i) + (n - (j + 1)) by omega, s_pl_skip (j - i) (i + 1) (s_pb_no h hj), show i + 1 + (j - i) = j + 1 by omega]
    · rw [if_neg hjn, show n - (i + 1) = (n - (i + 1)) + 0 by omega, s_pl_skip (n - (i + 1)) (i + 1) (fun x h1 h2 => s_pb_no h hj x h1 (by omega))]
      rfl
  · rw [if_neg hd, if_neg hd]
theorem do_ok {t : Nat → Nat} {n i : Nat} {s a b c : Int32} {f : mj_S} {D : Nat} (hP : PC t n i s a b c) (ho : oA f D) (hv : vt f) : ∃ D', D' ≤ D + 60 ∧ oA (s_do t n i f).2 D' ∧ vt (s_do t n i f).2 := by
  rcases hP with ⟨e, -, -, h1, -, h2, -, h3⟩ | ⟨e, -, -, h1⟩ | ⟨e, -, -, h1, h2⟩ | ⟨e, -⟩
  · rw [s_do, if_pos e]
    split
    · exact ⟨D, by omega, oA_setw ho h1 (Or.inr ⟨_, _, h2, h3, rfl, rfl⟩), vt_setw h1 hv⟩
    · exact ⟨D, by omega, ho, hv⟩
  · rw [s_do, if_neg (by omega), if_pos e]
    exact ⟨D, by omega, oA_setw ho h1 (Or.inl ⟨rfl, rfl⟩), vt_setw h1 hv⟩
  · rw [s_do, if_neg (by omega), if_neg (by omega), if_pos e]
    obtain ⟨k1, k2, -⟩ := days_ok ho hv (s_nm t n (i + 1)) (by omega)
    exact ⟨_, by omega, k1, k2⟩
  · rw [s_do, if_neg (by omega), if_neg (by omega), if_neg (by omega)]
    obtain ⟨k1, k2⟩ := turn_ok ho hv
    exact ⟨D, by omega, k1, k2⟩
section RF
variable {l : Launch} {mp p1 p2 p3 p5 p7 : Nat} {Ω : MT}
theorem ml_find (hΩ : MV mp p1 p2 p3 p5 p7 Ω) {th hs : Int32} {f sp sv sn bf : mj_S} {m ln : Nat} {hh : Int64} {t : Nat → Nat} (hX : TX bf ln t) : ∀ (d i : Nat) (sg fi se t3 : Int32), ln + 1 - i ≤ d → DR t ln i 0 → ∃ (i' : Nat) (sg' fi' se' t3' : Int32), GG l cX4_findError MX4_findError false (.inl (some (.int (s_fe t ln)), Ω th f sp sv m sn hs bf ln (i') (sg') (fi') (se') (t3') hh)) 5 [some (.ref mp)] [] (Ω th f sp sv m sn hs bf ln i sg fi se t3 hh) 0 0
  | 0, i, sg, fi, se, t3, hd, H => by have := H.1; omega
  | d + 1, i, sg, fi, se, t3, hd, H => by
    have h60 := hX.1
    have hin := H.1
    rcases part_ok fi se t3 H with ⟨z, B⟩ | ⟨z, j, ej, hij, hjn, -, E, -⟩
    · refine ⟨(r_part t ln i fi se t3).2.1, (r_part t ln i fi se t3).2.2.1, (r_part t ln i fi se t3).2.2.2.1, (r_part t ln i fi se t3).2.2.2.2.1, (r_part t ln i fi se t3).2.2.2.2.2, ?_⟩
      refine G_aload_n dX4_findError_5 rfl ?_
      have := r_part_le t ln i fi se t3
      refine G_callVi dX4_findError_6 kX4_findError_X4_readsPart ⟨rfl, rfl⟩ ⟨Nat.zero_le _, Nat.zero_le _⟩ (m_readsPart hΩ hX (i := i) (by omega)) rfl rfl ((hΩ _ _ _ _ _ _ _ _ _ _ _ _ _ _ _).1) rfl rfl ?_
      refine G_if_eqN (a := (r_part t ln i fi se t3).1) 39 dX4_findError_9 (by decide) (by omega) (fun c9 => ?_) (fun c9 => ?_)
      · refine G_aload_n dX4_findError_39 rfl ?_
        refine G_getf dX4_findError_40 fX4_findError_140 ((hΩ _ _ _ _ _ _ _ _ _ _ _ _ _ _ _).1) (rfl) ?_
        exact G_iret dX4_findError_43 ⟨Nat.zero_le _, Nat.zero_le _⟩ (by rw [s_fe, if_neg (by rw [B.2.2]; omega), B.2.1])
      · exact (show False by omega).elim
    · rcases E.next with ⟨x1, x2, x3⟩ | ⟨x1, x2, D⟩ | ⟨x1, x2, B⟩
      · refine ⟨(r_part t ln i fi se t3).2.1, (r_part t ln i fi se t3).2.2.1, (r_part t ln i fi se t3).2.2.2.1, (r_part t ln i fi se t3).2.2.2.2.1, (r_part t ln i fi se t3).2.2.2.2.2, ?_⟩
        refine G_aload_n dX4_findError_5 rfl ?_
        have := r_part_le t ln i fi se t3
        refine G_callVi dX4_findError_6 kX4_findError_X4_readsPart ⟨rfl, rfl⟩ ⟨Nat.zero_le _, Nat.zero_le _⟩ (m_readsPart hΩ hX (i := i) (by omega)) rfl rfl ((hΩ _ _ _ _ _ _ _ _ _ _ _ _ _ _ _).1) rfl rfl ?_
        refine G_if_eqN (a := (r_part t ln i fi se t3).1) 39 dX4_findError_9 (by decide) (by omega) (fun c9 => ?_) (fun c9 => ?_)
        · exact (show False by omega).elim
        · refine G_aload_n dX4_findError_12 rfl ?_
          refine G_getf dX4_findError_13 fX4_findError_140 ((hΩ _ _ _ _ _ _ _ _ _ _ _ _ _ _ _).1) (rfl) ?_
          refine G_aload_n dX4_findError_16 rfl ?_
          refine G_getf dX4_findError_17 fX4_findError_137 ((hΩ _ _ _ _ _ _ _ _ _ _ _ _ _ _ _).1) (rfl) ?_
          refine G_icmp_neN (a := ((r_part t ln i fi se t3).2.1)) (c := ln) 25 dX4_findError_20 (by decide) (by omega) (fun c20 => ?_) (fun c20 => ?_)
          · exact (show False by omega).elim
          · refine G_iconst (v := (-1)) dX4_findError_23 (by decide) ?_
            exact G_iret dX4_findError_24 ⟨Nat.zero_le _, Nat.zero_le _⟩ (by rw [s_fe, if_pos x3])
      · have etk := tk1 (t := t) (n := ln) (i := (r_part t ln i fi se t3).2.1) (c := 59) (by rw [ej, nx_1 x1]; exact x2)
        obtain ⟨i', sg', fi', se', t3', K⟩ := ml_find hΩ hX d (j + 1) (r_part t ln i fi se t3).2.2.1 (r_part t ln i fi se t3).2.2.2.1 (r_part t ln i fi se t3).2.2.2.2.1 (r_part t ln i fi se t3).2.2.2.2.2 (by omega) D
        refine ⟨i', sg', fi', se', t3', ?_⟩
        refine G_aload_n dX4_findError_5 rfl ?_
        have := r_part_le t ln i fi se t3
        refine G_callVi dX4_findError_6 kX4_findError_X4_readsPart ⟨rfl, rfl⟩ ⟨Nat.zero_le _, Nat.zero_le _⟩ (m_readsPart hΩ hX (i := i) (by omega)) rfl rfl ((hΩ _ _ _ _ _ _ _ _ _ _ _ _ _ _ _).1) rfl rfl ?_
        refine G_if_eqN (a := (r_part t ln i fi se t3).1) 39 dX4_findError_9 (by decide) (by omega) (fun c9 => ?_) (fun c9 => ?_)
        · exact (show False by omega).elim
        · refine G_aload_n dX4_findError_12 rfl ?_
          refine G_getf dX4_findError_13 fX4_findError_140 ((hΩ _ _ _ _ _ _ _ _ _ _ _ _ _ _ _).1) (rfl) ?_
          refine G_aload_n dX4_findError_16 rfl ?_
          refine G_getf dX4_findError_17 fX4_findError_137 ((hΩ _ _ _ _ _ _ _ _ _ _ _ _ _ _ _).1) (rfl) ?_
          refine G_icmp_neN (a := ((r_part t ln i fi se t3).2.1)) (c := ln) 25 dX4_findError_20 (by decide) (by omega) (fun c20 => ?_) (fun c20 => ?_)
          · refine G_aload_n dX4_findError_25 rfl ?_
            refine G_bipush (v := 59) dX4_findError_26 (by decide) ?_
            have := tj_le t ln ((r_part t ln i fi se t3).2.1) 59
            refine G_callVi dX4_findError_28 kX4_findError_X4_takes ⟨rfl, rfl⟩ ⟨Nat.zero_le _, Nat.zero_le _⟩ (m_takes hΩ hX (i := (r_part t ln i fi se t3).2.1) (c := 59) (by omega) (by omega)) rfl rfl ((hΩ _ _ _ _ _ _ _ _ _ _ _ _ _ _ _).1) rfl rfl ?_
            refine G_if_neN (a := (tk t ln ((r_part t ln i fi se t3).2.1) 59)) 5 dX4_findError_31 (by decide) (by omega) (fun c31 => ?_) (fun c31 => ?_)
            · rw [etk.2, ej]
              exact K
            · exact (show False by omega).elim
          · exact (show False by omega).elim
      · have etk := tk0 (t := t) (n := ln) (i := (r_part t ln i fi se t3).2.1) (c := 59) (by rw [ej, nx_1 x1]; exact x2)
        refine ⟨tj t ln (r_part t ln i fi se t3).2.1 59, (r_part t ln i fi se t3).2.2.1, (r_part t ln i fi se t3).2.2.2.1, (r_part t ln i fi se t3).2.2.2.2.1, (r_part t ln i fi se t3).2.2.2.2.2, ?_⟩
        refine G_aload_n dX4_findError_5 rfl ?_
        have := r_part_le t ln i fi se t3
        refine G_callVi dX4_findError_6 kX4_findError_X4_readsPart ⟨rfl, rfl⟩ ⟨Nat.zero_le _, Nat.zero_le _⟩ (m_readsPart hΩ hX (i := i) (by omega)) rfl rfl ((hΩ _ _ _ _ _ _ _ _ _ _ _ _ _ _ _).1) rfl rfl ?_
        refine G_if_eqN (a := (r_part t ln i fi se t3).1) 39 dX4_findError_9 (by decide) (by omega) (fun c9 => ?_) (fun c9 => ?_)
        · exact (show False by omega).elim
        · refine G_aload_n dX4_findError_12 rfl ?_
          refine G_getf dX4_findError_13 fX4_findError_140 ((hΩ _ _ _ _ _ _ _ _ _ _ _ _ _ _ _).1) (rfl) ?_
          refine G_aload_n dX4_findError_16 rfl ?_
          refine G_getf dX4_findError_17 fX4_findError_137 ((hΩ _ _ _ _ _ _ _ _ _ _ _ _ _ _ _).1) (rfl) ?_
          refine G_icmp_neN (a := ((r_part t ln i fi se t3).2.1)) (c := ln) 25 dX4_findError_20 (by decide) (by omega) (fun c20 => ?_) (fun c20 => ?_)
          · refine G_aload_n dX4_findError_25 rfl ?_
            refine G_bipush (v := 59) dX4_findError_26 (by decide) ?_
            have := tj_le t ln ((r_part t ln i fi se t3).2.1) 59
            refine G_callVi dX4_findError_28 kX4_findError_X4_takes ⟨rfl, rfl⟩ ⟨Nat.zero_le _, Nat.zero_le _⟩ (m_takes hΩ hX (i := (r_part t ln i fi se t3).2.1) (c := 59) (by omega) (by omega)) rfl rfl ((hΩ _ _ _ _ _ _ _ _ _ _ _ _ _ _ _).1) rfl rfl ?_
            refine G_if_neN (a := (tk t ln ((r_part t ln i fi se t3).2.1) 59)) 5 dX4_findError_31 (by decide) (by omega) (fun c31 => ?_) (fun c31 => ?_)
            · exact (show False by omega).elim
            · refine G_aload_n dX4_findError_34 rfl ?_
              refine G_getf dX4_findError_35 fX4_findError_140 ((hΩ _ _ _ _ _ _ _ _ _ _ _ _ _ _ _).1) (rfl) ?_
              exact G_iret dX4_findError_38 ⟨Nat.zero_le _, Nat.zero_le _⟩ (by rw [s_fe, if_neg (by rw [B.2.2]; omega), B.2.1, etk.2, ej])
          · exact (show False by omega).elim
theorem m_findError (hΩ : MV mp p1 p2 p3 p5 p7 Ω) {th hs sg fi se t3 : Int32} {f sp sv sn bf : mj_S} {m ln i : Nat} {hh : Int64} {t : Nat → Nat} (hX : TX bf ln t) : ∃ (i' : Nat) (sg' fi' se' t3' : Int32), MC l yX4_findError wsX4_findError rmX4_findError false [.ref mp] (Ω th f sp sv m sn hs bf ln i sg fi se t3 hh) (some (.int (s_fe t ln))) (Ω th f sp sv m sn hs bf ln (i') (sg') (fi') (se') (t3') hh) := by
  obtain ⟨i', sg', fi', se', t3', K⟩ := ml_find hΩ hX (ln + 1) 0 sg fi se t3 (by omega) (DR_0 t ln) (th := th) (hs := hs) (f := f) (sp := sp) (sv := sv) (sn := sn) (m := m) (hh := hh)
  refine ⟨i', sg', fi', se', t3', ?_⟩
  refine mj_MC (cc := cX4_findError) (nl := 1) (ret := (some .int)) (plainFor_of_name (by decide)) rfl (⟨_, rfl, rfl⟩) (Nat.le_of_ble_eq_true rfl) ?_
  show GG l cX4_findError MX4_findError false (.inl ((some (.int (s_fe t ln))), Ω th f sp sv m sn hs bf ln (i') (sg') (fi') (se') (t3') hh)) 0 [some (.ref mp)] [] (Ω th f sp sv m sn hs bf ln i sg fi se t3 hh) 0 0
  refine G_aload_n dX4_findError_0 rfl ?_
  refine G_iconst (v := 0) dX4_findError_1 (by decide) ?_
  refine G_putf dX4_findError_2 pX4_findError_140 ((hΩ _ _ _ _ _ _ _ _ _ _ _ _ _ _ _).1) (fun _ => ⟨rfl, rfl⟩) (by simp [mfs]) ((hΩ _ _ _ _ _ _ _ _ _ _ _ _ _ _ _).2.2.2.2.2.2.1 _ _ _ _ _ _ _ _ _ _) ?_
  exact K
theorem fd_all {t : Nat → Nat} {n : Nat} : ∀ (d i : Nat) (sg fi se t3 : Int32), n + 1 - i ≤ d → DR t n i 0 → (s_ep (s_fd t n 0 0) = 1 → s_rs t n 0 0 = n) ∧ s_rs t n 0 0 ≤ n
  | 0, i, sg, fi, se, t3, hd, H => by have := H.1; omega
  | d + 1, i, sg, fi, se, t3, hd, H => by
    rcases part_ok fi se t3 H with ⟨z, B⟩ | ⟨z, j, ej, hij, hjn, -, E, -⟩
    · exact ⟨fun x => by rw [B.2.2] at x; omega, by rw [B.2.1]; exact B.1⟩
    · rcases E.next with ⟨x1, x2, x3⟩ | ⟨x1, x2, D⟩ | ⟨x1, x2, B⟩
      · exact ⟨fun _ => x2, by omega⟩
      · exact fd_all d (j + 1) sg fi se t3 (by omega) D
      · exact ⟨fun x => by rw [B.2.2] at x; omega, by rw [B.2.1]; exact B.1⟩
theorem fe_1 {t : Nat → Nat} {n : Nat} (h : ¬ s_fe t n = -1) : nI (s_rs t n 0 0) = s_fe t n := by
  by_cases e : s_ep (s_fd t n 0 0) = 1
  · exact absurd (by rw [s_fe, if_pos e]) h
  · rw [s_fe, if_neg e]
theorem fe_0 {t : Nat → Nat} {n : Nat} (hn : n ≤ 60) (h : s_fe t n = -1) : nI (s_rs t n 0 0) = nI n ∧ s_ep (s_fd t n 0 0) = 1 := by
  obtain ⟨h1, h2⟩ := fd_all (t := t) (n := n) (n + 1) 0 0 0 0 0 (by omega) (DR_0 t n)
  by_cases e : s_ep (s_fd t n 0 0) = 1
  · rw [h1 e]; exact ⟨rfl, e⟩
  · rw [s_fe, if_neg e] at h
    exact absurd h (nI_m1 (by omega))
theorem m_firstError (hΩ : MV mp p1 p2 p3 p5 p7 Ω) {th hs sg fi se t3 : Int32} {f sp sv sn bf : mj_S} {m ln i : Nat} {hh : Int64} {t : Nat → Nat} (hX : TX bf ln t) : ∃ (i' : Nat) (sg' fi' se' t3' : Int32), MC l yX4_firstError wsX4_firstError rmX4_firstError false [.ref mp] (Ω th f sp sv m sn hs bf ln i sg fi se t3 hh) (some (.int (nI (s_rs t ln 0 0)))) (Ω 0 f sp sv m sn hs bf ln (i') (sg') (fi') (se') (t3') hh) := by
  obtain ⟨i', sg', fi', se', t3', hE⟩ := m_findError hΩ hX (th := 0) (hs := hs) (f := f) (sp := sp) (sv := sv) (sn := sn) (m := m) (hh := hh) (i := i) (sg := sg) (fi := fi) (se := se) (t3 := t3)
  refine ⟨i', sg', fi', se', t3', ?_⟩
  refine mj_MC (cc := cX4_firstError) (nl := 2) (ret := (some .int)) (plainFor_of_name (by decide)) rfl (⟨_, rfl, rfl⟩) (Nat.le_of_ble_eq_true rfl) ?_
  show GG l cX4_firstError MX4_firstError false (.inl ((some (.int (nI (s_rs t ln 0 0)))), Ω 0 f sp sv m sn hs bf ln (i') (sg') (fi') (se') (t3') hh)) 0 [some (.ref mp), none] [] (Ω th f sp sv m sn hs bf ln i sg fi se t3 hh) 0 0
  refine G_aload_n dX4_firstError_0 rfl ?_
  refine G_iconst (v := 0) dX4_firstError_1 (by decide) ?_
  refine G_putf dX4_firstError_2 pX4_firstError_25 ((hΩ _ _ _ _ _ _ _ _ _ _ _ _ _ _ _).1) (fun _ => ⟨rfl, rfl⟩) (by simp [mfs]) ((hΩ _ _ _ _ _ _ _ _ _ _ _ _ _ _ _).2.2.2.2.2.2.1 _ _ _ _ _ _ _ _ _ _) ?_
  refine G_aload_n dX4_firstError_5 rfl ?_
  refine G_callVi dX4_firstError_6 kX4_firstError_X4_findError ⟨rfl, rfl⟩ ⟨Nat.zero_le _, Nat.zero_le _⟩ (hE) rfl rfl ((hΩ _ _ _ _ _ _ _ _ _ _ _ _ _ _ _).1) rfl rfl ?_
  refine G_istore_n dX4_firstError_9 rfl (L' := [some (.ref mp), some (.int (s_fe t ln))]) rfl ?_
  refine G_iload_n dX4_firstError_10 rfl ?_
  refine G_iconst (v := (-1)) dX4_firstError_11 (by decide) ?_
  refine G_icmp_ne 22 dX4_firstError_12 (by decide) (fun c12 => ?_) (fun c12 => ?_)
  · refine G_iload_n dX4_firstError_22 rfl ?_
    exact G_iret dX4_firstError_23 ⟨Nat.zero_le _, Nat.zero_le _⟩ (X_i (fe_1 c12))
  · refine G_aload_n dX4_firstError_15 rfl ?_
    refine G_getf dX4_firstError_16 fX4_firstError_137 ((hΩ _ _ _ _ _ _ _ _ _ _ _ _ _ _ _).1) (rfl) ?_
    refine G_goto 23 dX4_firstError_19 (by decide) ?_
    exact G_iret dX4_firstError_23 ⟨Nat.zero_le _, Nat.zero_le _⟩ (X_i (fe_0 hX.1 c12).1)
theorem m_append (hΩ : MV mp p1 p2 p3 p5 p7 Ω) {th hs sg fi se t3 : Int32} {f sp sv sn bf : mj_S} {m ln i : Nat} {hh : Int64} {c : Nat} (hc : 33 ≤ c ∧ c ≤ 126) (hl : ln < 60) : MC l yX4_append wsX4_append rmX4_append false [.ref mp, .int (nI (c))] (Ω th f sp sv m sn hs bf ln i sg fi se t3 hh) (some (.int (nI (ln + 1)))) (Ω 0 f sp sv m sn hs (upd bf ln (nI c)) (ln + 1) i sg fi se t3 hh) := by
  refine mj_MC (cc := cX4_append) (nl := 2) (ret := (some .int)) (plainFor_of_name (by decide)) rfl (⟨_, rfl, rfl⟩) (Nat.le_of_ble_eq_true rfl) ?_
  show GG l cX4_append MX4_append false (.inl ((some (.int (nI (ln + 1)))), Ω 0 f sp sv m sn hs (upd bf ln (nI c)) (ln + 1) i sg fi se t3 hh)) 0 [some (.ref mp), some (.int (nI (c)))] [] (Ω th f sp sv m sn hs bf ln i sg fi se t3 hh) 0 0
  refine G_aload_n dX4_append_0 rfl ?_
  refine G_iconst (v := 0) dX4_append_1 (by decide) ?_
  refine G_putf dX4_append_2 pX4_append_25 ((hΩ _ _ _ _ _ _ _ _ _ _ _ _ _ _ _).1) (fun _ => ⟨rfl, rfl⟩) (by simp [mfs]) ((hΩ _ _ _ _ _ _ _ _ _ _ _ _ _ _ _).2.2.2.2.2.2.1 _ _ _ _ _ _ _ _ _ _) ?_
  refine G_iload_n dX4_append_5 rfl ?_
  refine G_bipush (v := 33) dX4_append_6 (by decide) ?_
  refine G_bipush (v := 126) dX4_append_8 (by decide) ?_
  refine G_callSi dX4_append_10 kX4_append_X4_within ⟨rfl, rfl⟩ ⟨Nat.zero_le _, Nat.zero_le _⟩ (c_within1 ⟨(nI_leI (a := 33) (by omega) (by omega)).mpr (by omega), (nI_leI (b := 126) (by omega) (by omega)).mpr (by omega)⟩) rfl rfl rfl ?_
  refine G_if_neN (a := 1) 22 dX4_append_13 (by decide) (by omega) (fun c13 => ?_) (fun c13 => ?_)
  · refine G_aload_n dX4_append_22 rfl ?_
    refine G_getf dX4_append_23 fX4_append_137 ((hΩ _ _ _ _ _ _ _ _ _ _ _ _ _ _ _).1) (rfl) ?_
    refine G_bipush (v := 60) dX4_append_26 (by decide) ?_
    refine G_icmp_neN (a := ln) (c := 60) 37 dX4_append_28 (by decide) (by omega) (fun c28 => ?_) (fun c28 => ?_)
    · refine G_aload_n dX4_append_37 rfl ?_
      refine G_getf dX4_append_38 fX4_append_22 ((hΩ _ _ _ _ _ _ _ _ _ _ _ _ _ _ _).1) (rfl) ?_
      refine G_aload_n dX4_append_41 rfl ?_
      refine G_getf dX4_append_42 fX4_append_137 ((hΩ _ _ _ _ _ _ _ _ _ _ _ _ _ _ _).1) (rfl) ?_
      refine G_iload_n dX4_append_45 rfl ?_
      obtain ⟨f1, ef1⟩ : ∃ z : mj_S, z = upd bf (ln) (nI (c)) := ⟨_, rfl⟩
      refine G_iastN (j := ln) dX4_append_46 ((hΩ _ _ _ _ _ _ _ _ _ _ _ _ _ _ _).2.2.2.2.2.1) (by omega) (((hΩ _ _ _ _ _ _ _ _ _ _ _ _ _ _ _).2.2.2.2.2.2.2.2.2.2.2 _).trans (congrArg (fun z => Ω 0 f sp sv m sn hs z ln i sg fi se t3 hh) ef1.symm)) ?_
      refine G_aload_n dX4_append_47 rfl ?_
      refine G_dup dX4_append_48 rfl ?_
      refine G_getf dX4_append_49 fX4_append_137 ((hΩ _ _ _ _ _ _ _ _ _ _ _ _ _ _ _).1) (rfl) ?_
      refine G_iconst (v := 1) dX4_append_52 (by decide) ?_
      refine G_iaddN (a := ln) (c := 1) (s := ln + 1) dX4_append_53 (by omega) ?_
      refine G_putf dX4_append_54 pX4_append_137 ((hΩ _ _ _ _ _ _ _ _ _ _ _ _ _ _ _).1) (fun _ => ⟨rfl, rfl⟩) (by simp [mfs]) ((hΩ _ _ _ _ _ _ _ _ _ _ _ _ _ _ _).2.2.2.2.2.2.1 _ _ _ _ _ _ _ _ _ _) ?_
      refine G_aload_n dX4_append_57 rfl ?_
      refine G_getf dX4_append_58 fX4_append_137 ((hΩ _ _ _ _ _ _ _ _ _ _ _ _ _ _ _).1) (rfl) ?_
      exact G_iret dX4_append_61 ⟨Nat.zero_le _, Nat.zero_le _⟩ (by subst ef1; rfl)
    · exact (show False by omega).elim
  · exact (show False by omega).elim
theorem m_append_1 (hΩ : MV mp p1 p2 p3 p5 p7 Ω) {th hs sg fi se t3 : Int32} {f sp sv sn bf : mj_S} {m ln i : Nat} {hh : Int64} {x : Int32} (hc : ¬ (33 ≤ x ∧ x ≤ 126)) : MC l yX4_append wsX4_append rmX4_append false [.ref mp, .int x] (Ω th f sp sv m sn hs bf ln i sg fi se t3 hh) (some (.int 0)) (Ω 1 f sp sv m sn hs bf ln i sg fi se t3 hh) := by
  refine mj_MC (cc := cX4_append) (nl := 2) (ret := (some .int)) (plainFor_of_name (by decide)) rfl (⟨_, rfl, rfl⟩) (Nat.le_of_ble_eq_true rfl) ?_
  show GG l cX4_append MX4_append false (.inl ((some (.int 0)), Ω 1 f sp sv m sn hs bf ln i sg fi se t3 hh)) 0 [some (.ref mp), some (.int x)] [] (Ω th f sp sv m sn hs bf ln i sg fi se t3 hh) 0 0
  refine G_aload_n dX4_append_0 rfl ?_
  refine G_iconst (v := 0) dX4_append_1 (by decide) ?_
  refine G_putf dX4_append_2 pX4_append_25 ((hΩ _ _ _ _ _ _ _ _ _ _ _ _ _ _ _).1) (fun _ => ⟨rfl, rfl⟩) (by simp [mfs]) ((hΩ _ _ _ _ _ _ _ _ _ _ _ _ _ _ _).2.2.2.2.2.2.1 _ _ _ _ _ _ _ _ _ _) ?_
  refine G_iload_n dX4_append_5 rfl ?_
  refine G_bipush (v := 33) dX4_append_6 (by decide) ?_
  refine G_bipush (v := 126) dX4_append_8 (by decide) ?_
  refine G_callSi dX4_append_10 kX4_append_X4_within ⟨rfl, rfl⟩ ⟨Nat.zero_le _, Nat.zero_le _⟩ (c_within0 hc) rfl rfl rfl ?_
  refine G_if_neN (a := 0) 22 dX4_append_13 (by decide) (by omega) (fun c13 => ?_) (fun c13 => ?_)
  · exact (show False by omega).elim
  · refine G_aload_n dX4_append_16 rfl ?_
    refine G_iconst (v := 1) dX4_append_17 (by decide) ?_
    refine G_callVi dX4_append_18 kX4_append_X4_fails ⟨rfl, rfl⟩ ⟨Nat.zero_le _, Nat.zero_le _⟩ (m_fails hΩ) rfl rfl ((hΩ _ _ _ _ _ _ _ _ _ _ _ _ _ _ _).1) rfl rfl ?_
    exact G_iret dX4_append_21 ⟨Nat.zero_le _, Nat.zero_le _⟩ (rfl)
theorem m_append_2 (hΩ : MV mp p1 p2 p3 p5 p7 Ω) {th hs sg fi se t3 : Int32} {f sp sv sn bf : mj_S} {m ln i : Nat} {hh : Int64} {c : Nat} (hc : 33 ≤ c ∧ c ≤ 126) (hl : ln = 60) : MC l yX4_append wsX4_append rmX4_append false [.ref mp, .int (nI (c))] (Ω th f sp sv m sn hs bf ln i sg fi se t3 hh) (some (.int 0)) (Ω 2 f sp sv m sn hs bf ln i sg fi se t3 hh) := by
  refine mj_MC (cc := cX4_append) (nl := 2) (ret := (some .int)) (plainFor_of_name (by decide)) rfl (⟨_, rfl, rfl⟩) (Nat.le_of_ble_eq_true rfl) ?_
  show GG l cX4_append MX4_append false (.inl ((some (.int 0)), Ω 2 f sp sv m sn hs bf ln i sg fi se t3 hh)) 0 [some (.ref mp), some (.int (nI (c)))] [] (Ω th f sp sv m sn hs bf ln i sg fi se t3 hh) 0 0
  refine G_aload_n dX4_append_0 rfl ?_
  refine G_iconst (v := 0) dX4_append_1 (by decide) ?_
  refine G_putf dX4_append_2 pX4_append_25 ((hΩ _ _ _ _ _ _ _ _ _ _ _ _ _ _ _).1) (fun _ => ⟨rfl, rfl⟩) (by simp [mfs]) ((hΩ _ _ _ _ _ _ _ _ _ _ _ _ _ _ _).2.2.2.2.2.2.1 _ _ _ _ _ _ _ _ _ _) ?_
  refine G_iload_n dX4_append_5 rfl ?_
  refine G_bipush (v := 33) dX4_append_6 (by decide) ?_
  refine G_bipush (v := 126) dX4_append_8 (by decide) ?_
  refine G_callSi dX4_append_10 kX4_append_X4_within ⟨rfl, rfl⟩ ⟨Nat.zero_le _, Nat.zero_le _⟩ (c_within1 ⟨(nI_leI (a := 33) (by omega) (by omega)).mpr (by omega), (nI_leI (b := 126) (by omega) (by omega)).mpr (by omega)⟩) rfl rfl rfl ?_
  refine G_if_neN (a := 1) 22 dX4_append_13 (by decide) (by omega) (fun c13 => ?_) (fun c13 => ?_)
  · refine G_aload_n dX4_append_22 rfl ?_
    refine G_getf dX4_append_23 fX4_append_137 ((hΩ _ _ _ _ _ _ _ _ _ _ _ _ _ _ _).1) (rfl) ?_
    refine G_bipush (v := 60) dX4_append_26 (by decide) ?_
    refine G_icmp_neN (a := ln) (c := 60) 37 dX4_append_28 (by decide) (by omega) (fun c28 => ?_) (fun c28 => ?_)
    · exact (show False by omega).elim
    · refine G_aload_n dX4_append_31 rfl ?_
      refine G_iconst (v := 2) dX4_append_32 (by decide) ?_
      refine G_callVi dX4_append_33 kX4_append_X4_fails ⟨rfl, rfl⟩ ⟨Nat.zero_le _, Nat.zero_le _⟩ (m_fails hΩ) rfl rfl ((hΩ _ _ _ _ _ _ _ _ _ _ _ _ _ _ _).1) rfl rfl ?_
      exact G_iret dX4_append_36 ⟨Nat.zero_le _, Nat.zero_le _⟩ (rfl)
  · exact (show False by omega).elim
theorem m_clearBuffer (hΩ : MV mp p1 p2 p3 p5 p7 Ω) {th hs sg fi se t3 : Int32} {f sp sv sn bf : mj_S} {m ln i : Nat} {hh : Int64} : MC l yX4_clearBuffer wsX4_clearBuffer rmX4_clearBuffer false [.ref mp] (Ω th f sp sv m sn hs bf ln i sg fi se t3 hh) (some (.int (nI ln))) (Ω 0 f sp sv m sn hs bf 0 i sg fi se t3 hh) := by
  refine mj_MC (cc := cX4_clearBuffer) (nl := 2) (ret := (some .int)) (plainFor_of_name (by decide)) rfl (⟨_, rfl, rfl⟩) (Nat.le_of_ble_eq_true rfl) ?_
  show GG l cX4_clearBuffer MX4_clearBuffer false (.inl ((some (.int (nI ln))), Ω 0 f sp sv m sn hs bf 0 i sg fi se t3 hh)) 0 [some (.ref mp), none] [] (Ω th f sp sv m sn hs bf ln i sg fi se t3 hh) 0 0
  refine G_aload_n dX4_clearBuffer_0 rfl ?_
  refine G_iconst (v := 0) dX4_clearBuffer_1 (by decide) ?_
  refine G_putf dX4_clearBuffer_2 pX4_clearBuffer_25 ((hΩ _ _ _ _ _ _ _ _ _ _ _ _ _ _ _).1) (fun _ => ⟨rfl, rfl⟩) (by simp [mfs]) ((hΩ _ _ _ _ _ _ _ _ _ _ _ _ _ _ _).2.2.2.2.2.2.1 _ _ _ _ _ _ _ _ _ _) ?_
  refine G_aload_n dX4_clearBuffer_5 rfl ?_
  refine G_getf dX4_clearBuffer_6 fX4_clearBuffer_137 ((hΩ _ _ _ _ _ _ _ _ _ _ _ _ _ _ _).1) (rfl) ?_
  refine G_istore_n dX4_clearBuffer_9 rfl (L' := [some (.ref mp), some (.int (nI (ln)))]) rfl ?_
  refine G_aload_n dX4_clearBuffer_10 rfl ?_
  refine G_iconst (v := 0) dX4_clearBuffer_11 (by decide) ?_
  refine G_putf dX4_clearBuffer_12 pX4_clearBuffer_137 ((hΩ _ _ _ _ _ _ _ _ _ _ _ _ _ _ _).1) (fun _ => ⟨rfl, rfl⟩) (by simp [mfs]) ((hΩ _ _ _ _ _ _ _ _ _ _ _ _ _ _ _).2.2.2.2.2.2.1 _ _ _ _ _ _ _ _ _ _) ?_
  refine G_iload_n dX4_clearBuffer_15 rfl ?_
  exact G_iret dX4_clearBuffer_16 ⟨Nat.zero_le _, Nat.zero_le _⟩ (rfl)
theorem m_does99 (hΩ : MV mp p1 p2 p3 p5 p7 Ω) {th hs sg fi se t3 : Int32} {f sp sv sn bf : mj_S} {m ln i : Nat} {hh : Int64} {D : Nat} (ho : oA f D) (hv : vt f)  (hD : D < 2147479000) {x y z : Nat} (hx : x < 6) (hy : y < 5) (hz : z < 4) (hr : s_why f y z = 0) : MC l yX4_doesPart wsX4_doesPart rmX4_doesPart false [.ref mp] (Ω th f sp sv m sn hs bf ln i 99 (nI (x)) (nI (y)) (nI (z)) hh) (some (.int 1)) (Ω th (s_setw f x (nI y) (nI z)) sp sv m sn hs bf ln i 99 (nI (x)) (nI (y)) (nI (z)) hh) := by
  refine mj_MC (cc := cX4_doesPart) (nl := 1) (ret := (some .boolean)) (plainFor_of_name (by decide)) rfl (⟨_, rfl, rfl⟩) (Nat.le_of_ble_eq_true rfl) ?_
  show GG l cX4_doesPart MX4_doesPart false (.inl ((some (.int 1)), Ω th (s_setw f x (nI y) (nI z)) sp sv m sn hs bf ln i 99 (nI (x)) (nI (y)) (nI (z)) hh)) 0 [some (.ref mp)] [] (Ω th f sp sv m sn hs bf ln i 99 (nI (x)) (nI (y)) (nI (z)) hh) 0 0
  refine G_aload_n dX4_doesPart_0 rfl ?_
  refine G_getf dX4_doesPart_1 fX4_doesPart_161 ((hΩ _ _ _ _ _ _ _ _ _ _ _ _ _ _ _).1) (rfl) ?_
  refine G_look (off := 36) 40 dX4_doesPart_4 (by decide) (by decide) (by decide) ?_
  refine G_aload_n dX4_doesPart_40 rfl ?_
  refine G_aload_n dX4_doesPart_41 rfl ?_
  refine G_getf dX4_doesPart_42 fX4_doesPart_155 ((hΩ _ _ _ _ _ _ _ _ _ _ _ _ _ _ _).1) (rfl) ?_
  refine G_aload_n dX4_doesPart_45 rfl ?_
  refine G_getf dX4_doesPart_46 fX4_doesPart_158 ((hΩ _ _ _ _ _ _ _ _ _ _ _ _ _ _ _).1) (rfl) ?_
  refine G_callVi dX4_doesPart_49 kX4_doesPart_X4_reason ⟨rfl, rfl⟩ ⟨Nat.zero_le _, Nat.zero_le _⟩ (m_reason (hΩ.fv th sp sv m sn hs bf ln i 99 (nI (x)) (nI (y)) (nI (z)) hh) (h := y) (b := z) (by omega) (by omega)) rfl rfl ((hΩ _ _ _ _ _ _ _ _ _ _ _ _ _ _ _).1) rfl rfl ?_
  refine G_if_eq 57 dX4_doesPart_52 (by decide) (fun c52 => ?_) (fun c52 => ?_)
  · refine G_aload_n dX4_doesPart_57 rfl ?_
    refine G_aload_n dX4_doesPart_58 rfl ?_
    refine G_getf dX4_doesPart_59 fX4_doesPart_149 ((hΩ _ _ _ _ _ _ _ _ _ _ _ _ _ _ _).1) (rfl) ?_
    refine G_aload_n dX4_doesPart_62 rfl ?_
    refine G_getf dX4_doesPart_63 fX4_doesPart_155 ((hΩ _ _ _ _ _ _ _ _ _ _ _ _ _ _ _).1) (rfl) ?_
    refine G_aload_n dX4_doesPart_66 rfl ?_
    refine G_getf dX4_doesPart_67 fX4_doesPart_158 ((hΩ _ _ _ _ _ _ _ _ _ _ _ _ _ _ _).1) (rfl) ?_
    refine G_callVv dX4_doesPart_70 kX4_doesPart_X4_setToWork ⟨rfl, rfl⟩ ⟨Nat.zero_le _, Nat.zero_le _⟩ (m_setToWork (hΩ.fv th sp sv m sn hs bf ln i 99 (nI (x)) (nI (y)) (nI (z)) hh) (c := x) (by omega)) rfl rfl ((hΩ _ _ _ _ _ _ _ _ _ _ _ _ _ _ _).1) rfl rfl ?_
    refine G_iconst (v := 1) dX4_doesPart_73 (by decide) ?_
    exact G_iret dX4_doesPart_74 ⟨Nat.zero_le _, Nat.zero_le _⟩ (rfl)
  · exact absurd hr c52
theorem m_does99n (hΩ : MV mp p1 p2 p3 p5 p7 Ω) {th hs sg fi se t3 : Int32} {f sp sv sn bf : mj_S} {m ln i : Nat} {hh : Int64} {D : Nat} (ho : oA f D) (hv : vt f)  (hD : D < 2147479000) {x y z : Nat} (hx : x < 6) (hy : y < 5) (hz : z < 4) (hr : ¬ s_why f y z = 0) : MC l yX4_doesPart wsX4_doesPart rmX4_doesPart false [.ref mp] (Ω th f sp sv m sn hs bf ln i 99 (nI (x)) (nI (y)) (nI (z)) hh) (some (.int 0)) (Ω th f sp sv m sn hs bf ln i 99 (nI (x)) (nI (y)) (nI (z)) hh) := by
  refine mj_MC (cc := cX4_doesPart) (nl := 1) (ret := (some .boolean)) (plainFor_of_name (by decide)) rfl (⟨_, rfl, rfl⟩) (Nat.le_of_ble_eq_true rfl) ?_
  show GG l cX4_doesPart MX4_doesPart false (.inl ((some (.int 0)), Ω th f sp sv m sn hs bf ln i 99 (nI (x)) (nI (y)) (nI (z)) hh)) 0 [some (.ref mp)] [] (Ω th f sp sv m sn hs bf ln i 99 (nI (x)) (nI (y)) (nI (z)) hh) 0 0
  refine G_aload_n dX4_doesPart_0 rfl ?_
  refine G_getf dX4_doesPart_1 fX4_doesPart_161 ((hΩ _ _ _ _ _ _ _ _ _ _ _ _ _ _ _).1) (rfl) ?_
  refine G_look (off := 36) 40 dX4_doesPart_4 (by decide) (by decide) (by decide) ?_
  refine G_aload_n dX4_doesPart_40 rfl ?_
  refine G_aload_n dX4_doesPart_41 rfl ?_
  refine G_getf dX4_doesPart_42 fX4_doesPart_155 ((hΩ _ _ _ _ _ _ _ _ _ _ _ _ _ _ _).1) (rfl) ?_
  refine G_aload_n dX4_doesPart_45 rfl ?_
  refine G_getf dX4_doesPart_46 fX4_doesPart_158 ((hΩ _ _ _ _ _ _ _ _ _ _ _ _ _ _ _).1) (rfl) ?_
  refine G_callVi dX4_doesPart_49 kX4_doesPart_X4_reason ⟨rfl, rfl⟩ ⟨Nat.zero_le _, Nat.zero_le _⟩ (m_reason (hΩ.fv th sp sv m sn hs bf ln i 99 (nI (x)) (nI (y)) (nI (z)) hh) (h := y) (b := z) (by omega) (by omega)) rfl rfl ((hΩ _ _ _ _ _ _ _ _ _ _ _ _ _ _ _).1) rfl rfl ?_
  refine G_if_eq 57 dX4_doesPart_52 (by decide) (fun c52 => ?_) (fun c52 => ?_)
  · exact absurd c52 hr
  · refine G_iconst (v := 0) dX4_doesPart_55 (by decide) ?_
    exact G_iret dX4_doesPart_56 ⟨Nat.zero_le _, Nat.zero_le _⟩ (rfl)
theorem m_does114 (hΩ : MV mp p1 p2 p3 p5 p7 Ω) {th hs sg fi se t3 : Int32} {f sp sv sn bf : mj_S} {m ln i : Nat} {hh : Int64} {D : Nat} (ho : oA f D) (hv : vt f)  (hD : D < 2147479000) {x : Nat} (hx : x < 6) : MC l yX4_doesPart wsX4_doesPart rmX4_doesPart false [.ref mp] (Ω th f sp sv m sn hs bf ln i 114 (nI (x)) se t3 hh) (some (.int 1)) (Ω th (s_setw f x (-1) (-1)) sp sv m sn hs bf ln i 114 (nI (x)) se t3 hh) := by
  refine mj_MC (cc := cX4_doesPart) (nl := 1) (ret := (some .boolean)) (plainFor_of_name (by decide)) rfl (⟨_, rfl, rfl⟩) (Nat.le_of_ble_eq_true rfl) ?_
  show GG l cX4_doesPart MX4_doesPart false (.inl ((some (.int 1)), Ω th (s_setw f x (-1) (-1)) sp sv m sn hs bf ln i 114 (nI (x)) se t3 hh)) 0 [some (.ref mp)] [] (Ω th f sp sv m sn hs bf ln i 114 (nI (x)) se t3 hh) 0 0
  refine G_aload_n dX4_doesPart_0 rfl ?_
  refine G_getf dX4_doesPart_1 fX4_doesPart_161 ((hΩ _ _ _ _ _ _ _ _ _ _ _ _ _ _ _).1) (rfl) ?_
  refine G_look (off := 71) 75 dX4_doesPart_4 (by decide) (by decide) (by decide) ?_
  refine G_aload_n dX4_doesPart_75 rfl ?_
  refine G_aload_n dX4_doesPart_76 rfl ?_
  refine G_getf dX4_doesPart_77 fX4_doesPart_149 ((hΩ _ _ _ _ _ _ _ _ _ _ _ _ _ _ _).1) (rfl) ?_
  refine G_iconst (v := (-1)) dX4_doesPart_80 (by decide) ?_
  refine G_iconst (v := (-1)) dX4_doesPart_81 (by decide) ?_
  refine G_callVv dX4_doesPart_82 kX4_doesPart_X4_setToWork ⟨rfl, rfl⟩ ⟨Nat.zero_le _, Nat.zero_le _⟩ (m_setToWork (hΩ.fv th sp sv m sn hs bf ln i 114 (nI (x)) se t3 hh) (c := x) (by omega)) rfl rfl ((hΩ _ _ _ _ _ _ _ _ _ _ _ _ _ _ _).1) rfl rfl ?_
  refine G_iconst (v := 1) dX4_doesPart_85 (by decide) ?_
  exact G_iret dX4_doesPart_86 ⟨Nat.zero_le _, Nat.zero_le _⟩ (rfl)
theorem m_does43 (hΩ : MV mp p1 p2 p3 p5 p7 Ω) {th hs sg fi se t3 : Int32} {f sp sv sn bf : mj_S} {m ln i : Nat} {hh : Int64} {D : Nat} (ho : oA f D) (hv : vt f)  (hD : D < 2147479000) {x : Nat} (hx : x ≤ 60) : MC l yX4_doesPart wsX4_doesPart rmX4_doesPart false [.ref mp] (Ω th f sp sv m sn hs bf ln i 43 (nI (x)) se t3 hh) (some (.int 1)) (Ω th ((s_days x f).1) sp sv m sn hs bf ln i 43 (nI (x)) se t3 hh) := by
  refine mj_MC (cc := cX4_doesPart) (nl := 1) (ret := (some .boolean)) (plainFor_of_name (by decide)) rfl (⟨_, rfl, rfl⟩) (Nat.le_of_ble_eq_true rfl) ?_
  show GG l cX4_doesPart MX4_doesPart false (.inl ((some (.int 1)), Ω th ((s_days x f).1) sp sv m sn hs bf ln i 43 (nI (x)) se t3 hh)) 0 [some (.ref mp)] [] (Ω th f sp sv m sn hs bf ln i 43 (nI (x)) se t3 hh) 0 0
  obtain ⟨-, -, kq, hkq, ek⟩ := days_ok ho hv x (by omega)
  refine G_aload_n dX4_doesPart_0 rfl ?_
  refine G_getf dX4_doesPart_1 fX4_doesPart_161 ((hΩ _ _ _ _ _ _ _ _ _ _ _ _ _ _ _).1) (rfl) ?_
  refine G_look (off := 83) 87 dX4_doesPart_4 (by decide) (by decide) (by decide) ?_
  refine G_aload_n dX4_doesPart_87 rfl ?_
  refine G_aload_n dX4_doesPart_88 rfl ?_
  refine G_getf dX4_doesPart_89 fX4_doesPart_149 ((hΩ _ _ _ _ _ _ _ _ _ _ _ _ _ _ _).1) (rfl) ?_
  refine G_callVi dX4_doesPart_92 kX4_doesPart_X4_passes ⟨rfl, rfl⟩ ⟨Nat.zero_le _, Nat.zero_le _⟩ (m_passes (hΩ.fv th sp sv m sn hs bf ln i 43 (nI (x)) se t3 hh) (n := x) ho hv (by omega)) rfl rfl ((hΩ _ _ _ _ _ _ _ _ _ _ _ _ _ _ _).1) rfl rfl ?_
  refine G_eqi ek ?_
  refine G_if_ltN (a := kq) 102 dX4_doesPart_95 (by decide) (by omega) ?_
  refine G_iconst (v := 1) dX4_doesPart_98 (by decide) ?_
  refine G_goto 103 dX4_doesPart_99 (by decide) ?_
  exact G_iret dX4_doesPart_103 ⟨Nat.zero_le _, Nat.zero_le _⟩ (rfl)
theorem m_does42 (hΩ : MV mp p1 p2 p3 p5 p7 Ω) {th hs sg fi se t3 : Int32} {f sp sv sn bf : mj_S} {m ln i : Nat} {hh : Int64} {D : Nat} (ho : oA f D) (hv : vt f)  (hD : D < 2147479000)  : MC l yX4_doesPart wsX4_doesPart rmX4_doesPart false [.ref mp] (Ω th f sp sv m sn hs bf ln i 42 fi se t3 hh) (some (.int 1)) (Ω th (s_turn f) sp sv m sn hs bf ln i 42 fi se t3 hh) := by
  refine mj_MC (cc := cX4_doesPart) (nl := 1) (ret := (some .boolean)) (plainFor_of_name (by decide)) rfl (⟨_, rfl, rfl⟩) (Nat.le_of_ble_eq_true rfl) ?_
  show GG l cX4_doesPart MX4_doesPart false (.inl ((some (.int 1)), Ω th (s_turn f) sp sv m sn hs bf ln i 42 fi se t3 hh)) 0 [some (.ref mp)] [] (Ω th f sp sv m sn hs bf ln i 42 fi se t3 hh) 0 0
  obtain ⟨kq, hkq, ek⟩ : ∃ kq : Nat, kq ≤ 1 ∧ (1 : Int32) - f 1 = nI kq := by
    rcases ho.2.1 with e | e
    · exact ⟨1, by omega, by rw [e]; rfl⟩
    · exact ⟨0, by omega, by rw [e]; rfl⟩
  refine G_aload_n dX4_doesPart_0 rfl ?_
  refine G_getf dX4_doesPart_1 fX4_doesPart_161 ((hΩ _ _ _ _ _ _ _ _ _ _ _ _ _ _ _).1) (rfl) ?_
  refine G_look (off := 100) 104 dX4_doesPart_4 (by decide) (by decide) (by decide) ?_
  refine G_aload_n dX4_doesPart_104 rfl ?_
  refine G_callVi dX4_doesPart_105 kX4_doesPart_X4_turnSnow ⟨rfl, rfl⟩ ⟨Nat.zero_le _, Nat.zero_le _⟩ (m_turnSnow (hΩ.fv th sp sv m sn hs bf ln i 42 fi se t3 hh)) rfl rfl ((hΩ _ _ _ _ _ _ _ _ _ _ _ _ _ _ _).1) rfl rfl ?_
  refine G_eqi ek ?_
  refine G_if_ltN (a := kq) 115 dX4_doesPart_108 (by decide) (by omega) ?_
  refine G_iconst (v := 1) dX4_doesPart_111 (by decide) ?_
  refine G_goto 116 dX4_doesPart_112 (by decide) ?_
  exact G_iret dX4_doesPart_116 ⟨Nat.zero_le _, Nat.zero_le _⟩ (rfl)
theorem m_doesPart (hΩ : MV mp p1 p2 p3 p5 p7 Ω) {th hs sg fi se t3 : Int32} {f sp sv sn bf : mj_S} {m ln i : Nat} {hh : Int64} {D : Nat} (ho : oA f D) (hv : vt f)  (hD : D < 2147479000) {t : Nat → Nat} {i0 : Nat} (hP : PC t ln i0 sg fi se t3) : MC l yX4_doesPart wsX4_doesPart rmX4_doesPart false [.ref mp] (Ω th f sp sv m sn hs bf ln i sg fi se t3 hh) (some (.int (nI (s_do t ln i0 f).1))) (Ω th ((s_do t ln i0 f).2) sp sv m sn hs bf ln i sg fi se t3 hh) := by
  rcases hP with ⟨e, rfl, rfl, h1, rfl, h2, rfl, h3⟩ | ⟨e, rfl, rfl, h1⟩ | ⟨e, rfl, rfl, h1, h2⟩ | ⟨e, rfl⟩
  · by_cases hr : s_why f (s_nm t ln (i0 + 3)) (s_nm t ln (i0 + 5)) = 0
    · rw [s_do, if_pos e, if_pos hr]
      exact m_does99 hΩ ho hv hD h1 h2 h3 hr (sg := 0) (fi := 0) (se := 0) (t3 := 0)
    · rw [s_do, if_pos e, if_neg hr]
      exact m_does99n hΩ ho hv hD h1 h2 h3 hr (sg := 0) (fi := 0) (se := 0) (t3 := 0)
  · rw [s_do, if_neg (by omega), if_pos e]
    exact m_does114 hΩ ho hv hD h1 (sg := 0) (fi := 0)
  · rw [s_do, if_neg (by omega), if_neg (by omega), if_pos e]
    exact m_does43 hΩ ho hv hD h2 (sg := 0) (fi := 0)
  · rw [s_do, if_neg (by omega), if_neg (by omega), if_neg (by omega)]
    exact m_does42 hΩ ho hv hD (sg := 0)
theorem ml_play (hΩ : MV mp p1 p2 p3 p5 p7 Ω) {th hs : Int32} {sp sv sn bf : mj_S} {m ln : Nat} {hh : Int64} {t : Nat → Nat} (hX : TX bf ln t) (hc : s_ep (s_fd t ln 0 0) = 1) : ∀ (d i D k : Nat) (f : mj_S) (sg fi se t3 : Int32), ln + 1 - i ≤ d → DR t ln i 0 → s_pb t ln i = 1 → oA f D → vt f → D + 60 * d < 2147470000 → ∃ (i' : Nat) (sg' fi' se' t3' : Int32), GG l cX4_play MX4_play false (.inl (some (.int (nI (s_pl t ln (ln - i) i f k).2)), Ω th ((s_pl t ln (ln - i) i f k).1) sp sv m sn hs bf 0 (i') (sg') (fi') (se') (t3') hh)) 32 [some (.ref mp), some (.int (nI (k))), some (.int 1)] [] (Ω th f sp sv m sn hs bf ln i sg fi se t3 hh) 0 0
  | 0, i, D, k, f, sg, fi, se, t3, hd, H, hb, ho, hv, hD => by have := H.1; omega
  | d + 1, i, D, k, f, sg, fi, se, t3, hd, H, hb, ho, hv, hD => by
    have h60 := hX.1
    have hin := H.1
    rcases part_ok fi se t3 H with ⟨z, B⟩ | ⟨z, j, ej, hij, hjn, hno, E, hPC⟩
    · exact absurd hc (by rw [B.2.2]; omega)
    have hz : j < ln → t j = 59 := fun h => by
      rcases E.next with ⟨x1, -, -⟩ | ⟨x1, x2, -⟩ | ⟨x1, x2, B⟩
      · omega
      · exact x2
      · exact absurd hc (by rw [B.2.2]; omega)
    have hP := hPC hz
    have es := s_pl_part (f := f) (k := k) hb hij hjn hno
    have hle := s_do_le t ln i f
    by_cases hg : (s_do t ln i f).1 = 1
    · rw [if_pos hg] at es
      by_cases hj : j < ln
      · rw [if_pos hj] at es
        obtain ⟨D', q1, q2, q3⟩ := do_ok hP ho hv
        have H2 : DR t ln (j + 1) 0 := by
          rcases E.next with ⟨x1, -, -⟩ | ⟨-, -, x⟩ | ⟨-, x2, -⟩
          · omega
          · exact x
          · exact absurd (hz hj) x2
        have hb2 : s_pb t ln (j + 1) = 1 := pb_next hj (hz hj)
        obtain ⟨i', sg', fi', se', t3', K⟩ := ml_play hΩ hX hc d (j + 1) D' (k + 1) (s_do t ln i f).2 (r_part t ln i fi se t3).2.2.1 (r_part t ln i fi se t3).2.2.2.1 (r_part t ln i fi se t3).2.2.2.2.1 (r_part t ln i fi se t3).2.2.2.2.2 (by omega) H2 hb2 q2 q3 (by omega)
        refine ⟨i', sg', fi', se', t3', ?_⟩
        rw [es]
        refine G_iload_n dX4_play_32 rfl ?_
        refine G_if_eqN (a := 1) 92 dX4_play_33 (by decide) (by omega) (fun c33 => ?_) (fun c33 => ?_)
        · exact (show False by omega).elim
        · refine G_aload_n dX4_play_36 rfl ?_
          refine G_getf dX4_play_37 fX4_play_140 ((hΩ _ _ _ _ _ _ _ _ _ _ _ _ _ _ _).1) (rfl) ?_
          refine G_aload_n dX4_play_40 rfl ?_
          refine G_getf dX4_play_41 fX4_play_137 ((hΩ _ _ _ _ _ _ _ _ _ _ _ _ _ _ _).1) (rfl) ?_
          refine G_icmp_geN (a := i) (c := ln) 92 dX4_play_44 (by decide) (by omega) (fun c44 => ?_) (fun c44 => ?_)
          · exact (show False by omega).elim
          · refine G_aload_n dX4_play_47 rfl ?_
            have := r_part_le t ln i fi se t3
            refine G_callVi dX4_play_48 kX4_play_X4_readsPart ⟨rfl, rfl⟩ ⟨Nat.zero_le _, Nat.zero_le _⟩ (m_readsPart hΩ hX (i := i) (by omega)) rfl rfl ((hΩ _ _ _ _ _ _ _ _ _ _ _ _ _ _ _).1) rfl rfl ?_
            refine G_if_eqN (a := (r_part t ln i fi se t3).1) 65 dX4_play_51 (by decide) (by omega) (fun c51 => ?_) (fun c51 => ?_)
            · exact (show False by omega).elim
            · refine G_aload_n dX4_play_54 rfl ?_
              refine G_callVi dX4_play_55 kX4_play_X4_doesPart ⟨rfl, rfl⟩ ⟨Nat.zero_le _, Nat.zero_le _⟩ (m_doesPart hΩ ho hv (by omega) hP) rfl rfl ((hΩ _ _ _ _ _ _ _ _ _ _ _ _ _ _ _).1) rfl rfl ?_
              refine G_if_eqN (a := (s_do t ln i f).1) 65 dX4_play_58 (by decide) (by omega) (fun c58 => ?_) (fun c58 => ?_)
              · exact (show False by omega).elim
              · refine G_iconst (v := 1) dX4_play_61 (by decide) ?_
                refine G_goto 66 dX4_play_62 (by decide) ?_
                refine G_istore_n dX4_play_66 rfl (L' := [some (.ref mp), some (.int (nI (k))), some (.int 1)]) rfl ?_
                refine G_iload_n dX4_play_67 rfl ?_
                refine G_iload_n dX4_play_68 rfl ?_
                refine G_if_eqN (a := 1) 76 dX4_play_69 (by decide) (by omega) (fun c69 => ?_) (fun c69 => ?_)
                · exact (show False by omega).elim
                · refine G_iconst (v := 1) dX4_play_72 (by decide) ?_
                  refine G_goto 77 dX4_play_73 (by decide) ?_
                  refine G_iaddN (a := k) (c := 1) (s := k + 1) dX4_play_77 (by omega) ?_
                  refine G_istore_n dX4_play_78 rfl (L' := [some (.ref mp), some (.int (nI (k + 1))), some (.int 1)]) rfl ?_
                  refine G_aload_n dX4_play_79 rfl ?_
                  refine G_dup dX4_play_80 rfl ?_
                  refine G_getf dX4_play_81 fX4_play_140 ((hΩ _ _ _ _ _ _ _ _ _ _ _ _ _ _ _).1) (rfl) ?_
                  refine G_iconst (v := 1) dX4_play_84 (by decide) ?_
                  refine G_iaddN (a := ((r_part t ln i fi se t3).2.1)) (c := 1) (s := ((r_part t ln i fi se t3).2.1) + 1) dX4_play_85 (by omega) ?_
                  refine G_putf dX4_play_86 pX4_play_140 ((hΩ _ _ _ _ _ _ _ _ _ _ _ _ _ _ _).1) (fun _ => ⟨rfl, rfl⟩) (by simp [mfs]) ((hΩ _ _ _ _ _ _ _ _ _ _ _ _ _ _ _).2.2.2.2.2.2.1 _ _ _ _ _ _ _ _ _ _) ?_
                  refine G_goto 32 dX4_play_89 (by decide) ?_
                  rw [ej]
                  exact K
      · rw [if_neg hj] at es
        refine ⟨(r_part t ln i fi se t3).2.1 + 1, (r_part t ln i fi se t3).2.2.1, (r_part t ln i fi se t3).2.2.2.1, (r_part t ln i fi se t3).2.2.2.2.1, (r_part t ln i fi se t3).2.2.2.2.2, ?_⟩
        rw [es]
        refine G_iload_n dX4_play_32 rfl ?_
        refine G_if_eqN (a := 1) 92 dX4_play_33 (by decide) (by omega) (fun c33 => ?_) (fun c33 => ?_)
        · exact (show False by omega).elim
        · refine G_aload_n dX4_play_36 rfl ?_
          refine G_getf dX4_play_37 fX4_play_140 ((hΩ _ _ _ _ _ _ _ _ _ _ _ _ _ _ _).1) (rfl) ?_
          refine G_aload_n dX4_play_40 rfl ?_
          refine G_getf dX4_play_41 fX4_play_137 ((hΩ _ _ _ _ _ _ _ _ _ _ _ _ _ _ _).1) (rfl) ?_
          refine G_icmp_geN (a := i) (c := ln) 92 dX4_play_44 (by decide) (by omega) (fun c44 => ?_) (fun c44 => ?_)
          · exact (show False by omega).elim
          · refine G_aload_n dX4_play_47 rfl ?_
            have := r_part_le t ln i fi se t3
            refine G_callVi dX4_play_48 kX4_play_X4_readsPart ⟨rfl, rfl⟩ ⟨Nat.zero_le _, Nat.zero_le _⟩ (m_readsPart hΩ hX (i := i) (by omega)) rfl rfl ((hΩ _ _ _ _ _ _ _ _ _ _ _ _ _ _ _).1) rfl rfl ?_
            refine G_if_eqN (a := (r_part t ln i fi se t3).1) 65 dX4_play_51 (by decide) (by omega) (fun c51 => ?_) (fun c51 => ?_)
            · exact (show False by omega).elim
            · refine G_aload_n dX4_play_54 rfl ?_
              refine G_callVi dX4_play_55 kX4_play_X4_doesPart ⟨rfl, rfl⟩ ⟨Nat.zero_le _, Nat.zero_le _⟩ (m_doesPart hΩ ho hv (by omega) hP) rfl rfl ((hΩ _ _ _ _ _ _ _ _ _ _ _ _ _ _ _).1) rfl rfl ?_
              refine G_if_eqN (a := (s_do t ln i f).1) 65 dX4_play_58 (by decide) (by omega) (fun c58 => ?_) (fun c58 => ?_)
              · exact (show False by omega).elim
              · refine G_iconst (v := 1) dX4_play_61 (by decide) ?_
                refine G_goto 66 dX4_play_62 (by decide) ?_
                refine G_istore_n dX4_play_66 rfl (L' := [some (.ref mp), some (.int (nI (k))), some (.int 1)]) rfl ?_
                refine G_iload_n dX4_play_67 rfl ?_
                refine G_iload_n dX4_play_68 rfl ?_
                refine G_if_eqN (a := 1) 76 dX4_play_69 (by decide) (by omega) (fun c69 => ?_) (fun c69 => ?_)
                · exact (show False by omega).elim
                · refine G_iconst (v := 1) dX4_play_72 (by decide) ?_
                  refine G_goto 77 dX4_play_73 (by decide) ?_
                  refine G_iaddN (a := k) (c := 1) (s := k + 1) dX4_play_77 (by omega) ?_
                  refine G_istore_n dX4_play_78 rfl (L' := [some (.ref mp), some (.int (nI (k + 1))), some (.int 1)]) rfl ?_
                  refine G_aload_n dX4_play_79 rfl ?_
                  refine G_dup dX4_play_80 rfl ?_
                  refine G_getf dX4_play_81 fX4_play_140 ((hΩ _ _ _ _ _ _ _ _ _ _ _ _ _ _ _).1) (rfl) ?_
                  refine G_iconst (v := 1) dX4_play_84 (by decide) ?_
                  refine G_iaddN (a := ((r_part t ln i fi se t3).2.1)) (c := 1) (s := ((r_part t ln i fi se t3).2.1) + 1) dX4_play_85 (by omega) ?_
                  refine G_putf dX4_play_86 pX4_play_140 ((hΩ _ _ _ _ _ _ _ _ _ _ _ _ _ _ _).1) (fun _ => ⟨rfl, rfl⟩) (by simp [mfs]) ((hΩ _ _ _ _ _ _ _ _ _ _ _ _ _ _ _).2.2.2.2.2.2.1 _ _ _ _ _ _ _ _ _ _) ?_
                  refine G_goto 32 dX4_play_89 (by decide) ?_
                  refine G_iload_n dX4_play_32 rfl ?_
                  refine G_if_eqN (a := 1) 92 dX4_play_33 (by decide) (by omega) (fun c33 => ?_) (fun c33 => ?_)
                  · exact (show False by omega).elim
                  · refine G_aload_n dX4_play_36 rfl ?_
                    refine G_getf dX4_play_37 fX4_play_140 ((hΩ _ _ _ _ _ _ _ _ _ _ _ _ _ _ _).1) (rfl) ?_
                    refine G_aload_n dX4_play_40 rfl ?_
                    refine G_getf dX4_play_41 fX4_play_137 ((hΩ _ _ _ _ _ _ _ _ _ _ _ _ _ _ _).1) (rfl) ?_
                    refine G_icmp_geN (a := (((r_part t ln i fi se t3).2.1) + 1)) (c := ln) 92 dX4_play_44 (by decide) (by omega) (fun c44 => ?_) (fun c44 => ?_)
                    · refine G_aload_n dX4_play_92 rfl ?_
                      refine G_iconst (v := 0) dX4_play_93 (by decide) ?_
                      refine G_putf dX4_play_94 pX4_play_137 ((hΩ _ _ _ _ _ _ _ _ _ _ _ _ _ _ _).1) (fun _ => ⟨rfl, rfl⟩) (by simp [mfs]) ((hΩ _ _ _ _ _ _ _ _ _ _ _ _ _ _ _).2.2.2.2.2.2.1 _ _ _ _ _ _ _ _ _ _) ?_
                      refine G_iload_n dX4_play_97 rfl ?_
                      exact G_iret dX4_play_98 ⟨Nat.zero_le _, Nat.zero_le _⟩ (rfl)
                    · exact (show False by omega).elim
    · rw [if_neg hg] at es
      refine ⟨(r_part t ln i fi se t3).2.1 + 1, (r_part t ln i fi se t3).2.2.1, (r_part t ln i fi se t3).2.2.2.1, (r_part t ln i fi se t3).2.2.2.2.1, (r_part t ln i fi se t3).2.2.2.2.2, ?_⟩
      rw [es]
      refine G_iload_n dX4_play_32 rfl ?_
      refine G_if_eqN (a := 1) 92 dX4_play_33 (by decide) (by omega) (fun c33 => ?_) (fun c33 => ?_)
      · exact (show False by omega).elim
      · refine G_aload_n dX4_play_36 rfl ?_
        refine G_getf dX4_play_37 fX4_play_140 ((hΩ _ _ _ _ _ _ _ _ _ _ _ _ _ _ _).1) (rfl) ?_
        refine G_aload_n dX4_play_40 rfl ?_
        refine G_getf dX4_play_41 fX4_play_137 ((hΩ _ _ _ _ _ _ _ _ _ _ _ _ _ _ _).1) (rfl) ?_
        refine G_icmp_geN (a := i) (c := ln) 92 dX4_play_44 (by decide) (by omega) (fun c44 => ?_) (fun c44 => ?_)
        · exact (show False by omega).elim
        · refine G_aload_n dX4_play_47 rfl ?_
          have := r_part_le t ln i fi se t3
          refine G_callVi dX4_play_48 kX4_play_X4_readsPart ⟨rfl, rfl⟩ ⟨Nat.zero_le _, Nat.zero_le _⟩ (m_readsPart hΩ hX (i := i) (by omega)) rfl rfl ((hΩ _ _ _ _ _ _ _ _ _ _ _ _ _ _ _).1) rfl rfl ?_
          refine G_if_eqN (a := (r_part t ln i fi se t3).1) 65 dX4_play_51 (by decide) (by omega) (fun c51 => ?_) (fun c51 => ?_)
          · exact (show False by omega).elim
          · refine G_aload_n dX4_play_54 rfl ?_
            refine G_callVi dX4_play_55 kX4_play_X4_doesPart ⟨rfl, rfl⟩ ⟨Nat.zero_le _, Nat.zero_le _⟩ (m_doesPart hΩ ho hv (by omega) hP) rfl rfl ((hΩ _ _ _ _ _ _ _ _ _ _ _ _ _ _ _).1) rfl rfl ?_
            refine G_if_eqN (a := (s_do t ln i f).1) 65 dX4_play_58 (by decide) (by omega) (fun c58 => ?_) (fun c58 => ?_)
            · refine G_iconst (v := 0) dX4_play_65 (by decide) ?_
              refine G_istore_n dX4_play_66 rfl (L' := [some (.ref mp), some (.int (nI (k))), some (.int 0)]) rfl ?_
              refine G_iload_n dX4_play_67 rfl ?_
              refine G_iload_n dX4_play_68 rfl ?_
              refine G_if_eqN (a := 0) 76 dX4_play_69 (by decide) (by omega) (fun c69 => ?_) (fun c69 => ?_)
              · refine G_iconst (v := 0) dX4_play_76 (by decide) ?_
                refine G_iaddN (a := k) (c := 0) (s := k) dX4_play_77 (by omega) ?_
                refine G_istore_n dX4_play_78 rfl (L' := [some (.ref mp), some (.int (nI (k))), some (.int 0)]) rfl ?_
                refine G_aload_n dX4_play_79 rfl ?_
                refine G_dup dX4_play_80 rfl ?_
                refine G_getf dX4_play_81 fX4_play_140 ((hΩ _ _ _ _ _ _ _ _ _ _ _ _ _ _ _).1) (rfl) ?_
                refine G_iconst (v := 1) dX4_play_84 (by decide) ?_
                refine G_iaddN (a := ((r_part t ln i fi se t3).2.1)) (c := 1) (s := ((r_part t ln i fi se t3).2.1) + 1) dX4_play_85 (by omega) ?_
                refine G_putf dX4_play_86 pX4_play_140 ((hΩ _ _ _ _ _ _ _ _ _ _ _ _ _ _ _).1) (fun _ => ⟨rfl, rfl⟩) (by simp [mfs]) ((hΩ _ _ _ _ _ _ _ _ _ _ _ _ _ _ _).2.2.2.2.2.2.1 _ _ _ _ _ _ _ _ _ _) ?_
                refine G_goto 32 dX4_play_89 (by decide) ?_
                refine G_iload_n dX4_play_32 rfl ?_
                refine G_if_eqN (a := 0) 92 dX4_play_33 (by decide) (by omega) (fun c33 => ?_) (fun c33 => ?_)
                · refine G_aload_n dX4_play_92 rfl ?_
                  refine G_iconst (v := 0) dX4_play_93 (by decide) ?_
                  refine G_putf dX4_play_94 pX4_play_137 ((hΩ _ _ _ _ _ _ _ _ _ _ _ _ _ _ _).1) (fun _ => ⟨rfl, rfl⟩) (by simp [mfs]) ((hΩ _ _ _ _ _ _ _ _ _ _ _ _ _ _ _).2.2.2.2.2.2.1 _ _ _ _ _ _ _ _ _ _) ?_
                  refine G_iload_n dX4_play_97 rfl ?_
                  exact G_iret dX4_play_98 ⟨Nat.zero_le _, Nat.zero_le _⟩ (rfl)
                · exact (show False by omega).elim
              · exact (show False by omega).elim
            · exact (show False by omega).elim
theorem m_play_1 (hΩ : MV mp p1 p2 p3 p5 p7 Ω) {th hs sg fi se t3 : Int32} {f sp sv sn bf : mj_S} {m ln i : Nat} {hh : Int64} {t : Nat → Nat} (hX : TX bf ln t) (hc : ¬ s_ep (s_fd t ln 0 0) = 1) : ∃ (i' : Nat) (sg' fi' se' t3' : Int32), MC l yX4_play wsX4_play rmX4_play false [.ref mp] (Ω th f sp sv m sn hs bf ln i sg fi se t3 hh) (some (.int 0)) (Ω 1 f sp sv m sn hs bf ln (i') (sg') (fi') (se') (t3') hh) := by
  obtain ⟨i', sg', fi', se', t3', hE⟩ := m_findError hΩ hX (th := 0) (hs := hs) (f := f) (sp := sp) (sv := sv) (sn := sn) (m := m) (hh := hh) (i := i) (sg := sg) (fi := fi) (se := se) (t3 := t3)
  refine ⟨i', sg', fi', se', t3', ?_⟩
  refine mj_MC (cc := cX4_play) (nl := 3) (ret := (some .int)) (plainFor_of_name (by decide)) rfl (⟨_, rfl, rfl⟩) (Nat.le_of_ble_eq_true rfl) ?_
  show GG l cX4_play MX4_play false (.inl ((some (.int 0)), Ω 1 f sp sv m sn hs bf ln (i') (sg') (fi') (se') (t3') hh)) 0 [some (.ref mp), none, none] [] (Ω th f sp sv m sn hs bf ln i sg fi se t3 hh) 0 0
  refine G_aload_n dX4_play_0 rfl ?_
  refine G_iconst (v := 0) dX4_play_1 (by decide) ?_
  refine G_putf dX4_play_2 pX4_play_25 ((hΩ _ _ _ _ _ _ _ _ _ _ _ _ _ _ _).1) (fun _ => ⟨rfl, rfl⟩) (by simp [mfs]) ((hΩ _ _ _ _ _ _ _ _ _ _ _ _ _ _ _).2.2.2.2.2.2.1 _ _ _ _ _ _ _ _ _ _) ?_
  refine G_aload_n dX4_play_5 rfl ?_
  refine G_callVi dX4_play_6 kX4_play_X4_findError ⟨rfl, rfl⟩ ⟨Nat.zero_le _, Nat.zero_le _⟩ (hE) rfl rfl ((hΩ _ _ _ _ _ _ _ _ _ _ _ _ _ _ _).1) rfl rfl ?_
  refine G_iconst (v := (-1)) dX4_play_9 (by decide) ?_
  refine G_icmp_eq 19 dX4_play_10 (by decide) (fun c10 => ?_) (fun c10 => ?_)
  · exact absurd (fe_0 hX.1 c10).2 hc
  · refine G_aload_n dX4_play_13 rfl ?_
    refine G_iconst (v := 1) dX4_play_14 (by decide) ?_
    refine G_callVi dX4_play_15 kX4_play_X4_fails ⟨rfl, rfl⟩ ⟨Nat.zero_le _, Nat.zero_le _⟩ (m_fails hΩ) rfl rfl ((hΩ _ _ _ _ _ _ _ _ _ _ _ _ _ _ _).1) rfl rfl ?_
    exact G_iret dX4_play_18 ⟨Nat.zero_le _, Nat.zero_le _⟩ (rfl)
theorem m_play (hΩ : MV mp p1 p2 p3 p5 p7 Ω) {th hs sg fi se t3 : Int32} {f sp sv sn bf : mj_S} {m ln i : Nat} {hh : Int64} {t : Nat → Nat} (hX : TX bf ln t) (hm : m ≤ 6) (hc : s_ep (s_fd t ln 0 0) = 1) {D : Nat} (ho : oA f D) (hv : vt f) (hD : D < 2147460000) : ∃ (i' : Nat) (sg' fi' se' t3' : Int32), MC l yX4_play wsX4_play rmX4_play false [.ref mp] (Ω th f sp sv m sn hs bf ln i sg fi se t3 hh) (some (.int (nI (s_pl t ln ln 0 f 0).2))) (Ω 0 ((s_pl t ln ln 0 f 0).1) sp (s_save f sv m) (s_svm m) sn hs bf 0 (i') (sg') (fi') (se') (t3') hh) := by
  obtain ⟨i', sg', fi', se', t3', hE⟩ := m_findError hΩ hX (th := 0) (hs := hs) (f := f) (sp := sp) (sv := sv) (sn := sn) (m := m) (hh := hh) (i := i) (sg := sg) (fi := fi) (se := se) (t3 := t3)
  obtain ⟨j', jg', ji', je', jt', K⟩ := ml_play hΩ hX hc (ln + 1) 0 D 0 f sg' fi' se' t3' (by omega) (DR_0 t ln) rfl ho hv (by have := hX.1; omega) (th := 0) (hs := hs) (sp := sp) (sv := s_save f sv m) (sn := sn) (m := s_svm m) (hh := hh)
  refine ⟨j', jg', ji', je', jt', ?_⟩
  refine mj_MC (cc := cX4_play) (nl := 3) (ret := (some .int)) (plainFor_of_name (by decide)) rfl (⟨_, rfl, rfl⟩) (Nat.le_of_ble_eq_true rfl) ?_
  show GG l cX4_play MX4_play false (.inl ((some (.int (nI (s_pl t ln ln 0 f 0).2))), Ω 0 ((s_pl t ln ln 0 f 0).1) sp (s_save f sv m) (s_svm m) sn hs bf 0 (j') (jg') (ji') (je') (jt') hh)) 0 [some (.ref mp), none, none] [] (Ω th f sp sv m sn hs bf ln i sg fi se t3 hh) 0 0
  refine G_aload_n dX4_play_0 rfl ?_
  refine G_iconst (v := 0) dX4_play_1 (by decide) ?_
  refine G_putf dX4_play_2 pX4_play_25 ((hΩ _ _ _ _ _ _ _ _ _ _ _ _ _ _ _).1) (fun _ => ⟨rfl, rfl⟩) (by simp [mfs]) ((hΩ _ _ _ _ _ _ _ _ _ _ _ _ _ _ _).2.2.2.2.2.2.1 _ _ _ _ _ _ _ _ _ _) ?_
  refine G_aload_n dX4_play_5 rfl ?_
  refine G_callVi dX4_play_6 kX4_play_X4_findError ⟨rfl, rfl⟩ ⟨Nat.zero_le _, Nat.zero_le _⟩ (hE) rfl rfl ((hΩ _ _ _ _ _ _ _ _ _ _ _ _ _ _ _).1) rfl rfl ?_
  refine G_iconst (v := (-1)) dX4_play_9 (by decide) ?_
  refine G_icmp_eq 19 dX4_play_10 (by decide) (fun c10 => ?_) (fun c10 => ?_)
  · refine G_aload_n dX4_play_19 rfl ?_
    refine G_callVv dX4_play_20 kX4_play_X4_save ⟨rfl, rfl⟩ ⟨Nat.zero_le _, Nat.zero_le _⟩ (m_save hΩ (by omega)) rfl rfl ((hΩ _ _ _ _ _ _ _ _ _ _ _ _ _ _ _).1) rfl rfl ?_
    refine G_aload_n dX4_play_23 rfl ?_
    refine G_iconst (v := 0) dX4_play_24 (by decide) ?_
    refine G_putf dX4_play_25 pX4_play_140 ((hΩ _ _ _ _ _ _ _ _ _ _ _ _ _ _ _).1) (fun _ => ⟨rfl, rfl⟩) (by simp [mfs]) ((hΩ _ _ _ _ _ _ _ _ _ _ _ _ _ _ _).2.2.2.2.2.2.1 _ _ _ _ _ _ _ _ _ _) ?_
    refine G_iconst (v := 0) dX4_play_28 (by decide) ?_
    refine G_istore_n dX4_play_29 rfl (L' := [some (.ref mp), some (.int 0), none]) rfl ?_
    refine G_iconst (v := 1) dX4_play_30 (by decide) ?_
    refine G_istore_n dX4_play_31 rfl (L' := [some (.ref mp), some (.int 0), some (.int 1)]) rfl ?_
    exact K
  · exact absurd (by rw [s_fe, if_pos hc]) c10
end RF

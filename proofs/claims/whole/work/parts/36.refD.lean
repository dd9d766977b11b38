/-! WHAT WOULD BE -/
theorem oA_setw {f : mj_S} {D c : Nat} {u v : Int32} (ho : oA f D) (hc : c < 6) (h : (u = -1 ∧ v = -1) ∨ ∃ h b, h < 5 ∧ b < 4 ∧ u = nI h ∧ v = nI b) : oA (s_setw f c u v) D := by
  have q : ∀ k, ¬ (139 ≤ k ∧ k < 151) → s_setw f c u v k = f k := fun k hk => by
    unfold s_setw; rw [upd_n (by omega), upd_n (by omega)]
  obtain ⟨h0, h1, h2, h3, h4, h5, h6, h7, h8⟩ := ho
  refine ⟨by rw [q _ (by omega)]; exact h0, by rw [q _ (by omega)]; exact h1, by rw [q _ (by omega)]; exact h2, by rw [q _ (by omega)]; exact h3, by rw [q _ (by omega)]; exact h4, fun k hk => by rw [q _ (by omega)]; exact h5 k hk, fun k hk => by rw [q _ (by omega)]; exact h6 k hk, fun k hk => by rw [q _ (by omega)]; exact h7 k hk, fun k hk => ?_⟩
  by_cases e : k = c
  · subst e
    unfold s_setw
    rw [upd_n (show 139 + k ≠ 145 + k by omega), upd_s, upd_s]
    exact h
  · unfold s_setw
    rw [upd_n (show 139 + k ≠ 145 + c by omega), upd_n (show 139 + k ≠ 139 + c by omega), upd_n (show 145 + k ≠ 145 + c by omega), upd_n (show 145 + k ≠ 139 + c by omega)]
    exact h8 k hk
theorem vt_setw {f : mj_S} {c : Nat} {u v : Int32} (hc : c < 6) (hv : vt f) : vt (s_setw f c u v) :=
  vt_same (sT_upd (sT_upd (sT_rf f) (by unfold inT; omega)) (by unfold inT; omega)) hv
theorem oA_rests {D : Nat} : ∀ (d c : Nat) (f : mj_S), c + d ≤ 6 → oA f D → vt f → oA (itr (fun c a => s_setw a c (-1) (-1)) d c f) D ∧ vt (itr (fun c a => s_setw a c (-1) (-1)) d c f)
  | 0, c, f, _, ho, hv => ⟨ho, hv⟩
  | d + 1, c, f, hc, ho, hv => oA_rests d (c + 1) _ (by omega) (oA_setw ho (by omega) (Or.inl ⟨rfl, rfl⟩)) (vt_setw (by omega) hv)
theorem turn_ok {f : mj_S} {D : Nat} (ho : oA f D) (hv : vt f) : oA (s_turn f) D ∧ vt (s_turn f) := by
  have h1 : oA (upd f 1 (1 - f 1)) D := by
    obtain ⟨h0, h1, h2, h3, h4, h5, h6, h7, h8⟩ := ho
    refine ⟨by rw [upd_n (by omega)]; exact h0, ?_, by rw [upd_n (by omega)]; exact h2, by rw [upd_n (by omega)]; exact h3, by rw [upd_n (by omega)]; exact h4, fun k hk => by rw [upd_n (by omega)]; exact h5 k hk, fun k hk => by rw [upd_n (by omega)]; exact h6 k hk, fun k hk => by rw [upd_n (by omega)]; exact h7 k hk, fun k hk => by rw [upd_n (by omega), upd_n (by omega)]; exact h8 k hk⟩
    rw [upd_s]
    rcases h1 with e | e
    · rw [e]; exact Or.inr (by decide)
    · rw [e]; exact Or.inl (by decide)
  have h2 : vt (upd f 1 (1 - f 1)) := vt_same (sT_upd (sT_rf f) (by unfold inT; omega)) hv
  unfold s_turn
  split
  · exact oA_rests 6 0 _ (by omega) h1 h2
  · exact ⟨h1, h2⟩
def s_would (f : mj_S) (n : Nat) : Nat → Int32
  | 0 => (s_days n f).2
  | 1 => s_shs (s_days n f).1
  | _ => s_sum (s_days n f).1 40 5 - s_sum f 40 5
def s_un (h : Nat) : Nat → Nat → mj_S → Nat
  | 0, c, _ => c
  | d + 1, c, f => if s_sh f h ≤ 0 then c else s_un h d (c + 1) (s_day f).1
theorem s_un_le (h : Nat) : ∀ (d c : Nat) (f : mj_S), c ≤ s_un h d c f ∧ s_un h d c f ≤ c + d
  | 0, c, f => ⟨Nat.le_refl _, Nat.le_refl _⟩
  | d + 1, c, f => by
    unfold s_un
    split
    · exact ⟨Nat.le_refl _, by omega⟩
    · have := s_un_le h d (c + 1) (s_day f).1
      omega
def s_until (f : mj_S) (h : Nat) : Int32 := if s_un h 201 0 f = 201 then -1 else nI (s_un h 201 0 f)
def s_home (f : mj_S) (c h b : Nat) : Int32 := (s_days 20 (s_setw f c (nI h) (nI b))).1 (15 + h)
def s_best1 (f : mj_S) (c h : Nat) (b : Nat) (p : Int32 × Int32) : Int32 × Int32 := if s_why f h b = 0 then (if p.1 = -1 ∨ p.2 < s_home f c h b then (nI b, s_home f c h b) else p) else p
def s_best (f : mj_S) (c h : Nat) : Int32 := (itr (s_best1 f c h) 4 0 (-1, 0)).1
def s_bsp1 (f : mj_S) (h : Nat) (b : Nat) (a : mj_S) : mj_S := if s_why f h b = 0 then f else a
def s_bsp (f : mj_S) (h : Nat) (sp : mj_S) : mj_S := itr (s_bsp1 f h) 4 0 sp
theorem s_bsp_f (f : mj_S) (h : Nat) : ∀ d c : Nat, itr (s_bsp1 f h) d c f = f
  | 0, c => rfl
  | d + 1, c => by rw [itr_s]; unfold s_bsp1; rw [show (if s_why f h c = 0 then f else f) = f by split <;> rfl]; exact s_bsp_f f h d (c + 1)
section RD
variable {l : Launch} {mp p1 p2 p3 p5 p7 : Nat} {Ω : MT}
theorem m_wouldPass_0 (hΩ : MV mp p1 p2 p3 p5 p7 Ω) {th hs sg fi se t3 : Int32} {f sp sv sn bf : mj_S} {m ln i : Nat} {hh : Int64} {D : Nat} (ho : oA f D) (hv : vt f) {n : Nat} (hn : D + n < 2147480000) : MC l yX4_wouldPass wsX4_wouldPass rmX4_wouldPass false [.ref mp, .int (nI (n)), .int 0] (Ω th f sp sv m sn hs bf ln i sg fi se t3 hh) (some (.int (s_would f n 0))) (Ω th f f sv m sn hs bf ln i sg fi se t3 hh) := by
  refine mj_MC (cc := cX4_wouldPass) (nl := 6) (ret := (some .int)) (plainFor_of_name (by decide)) rfl (⟨_, rfl, rfl⟩) (Nat.le_of_ble_eq_true rfl) ?_
  show GG l cX4_wouldPass MX4_wouldPass false (.inl ((some (.int (s_would f n 0))), Ω th f f sv m sn hs bf ln i sg fi se t3 hh)) 0 [some (.ref mp), some (.int (nI (n))), some (.int 0), none, none, none] [] (Ω th f sp sv m sn hs bf ln i sg fi se t3 hh) 0 0
  refine G_aload_n dX4_wouldPass_0 rfl ?_
  refine G_callVv dX4_wouldPass_1 kX4_wouldPass_X4_putAside ⟨rfl, rfl⟩ ⟨Nat.zero_le _, Nat.zero_le _⟩ (m_putAside hΩ) rfl rfl ((hΩ _ _ _ _ _ _ _ _ _ _ _ _ _ _ _).1) rfl rfl ?_
  refine G_aload_n dX4_wouldPass_4 rfl ?_
  refine G_bipush (v := 40) dX4_wouldPass_5 (by decide) ?_
  refine G_iconst (v := 5) dX4_wouldPass_7 (by decide) ?_
  refine G_callVi dX4_wouldPass_8 kX4_wouldPass_X4_sumOf ⟨rfl, rfl⟩ ⟨Nat.zero_le _, Nat.zero_le _⟩ (m_sumOf (hΩ.fv th f sv m sn hs bf ln i sg fi se t3 hh) (a := 40) (m := 5) (by omega)) rfl rfl ((hΩ _ _ _ _ _ _ _ _ _ _ _ _ _ _ _).1) rfl rfl ?_
  refine G_istore_n dX4_wouldPass_11 rfl (L' := [some (.ref mp), some (.int (nI (n))), some (.int 0), some (.int (s_sum f (40) (5))), none, none]) rfl ?_
  refine G_aload_n dX4_wouldPass_12 rfl ?_
  refine G_iload_n dX4_wouldPass_13 rfl ?_
  refine G_callVi dX4_wouldPass_14 kX4_wouldPass_X4_passes ⟨rfl, rfl⟩ ⟨Nat.zero_le _, Nat.zero_le _⟩ (m_passes (hΩ.fv th f sv m sn hs bf ln i sg fi se t3 hh) (n := n) ho hv (by omega)) rfl rfl ((hΩ _ _ _ _ _ _ _ _ _ _ _ _ _ _ _).1) rfl rfl ?_
  refine G_istore dX4_wouldPass_17 rfl (L' := [some (.ref mp), some (.int (nI (n))), some (.int 0), some (.int (s_sum f (40) (5))), some (.int (s_days (n) f).2), none]) rfl ?_
  refine G_iload_n dX4_wouldPass_19 rfl ?_
  refine G_if_neN (a := 0) 28 dX4_wouldPass_20 (by decide) (by omega) (fun c20 => ?_) (fun c20 => ?_)
  · exact (show False by omega).elim
  · refine G_iload dX4_wouldPass_23 rfl ?_
    refine G_goto 50 dX4_wouldPass_25 (by decide) ?_
    refine G_istore dX4_wouldPass_50 rfl (L' := [some (.ref mp), some (.int (nI (n))), some (.int 0), some (.int (s_sum f (40) (5))), some (.int (s_days (n) f).2), some (.int (s_days (n) f).2)]) rfl ?_
    refine G_aload_n dX4_wouldPass_52 rfl ?_
    refine G_callVv dX4_wouldPass_53 kX4_wouldPass_X4_takeBack ⟨rfl, rfl⟩ ⟨Nat.zero_le _, Nat.zero_le _⟩ (m_takeBack hΩ) rfl rfl ((hΩ _ _ _ _ _ _ _ _ _ _ _ _ _ _ _).1) rfl rfl ?_
    refine G_iload dX4_wouldPass_56 rfl ?_
    exact G_iret dX4_wouldPass_58 ⟨Nat.zero_le _, Nat.zero_le _⟩ (rfl)
theorem m_wouldPass_1 (hΩ : MV mp p1 p2 p3 p5 p7 Ω) {th hs sg fi se t3 : Int32} {f sp sv sn bf : mj_S} {m ln i : Nat} {hh : Int64} {D : Nat} (ho : oA f D) (hv : vt f) {n : Nat} (hn : D + n < 2147480000) : MC l yX4_wouldPass wsX4_wouldPass rmX4_wouldPass false [.ref mp, .int (nI (n)), .int 1] (Ω th f sp sv m sn hs bf ln i sg fi se t3 hh) (some (.int (s_would f n 1))) (Ω th f f sv m sn hs bf ln i sg fi se t3 hh) := by
  refine mj_MC (cc := cX4_wouldPass) (nl := 6) (ret := (some .int)) (plainFor_of_name (by decide)) rfl (⟨_, rfl, rfl⟩) (Nat.le_of_ble_eq_true rfl) ?_
  show GG l cX4_wouldPass MX4_wouldPass false (.inl ((some (.int (s_would f n 1))), Ω th f f sv m sn hs bf ln i sg fi se t3 hh)) 0 [some (.ref mp), some (.int (nI (n))), some (.int 1), none, none, none] [] (Ω th f sp sv m sn hs bf ln i sg fi se t3 hh) 0 0
  refine G_aload_n dX4_wouldPass_0 rfl ?_
  refine G_callVv dX4_wouldPass_1 kX4_wouldPass_X4_putAside ⟨rfl, rfl⟩ ⟨Nat.zero_le _, Nat.zero_le _⟩ (m_putAside hΩ) rfl rfl ((hΩ _ _ _ _ _ _ _ _ _ _ _ _ _ _ _).1) rfl rfl ?_
  refine G_aload_n dX4_wouldPass_4 rfl ?_
  refine G_bipush (v := 40) dX4_wouldPass_5 (by decide) ?_
  refine G_iconst (v := 5) dX4_wouldPass_7 (by decide) ?_
  refine G_callVi dX4_wouldPass_8 kX4_wouldPass_X4_sumOf ⟨rfl, rfl⟩ ⟨Nat.zero_le _, Nat.zero_le _⟩ (m_sumOf (hΩ.fv th f sv m sn hs bf ln i sg fi se t3 hh) (a := 40) (m := 5) (by omega)) rfl rfl ((hΩ _ _ _ _ _ _ _ _ _ _ _ _ _ _ _).1) rfl rfl ?_
  refine G_istore_n dX4_wouldPass_11 rfl (L' := [some (.ref mp), some (.int (nI (n))), some (.int 1), some (.int (s_sum f (40) (5))), none, none]) rfl ?_
  refine G_aload_n dX4_wouldPass_12 rfl ?_
  refine G_iload_n dX4_wouldPass_13 rfl ?_
  refine G_callVi dX4_wouldPass_14 kX4_wouldPass_X4_passes ⟨rfl, rfl⟩ ⟨Nat.zero_le _, Nat.zero_le _⟩ (m_passes (hΩ.fv th f sv m sn hs bf ln i sg fi se t3 hh) (n := n) ho hv (by omega)) rfl rfl ((hΩ _ _ _ _ _ _ _ _ _ _ _ _ _ _ _).1) rfl rfl ?_
  refine G_istore dX4_wouldPass_17 rfl (L' := [some (.ref mp), some (.int (nI (n))), some (.int 1), some (.int (s_sum f (40) (5))), some (.int (s_days (n) f).2), none]) rfl ?_
  refine G_iload_n dX4_wouldPass_19 rfl ?_
  refine G_if_neN (a := 1) 28 dX4_wouldPass_20 (by decide) (by omega) (fun c20 => ?_) (fun c20 => ?_)
  · refine G_iload_n dX4_wouldPass_28 rfl ?_
    refine G_iconst (v := 1) dX4_wouldPass_29 (by decide) ?_
    refine G_icmp_neN (a := 1) (c := 1) 41 dX4_wouldPass_30 (by decide) (by omega) (fun c30 => ?_) (fun c30 => ?_)
    · exact (show False by omega).elim
    · refine G_aload_n dX4_wouldPass_33 rfl ?_
      refine G_iconst (v := 1) dX4_wouldPass_34 (by decide) ?_
      refine G_callVi dX4_wouldPass_35 kX4_wouldPass_X4_shortHearths ⟨rfl, rfl⟩ ⟨Nat.zero_le _, Nat.zero_le _⟩ (m_s_shs (hΩ.fv th f sv m sn hs bf ln i sg fi se t3 hh)) rfl rfl ((hΩ _ _ _ _ _ _ _ _ _ _ _ _ _ _ _).1) rfl rfl ?_
      refine G_goto 50 dX4_wouldPass_38 (by decide) ?_
      refine G_istore dX4_wouldPass_50 rfl (L' := [some (.ref mp), some (.int (nI (n))), some (.int 1), some (.int (s_sum f (40) (5))), some (.int (s_days (n) f).2), some (.int (s_shs (s_days (n) f).1))]) rfl ?_
      refine G_aload_n dX4_wouldPass_52 rfl ?_
      refine G_callVv dX4_wouldPass_53 kX4_wouldPass_X4_takeBack ⟨rfl, rfl⟩ ⟨Nat.zero_le _, Nat.zero_le _⟩ (m_takeBack hΩ) rfl rfl ((hΩ _ _ _ _ _ _ _ _ _ _ _ _ _ _ _).1) rfl rfl ?_
      refine G_iload dX4_wouldPass_56 rfl ?_
      exact G_iret dX4_wouldPass_58 ⟨Nat.zero_le _, Nat.zero_le _⟩ (rfl)
  · exact (show False by omega).elim
theorem m_wouldPass_2 (hΩ : MV mp p1 p2 p3 p5 p7 Ω) {th hs sg fi se t3 : Int32} {f sp sv sn bf : mj_S} {m ln i : Nat} {hh : Int64} {D : Nat} (ho : oA f D) (hv : vt f) {n : Nat} (hn : D + n < 2147480000) : MC l yX4_wouldPass wsX4_wouldPass rmX4_wouldPass false [.ref mp, .int (nI (n)), .int 2] (Ω th f sp sv m sn hs bf ln i sg fi se t3 hh) (some (.int (s_would f n 2))) (Ω th f f sv m sn hs bf ln i sg fi se t3 hh) := by
  refine mj_MC (cc := cX4_wouldPass) (nl := 6) (ret := (some .int)) (plainFor_of_name (by decide)) rfl (⟨_, rfl, rfl⟩) (Nat.le_of_ble_eq_true rfl) ?_
  show GG l cX4_wouldPass MX4_wouldPass false (.inl ((some (.int (s_would f n 2))), Ω th f f sv m sn hs bf ln i sg fi se t3 hh)) 0 [some (.ref mp), some (.int (nI (n))), some (.int 2), none, none, none] [] (Ω th f sp sv m sn hs bf ln i sg fi se t3 hh) 0 0
  refine G_aload_n dX4_wouldPass_0 rfl ?_
  refine G_callVv dX4_wouldPass_1 kX4_wouldPass_X4_putAside ⟨rfl, rfl⟩ ⟨Nat.zero_le _, Nat.zero_le _⟩ (m_putAside hΩ) rfl rfl ((hΩ _ _ _ _ _ _ _ _ _ _ _ _ _ _ _).1) rfl rfl ?_
  refine G_aload_n dX4_wouldPass_4 rfl ?_
  refine G_bipush (v := 40) dX4_wouldPass_5 (by decide) ?_
  refine G_iconst (v := 5) dX4_wouldPass_7 (by decide) ?_
  refine G_callVi dX4_wouldPass_8 kX4_wouldPass_X4_sumOf ⟨rfl, rfl⟩ ⟨Nat.zero_le _, Nat.zero_le _⟩ (m_sumOf (hΩ.fv th f sv m sn hs bf ln i sg fi se t3 hh) (a := 40) (m := 5) (by omega)) rfl rfl ((hΩ _ _ _ _ _ _ _ _ _ _ _ _ _ _ _).1) rfl rfl ?_
  refine G_istore_n dX4_wouldPass_11 rfl (L' := [some (.ref mp), some (.int (nI (n))), some (.int 2), some (.int (s_sum f (40) (5))), none, none]) rfl ?_
  refine G_aload_n dX4_wouldPass_12 rfl ?_
  refine G_iload_n dX4_wouldPass_13 rfl ?_
  refine G_callVi dX4_wouldPass_14 kX4_wouldPass_X4_passes ⟨rfl, rfl⟩ ⟨Nat.zero_le _, Nat.zero_le _⟩ (m_passes (hΩ.fv th f sv m sn hs bf ln i sg fi se t3 hh) (n := n) ho hv (by omega)) rfl rfl ((hΩ _ _ _ _ _ _ _ _ _ _ _ _ _ _ _).1) rfl rfl ?_
  refine G_istore dX4_wouldPass_17 rfl (L' := [some (.ref mp), some (.int (nI (n))), some (.int 2), some (.int (s_sum f (40) (5))), some (.int (s_days (n) f).2), none]) rfl ?_
  refine G_iload_n dX4_wouldPass_19 rfl ?_
  refine G_if_neN (a := 2) 28 dX4_wouldPass_20 (by decide) (by omega) (fun c20 => ?_) (fun c20 => ?_)
  · refine G_iload_n dX4_wouldPass_28 rfl ?_
    refine G_iconst (v := 1) dX4_wouldPass_29 (by decide) ?_
    refine G_icmp_neN (a := 2) (c := 1) 41 dX4_wouldPass_30 (by decide) (by omega) (fun c30 => ?_) (fun c30 => ?_)
    · refine G_aload_n dX4_wouldPass_41 rfl ?_
      refine G_bipush (v := 40) dX4_wouldPass_42 (by decide) ?_
      refine G_iconst (v := 5) dX4_wouldPass_44 (by decide) ?_
      refine G_callVi dX4_wouldPass_45 kX4_wouldPass_X4_sumOf ⟨rfl, rfl⟩ ⟨Nat.zero_le _, Nat.zero_le _⟩ (m_sumOf (hΩ.fv th f sv m sn hs bf ln i sg fi se t3 hh) (a := 40) (m := 5) (by omega)) rfl rfl ((hΩ _ _ _ _ _ _ _ _ _ _ _ _ _ _ _).1) rfl rfl ?_
      refine G_iload_n dX4_wouldPass_48 rfl ?_
      refine G_isub dX4_wouldPass_49 ?_
      refine G_istore dX4_wouldPass_50 rfl (L' := [some (.ref mp), some (.int (nI (n))), some (.int 2), some (.int (s_sum f (40) (5))), some (.int (s_days (n) f).2), some (.int ((s_sum (s_days (n) f).1 (40) (5)) - (s_sum f (40) (5))))]) rfl ?_
      refine G_aload_n dX4_wouldPass_52 rfl ?_
      refine G_callVv dX4_wouldPass_53 kX4_wouldPass_X4_takeBack ⟨rfl, rfl⟩ ⟨Nat.zero_le _, Nat.zero_le _⟩ (m_takeBack hΩ) rfl rfl ((hΩ _ _ _ _ _ _ _ _ _ _ _ _ _ _ _).1) rfl rfl ?_
      refine G_iload dX4_wouldPass_56 rfl ?_
      exact G_iret dX4_wouldPass_58 ⟨Nat.zero_le _, Nat.zero_le _⟩ (rfl)
    · exact (show False by omega).elim
  · exact (show False by omega).elim
theorem m_wouldPass (hΩ : MV mp p1 p2 p3 p5 p7 Ω) {th hs sg fi se t3 : Int32} {f sp sv sn bf : mj_S} {m ln i : Nat} {hh : Int64} {D : Nat} (ho : oA f D) (hv : vt f)  {n : Nat} (hn : D + n < 2147480000) {w : Nat} (hw : w < 3) : MC l yX4_wouldPass wsX4_wouldPass rmX4_wouldPass false [.ref mp, .int (nI (n)), .int (nI (w))] (Ω th f sp sv m sn hs bf ln i sg fi se t3 hh) (some (.int (s_would f n w))) (Ω th f f sv m sn hs bf ln i sg fi se t3 hh) := by
  rcases (show w = 0 ∨ w = 1 ∨ w = 2 by omega) with rfl | rfl | rfl
  · exact m_wouldPass_0 hΩ ho hv hn
  · exact m_wouldPass_1 hΩ ho hv hn
  · exact m_wouldPass_2 hΩ ho hv hn
theorem ml_until (hΩ : MV mp p1 p2 p3 p5 p7 Ω) {th hs sg fi se t3 : Int32} {sp sv sn bf : mj_S} {m ln i : Nat} {hh : Int64} {X : mj_R} {h : Nat} (hh5 : h < 5) {K : Nat} (kk : ∀ f, GG l cX4_daysUntil MX4_daysUntil false X 32 [some (.ref mp), some (.int (nI (h))), some (.int (nI (K)))] [] (Ω th f sp sv m sn hs bf ln i sg fi se t3 hh) 0 0) : ∀ (d c : Nat) (D : Nat) (f : mj_S) (ho : oA f D) (hv : vt f) (hD : D + d < 2147479990), c + d = 201 → K = s_un h d c f → GG l cX4_daysUntil MX4_daysUntil false X 6 [some (.ref mp), some (.int (nI (h))), some (.int (nI (c)))] [] (Ω th f sp sv m sn hs bf ln i sg fi se t3 hh) 0 0
  | 0, c, D, f, ho, hv, hD, hc, hr => by
    refine G_iload_n dX4_daysUntil_6 rfl ?_
    refine G_sipush (v := 200) dX4_daysUntil_7 (by decide) ?_
    refine G_icmp_gtN (a := c) (c := 200) 32 dX4_daysUntil_10 (by decide) (by omega) (fun c10 => ?_) (fun c10 => ?_)
    · rw [s_un] at hr
      subst hr
      exact kk f
    · exact (show False by omega).elim
  | d + 1, c, D, f, ho, hv, hD, hc, hr => by
    refine G_iload_n dX4_daysUntil_6 rfl ?_
    refine G_sipush (v := 200) dX4_daysUntil_7 (by decide) ?_
    refine G_icmp_gtN (a := c) (c := 200) 32 dX4_daysUntil_10 (by decide) (by omega) (fun c10 => ?_) (fun c10 => ?_)
    · exact (show False by omega).elim
    · refine G_aload_n dX4_daysUntil_13 rfl ?_
      refine G_iload_n dX4_daysUntil_14 rfl ?_
      refine G_callVi dX4_daysUntil_15 kX4_daysUntil_X4_shortNow ⟨rfl, rfl⟩ ⟨Nat.zero_le _, Nat.zero_le _⟩ (m_shortNow (hΩ.fv th sp sv m sn hs bf ln i sg fi se t3 hh) (h := h) (by omega)) rfl rfl ((hΩ _ _ _ _ _ _ _ _ _ _ _ _ _ _ _).1) rfl rfl ?_
      refine G_if_le 32 dX4_daysUntil_18 (by decide) (fun c18 => ?_) (fun c18 => ?_)
      · rw [s_un, if_pos c18] at hr
        subst hr
        exact kk f
      · refine G_aload_n dX4_daysUntil_21 rfl ?_
        refine G_callVi dX4_daysUntil_22 kX4_daysUntil_X4_passOne ⟨rfl, rfl⟩ ⟨Nat.zero_le _, Nat.zero_le _⟩ (m_passOne (hΩ.fv th sp sv m sn hs bf ln i sg fi se t3 hh) ho hv (by omega)) rfl rfl ((hΩ _ _ _ _ _ _ _ _ _ _ _ _ _ _ _).1) rfl rfl ?_
        refine G_pop dX4_daysUntil_25 rfl ?_
        refine G_iincN (a := c) (s := c + 1) dX4_daysUntil_26 rfl (by omega) (L' := [some (.ref mp), some (.int (nI (h))), some (.int (nI (c + 1)))]) rfl ?_
        refine G_goto 6 dX4_daysUntil_29 (by decide) ?_
        obtain ⟨k1, k2, -⟩ := day_ok ho hv
        exact ml_until hΩ hh5 kk d (c + 1) (D + 1) _ k1 k2 (by omega) (by omega) (by rw [hr, s_un, if_neg c18])
theorem m_daysUntil (hΩ : MV mp p1 p2 p3 p5 p7 Ω) {th hs sg fi se t3 : Int32} {f sp sv sn bf : mj_S} {m ln i : Nat} {hh : Int64} {D : Nat} (ho : oA f D) (hv : vt f) (hD : D < 2147479000) {h : Nat} (hh5 : h < 5) : MC l yX4_daysUntil wsX4_daysUntil rmX4_daysUntil false [.ref mp, .int (nI (h))] (Ω th f sp sv m sn hs bf ln i sg fi se t3 hh) (some (.int (s_until f h))) (Ω th f f sv m sn hs bf ln i sg fi se t3 hh) := by
  refine mj_MC (cc := cX4_daysUntil) (nl := 3) (ret := (some .int)) (plainFor_of_name (by decide)) rfl (⟨_, rfl, rfl⟩) (Nat.le_of_ble_eq_true rfl) ?_
  show GG l cX4_daysUntil MX4_daysUntil false (.inl ((some (.int (s_until f h))), Ω th f f sv m sn hs bf ln i sg fi se t3 hh)) 0 [some (.ref mp), some (.int (nI (h))), none] [] (Ω th f sp sv m sn hs bf ln i sg fi se t3 hh) 0 0
  refine G_aload_n dX4_daysUntil_0 rfl ?_
  refine G_callVv dX4_daysUntil_1 kX4_daysUntil_X4_putAside ⟨rfl, rfl⟩ ⟨Nat.zero_le _, Nat.zero_le _⟩ (m_putAside hΩ) rfl rfl ((hΩ _ _ _ _ _ _ _ _ _ _ _ _ _ _ _).1) rfl rfl ?_
  refine G_iconst (v := 0) dX4_daysUntil_4 (by decide) ?_
  refine G_istore_n dX4_daysUntil_5 rfl (L' := [some (.ref mp), some (.int (nI (h))), some (.int 0)]) rfl ?_
  obtain ⟨-, hle⟩ := s_un_le h 201 0 f
  obtain ⟨K, eK⟩ : ∃ K, K = s_un h 201 0 f := ⟨_, rfl⟩
  rw [← eK] at hle
  refine ml_until hΩ (K := K) hh5 (fun g => ?_) 201 0 D f ho hv (by omega) (by omega) eK
  refine G_aload_n dX4_daysUntil_32 rfl ?_
  refine G_callVv dX4_daysUntil_33 kX4_daysUntil_X4_takeBack ⟨rfl, rfl⟩ ⟨Nat.zero_le _, Nat.zero_le _⟩ (m_takeBack hΩ) rfl rfl ((hΩ _ _ _ _ _ _ _ _ _ _ _ _ _ _ _).1) rfl rfl ?_
  refine G_iload_n dX4_daysUntil_36 rfl ?_
  refine G_sipush (v := 200) dX4_daysUntil_37 (by decide) ?_
  refine G_icmp_leN (a := K) (c := 200) 47 dX4_daysUntil_40 (by decide) (by omega) (fun c40 => ?_) (fun c40 => ?_)
  · refine G_iload_n dX4_daysUntil_47 rfl ?_
    exact G_iret dX4_daysUntil_48 ⟨Nat.zero_le _, Nat.zero_le _⟩ (X_i (by rw [s_until, ← eK, if_neg (by omega)]))
  · refine G_iconst (v := (-1)) dX4_daysUntil_43 (by decide) ?_
    refine G_goto 48 dX4_daysUntil_44 (by decide) ?_
    exact G_iret dX4_daysUntil_48 ⟨Nat.zero_le _, Nat.zero_le _⟩ (X_i (by rw [s_until, ← eK, if_pos (by omega)]))
theorem m_homeWith (hΩ : MV mp p1 p2 p3 p5 p7 Ω) {th hs sg fi se t3 : Int32} {f sp sv sn bf : mj_S} {m ln i : Nat} {hh : Int64} {D : Nat} (ho : oA f D) (hv : vt f) (hD : D < 2147479000) {c h b : Nat} (hc : c < 6) (hh5 : h < 5) (hb : b < 4) : MC l yX4_homeWith wsX4_homeWith rmX4_homeWith false [.ref mp, .int (nI (c)), .int (nI (h)), .int (nI (b))] (Ω th f sp sv m sn hs bf ln i sg fi se t3 hh) (some (.int (s_home f c h b))) (Ω th f f sv m sn hs bf ln i sg fi se t3 hh) := by
  refine mj_MC (cc := cX4_homeWith) (nl := 5) (ret := (some .int)) (plainFor_of_name (by decide)) rfl (⟨_, rfl, rfl⟩) (Nat.le_of_ble_eq_true rfl) ?_
  show GG l cX4_homeWith MX4_homeWith false (.inl ((some (.int (s_home f c h b))), Ω th f f sv m sn hs bf ln i sg fi se t3 hh)) 0 [some (.ref mp), some (.int (nI (c))), some (.int (nI (h))), some (.int (nI (b))), none] [] (Ω th f sp sv m sn hs bf ln i sg fi se t3 hh) 0 0
  refine G_aload_n dX4_homeWith_0 rfl ?_
  refine G_callVv dX4_homeWith_1 kX4_homeWith_X4_putAside ⟨rfl, rfl⟩ ⟨Nat.zero_le _, Nat.zero_le _⟩ (m_putAside hΩ) rfl rfl ((hΩ _ _ _ _ _ _ _ _ _ _ _ _ _ _ _).1) rfl rfl ?_
  refine G_aload_n dX4_homeWith_4 rfl ?_
  refine G_iload_n dX4_homeWith_5 rfl ?_
  refine G_iload_n dX4_homeWith_6 rfl ?_
  refine G_iload_n dX4_homeWith_7 rfl ?_
  refine G_callVv dX4_homeWith_8 kX4_homeWith_X4_setToWork ⟨rfl, rfl⟩ ⟨Nat.zero_le _, Nat.zero_le _⟩ (m_setToWork (hΩ.fv th f sv m sn hs bf ln i sg fi se t3 hh) (c := c) (by omega)) rfl rfl ((hΩ _ _ _ _ _ _ _ _ _ _ _ _ _ _ _).1) rfl rfl ?_
  have ho1 := oA_setw ho hc (Or.inr ⟨h, b, hh5, hb, rfl, rfl⟩)
  have hv1 := vt_setw (u := nI h) (v := nI b) hc hv
  refine G_aload_n dX4_homeWith_11 rfl ?_
  refine G_bipush (v := 20) dX4_homeWith_12 (by decide) ?_
  refine G_callVi dX4_homeWith_14 kX4_homeWith_X4_passes ⟨rfl, rfl⟩ ⟨Nat.zero_le _, Nat.zero_le _⟩ (m_passes (hΩ.fv th f sv m sn hs bf ln i sg fi se t3 hh) (n := 20) ho1 hv1 (by omega)) rfl rfl ((hΩ _ _ _ _ _ _ _ _ _ _ _ _ _ _ _).1) rfl rfl ?_
  refine G_pop dX4_homeWith_17 rfl ?_
  refine G_aload_n dX4_homeWith_18 rfl ?_
  refine G_getf dX4_homeWith_19 fX4_homeWith_7 ((hΩ _ _ _ _ _ _ _ _ _ _ _ _ _ _ _).1) (rfl) ?_
  refine G_bipush (v := 15) dX4_homeWith_22 (by decide) ?_
  refine G_iload_n dX4_homeWith_24 rfl ?_
  refine G_iaddN (a := 15) (c := h) (s := 15 + h) dX4_homeWith_25 (by omega) ?_
  refine G_ialdN (j := 15 + h) dX4_homeWith_26 ((hΩ _ _ _ _ _ _ _ _ _ _ _ _ _ _ _).2.1) (by omega) ?_
  refine G_istore dX4_homeWith_27 rfl (L' := [some (.ref mp), some (.int (nI (c))), some (.int (nI (h))), some (.int (nI (b))), some (.int ((s_days (20) (s_setw f (c) (nI (h)) (nI (b)))).1 (15 + h)))]) rfl ?_
  refine G_aload_n dX4_homeWith_29 rfl ?_
  refine G_callVv dX4_homeWith_30 kX4_homeWith_X4_takeBack ⟨rfl, rfl⟩ ⟨Nat.zero_le _, Nat.zero_le _⟩ (m_takeBack hΩ) rfl rfl ((hΩ _ _ _ _ _ _ _ _ _ _ _ _ _ _ _).1) rfl rfl ?_
  refine G_iload dX4_homeWith_33 rfl ?_
  exact G_iret dX4_homeWith_35 ⟨Nat.zero_le _, Nat.zero_le _⟩ (rfl)
theorem ml_best (hΩ : MV mp p1 p2 p3 p5 p7 Ω) {th hs sg fi se t3 : Int32} {f sv sn bf : mj_S} {m ln i : Nat} {hh : Int64} {D : Nat} (ho : oA f D) (hv : vt f) (hD : D < 2147479000) {k h : Nat} (hk : k < 6) (hh5 : h < 5) {res : Int32 × Int32} {sp1 : mj_S} : ∀ (d c : Nat) (best most : Int32) (sp : mj_S) (y6 y7 : Option Value), c + d = 4 → res = itr (s_best1 f k h) d c (best, most) → sp1 = itr (s_bsp1 f h) d c sp → GG l cX4_bestFor MX4_bestFor false (.inl (some (.int res.1), Ω th f sp1 sv m sn hs bf ln i sg fi se t3 hh)) 8 [some (.ref mp), some (.int (nI (k))), some (.int (nI (h))), some (.int best), some (.int most), some (.int (nI (c))), y6, y7] [] (Ω th f sp sv m sn hs bf ln i sg fi se t3 hh) 0 0
  | 0, c, best, most, sp, y6, y7, hc, hr, hq => by
    refine G_iload dX4_bestFor_8 rfl ?_
    refine G_iconst (v := 4) dX4_bestFor_10 (by decide) ?_
    refine G_icmp_geN (a := c) (c := 4) 85 dX4_bestFor_11 (by decide) (by omega) (fun c11 => ?_) (fun c11 => ?_)
    · refine G_iload_n dX4_bestFor_85 rfl ?_
      exact G_iret dX4_bestFor_86 ⟨Nat.zero_le _, Nat.zero_le _⟩ (by rw [hr, hq, itr_0, itr_0])
    · exact (show False by omega).elim
  | d + 1, c, best, most, sp, y6, y7, hc, hr, hq => by
    refine G_iload dX4_bestFor_8 rfl ?_
    refine G_iconst (v := 4) dX4_bestFor_10 (by decide) ?_
    refine G_icmp_geN (a := c) (c := 4) 85 dX4_bestFor_11 (by decide) (by omega) (fun c11 => ?_) (fun c11 => ?_)
    · exact (show False by omega).elim
    · refine G_aload_n dX4_bestFor_14 rfl ?_
      refine G_iload_n dX4_bestFor_15 rfl ?_
      refine G_iload dX4_bestFor_16 rfl ?_
      refine G_callVi dX4_bestFor_18 kX4_bestFor_X4_reason ⟨rfl, rfl⟩ ⟨Nat.zero_le _, Nat.zero_le _⟩ (m_reason (hΩ.fv th sp sv m sn hs bf ln i sg fi se t3 hh) (h := h) (b := c) (by omega) (by omega)) rfl rfl ((hΩ _ _ _ _ _ _ _ _ _ _ _ _ _ _ _).1) rfl rfl ?_
      refine G_if_ne 79 dX4_bestFor_21 (by decide) (fun c21 => ?_) (fun c21 => ?_)
      · refine G_iincN (a := c) (s := c + 1) dX4_bestFor_79 rfl (by omega) (L' := [some (.ref mp), some (.int (nI (k))), some (.int (nI (h))), some (.int best), some (.int most), some (.int (nI (c + 1))), y6, y7]) rfl ?_
        refine G_goto 8 dX4_bestFor_82 (by decide) ?_
        exact ml_best hΩ ho hv hD hk hh5 d (c + 1) _ _ _ _ _ (by omega) (by rw [hr, itr_s, s_best1, if_neg c21]) (by rw [hq, itr_s, s_bsp1, if_neg c21])
      · refine G_aload_n dX4_bestFor_24 rfl ?_
        refine G_iload_n dX4_bestFor_25 rfl ?_
        refine G_iload_n dX4_bestFor_26 rfl ?_
        refine G_iload dX4_bestFor_27 rfl ?_
        refine G_callVi dX4_bestFor_29 kX4_bestFor_X4_homeWith ⟨rfl, rfl⟩ ⟨Nat.zero_le _, Nat.zero_le _⟩ (m_homeWith hΩ ho hv (by omega) (c := k) (h := h) (b := c) (by omega) (by omega) (by omega)) rfl rfl ((hΩ _ _ _ _ _ _ _ _ _ _ _ _ _ _ _).1) rfl rfl ?_
        refine G_istore dX4_bestFor_32 rfl (L' := [some (.ref mp), some (.int (nI (k))), some (.int (nI (h))), some (.int best), some (.int most), some (.int (nI (c))), some (.int (s_home f (k) (h) (c))), y7]) rfl ?_
        refine G_iload_n dX4_bestFor_34 rfl ?_
        refine G_iconst (v := (-1)) dX4_bestFor_35 (by decide) ?_
        refine G_icmp_eq 46 dX4_bestFor_36 (by decide) (fun c36 => ?_) (fun c36 => ?_)
        · refine G_iconst (v := 1) dX4_bestFor_46 (by decide) ?_
          refine G_goto 51 dX4_bestFor_47 (by decide) ?_
          refine G_istore dX4_bestFor_51 rfl (L' := [some (.ref mp), some (.int (nI (k))), some (.int (nI (h))), some (.int best), some (.int most), some (.int (nI (c))), some (.int (s_home f (k) (h) (c))), some (.int 1)]) rfl ?_
          refine G_iload dX4_bestFor_53 rfl ?_
          refine G_if_eqN (a := 1) 63 dX4_bestFor_55 (by decide) (by omega) (fun c55 => ?_) (fun c55 => ?_)
          · exact (show False by omega).elim
          · refine G_iload dX4_bestFor_58 rfl ?_
            refine G_goto 64 dX4_bestFor_60 (by decide) ?_
            refine G_istore_n dX4_bestFor_64 rfl (L' := [some (.ref mp), some (.int (nI (k))), some (.int (nI (h))), some (.int (nI (c))), some (.int most), some (.int (nI (c))), some (.int (s_home f (k) (h) (c))), some (.int 1)]) rfl ?_
            refine G_iload dX4_bestFor_65 rfl ?_
            refine G_if_eqN (a := 1) 75 dX4_bestFor_67 (by decide) (by omega) (fun c67 => ?_) (fun c67 => ?_)
            · exact (show False by omega).elim
            · refine G_iload dX4_bestFor_70 rfl ?_
              refine G_goto 77 dX4_bestFor_72 (by decide) ?_
              refine G_istore dX4_bestFor_77 rfl (L' := [some (.ref mp), some (.int (nI (k))), some (.int (nI (h))), some (.int (nI (c))), some (.int (s_home f (k) (h) (c))), some (.int (nI (c))), some (.int (s_home f (k) (h) (c))), some (.int 1)]) rfl ?_
              refine G_iincN (a := c) (s := c + 1) dX4_bestFor_79 rfl (by omega) (L' := [some (.ref mp), some (.int (nI (k))), some (.int (nI (h))), some (.int (nI (c))), some (.int (s_home f (k) (h) (c))), some (.int (nI (c + 1))), some (.int (s_home f (k) (h) (c))), some (.int 1)]) rfl ?_
              refine G_goto 8 dX4_bestFor_82 (by decide) ?_
              exact ml_best hΩ ho hv hD hk hh5 d (c + 1) _ _ _ _ _ (by omega) (by rw [hr, itr_s, s_best1, if_pos c21, if_pos (Or.inl c36)]) (by rw [hq, itr_s, s_bsp1, if_pos c21])
        · refine G_iload dX4_bestFor_39 rfl ?_
          refine G_iload dX4_bestFor_41 rfl ?_
          refine G_icmp_le 50 dX4_bestFor_43 (by decide) (fun c43 => ?_) (fun c43 => ?_)
          · refine G_iconst (v := 0) dX4_bestFor_50 (by decide) ?_
            refine G_istore dX4_bestFor_51 rfl (L' := [some (.ref mp), some (.int (nI (k))), some (.int (nI (h))), some (.int best), some (.int most), some (.int (nI (c))), some (.int (s_home f (k) (h) (c))), some (.int 0)]) rfl ?_
            refine G_iload dX4_bestFor_53 rfl ?_
            refine G_if_eqN (a := 0) 63 dX4_bestFor_55 (by decide) (by omega) (fun c55 => ?_) (fun c55 => ?_)
            · refine G_iload_n dX4_bestFor_63 rfl ?_
              refine G_istore_n dX4_bestFor_64 rfl (L' := [some (.ref mp), some (.int (nI (k))), some (.int (nI (h))), some (.int best), some (.int most), some (.int (nI (c))), some (.int (s_home f (k) (h) (c))), some (.int 0)]) rfl ?_
              refine G_iload dX4_bestFor_65 rfl ?_
              refine G_if_eqN (a := 0) 75 dX4_bestFor_67 (by decide) (by omega) (fun c67 => ?_) (fun c67 => ?_)
              · refine G_iload dX4_bestFor_75 rfl ?_
                refine G_istore dX4_bestFor_77 rfl (L' := [some (.ref mp), some (.int (nI (k))), some (.int (nI (h))), some (.int best), some (.int most), some (.int (nI (c))), some (.int (s_home f (k) (h) (c))), some (.int 0)]) rfl ?_
                refine G_iincN (a := c) (s := c + 1) dX4_bestFor_79 rfl (by omega) (L' := [some (.ref mp), some (.int (nI (k))), some (.int (nI (h))), some (.int best), some (.int most), some (.int (nI (c + 1))), some (.int (s_home f (k) (h) (c))), some (.int 0)]) rfl ?_
                refine G_goto 8 dX4_bestFor_82 (by decide) ?_
                exact ml_best hΩ ho hv hD hk hh5 d (c + 1) _ _ _ _ _ (by omega) (by rw [hr, itr_s, s_best1, if_pos c21, if_neg (fun z => z.elim c36 (Int32.not_lt.mpr c43))]) (by rw [hq, itr_s, s_bsp1, if_pos c21])
              · exact (show False by omega).elim
            · exact (show False by omega).elim
          · refine G_iconst (v := 1) dX4_bestFor_46 (by decide) ?_
            refine G_goto 51 dX4_bestFor_47 (by decide) ?_
            refine G_istore dX4_bestFor_51 rfl (L' := [some (.ref mp), some (.int (nI (k))), some (.int (nI (h))), some (.int best), some (.int most), some (.int (nI (c))), some (.int (s_home f (k) (h) (c))), some (.int 1)]) rfl ?_
            refine G_iload dX4_bestFor_53 rfl ?_
            refine G_if_eqN (a := 1) 63 dX4_bestFor_55 (by decide) (by omega) (fun c55 => ?_) (fun c55 => ?_)
            · exact (show False by omega).elim
            · refine G_iload dX4_bestFor_58 rfl ?_
              refine G_goto 64 dX4_bestFor_60 (by decide) ?_
              refine G_istore_n dX4_bestFor_64 rfl (L' := [some (.ref mp), some (.int (nI (k))), some (.int (nI (h))), some (.int (nI (c))), some (.int most), some (.int (nI (c))), some (.int (s_home f (k) (h) (c))), some (.int 1)]) rfl ?_
              refine G_iload dX4_bestFor_65 rfl ?_
              refine G_if_eqN (a := 1) 75 dX4_bestFor_67 (by decide) (by omega) (fun c67 => ?_) (fun c67 => ?_)
              · exact (show False by omega).elim
              · refine G_iload dX4_bestFor_70 rfl ?_
                refine G_goto 77 dX4_bestFor_72 (by decide) ?_
                refine G_istore dX4_bestFor_77 rfl (L' := [some (.ref mp), some (.int (nI (k))), some (.int (nI (h))), some (.int (nI (c))), some (.int (s_home f (k) (h) (c))), some (.int (nI (c))), some (.int (s_home f (k) (h) (c))), some (.int 1)]) rfl ?_
                refine G_iincN (a := c) (s := c + 1) dX4_bestFor_79 rfl (by omega) (L' := [some (.ref mp), some (.int (nI (k))), some (.int (nI (h))), some (.int (nI (c))), some (.int (s_home f (k) (h) (c))), some (.int (nI (c + 1))), some (.int (s_home f (k) (h) (c))), some (.int 1)]) rfl ?_
                refine G_goto 8 dX4_bestFor_82 (by decide) ?_
                exact ml_best hΩ ho hv hD hk hh5 d (c + 1) _ _ _ _ _ (by omega) (by rw [hr, itr_s, s_best1, if_pos c21, if_pos (Or.inr (Int32.not_le.mp c43))]) (by rw [hq, itr_s, s_bsp1, if_pos c21])
theorem m_bestFor (hΩ : MV mp p1 p2 p3 p5 p7 Ω) {th hs sg fi se t3 : Int32} {f sp sv sn bf : mj_S} {m ln i : Nat} {hh : Int64} {D : Nat} (ho : oA f D) (hv : vt f) (hD : D < 2147479000) {k h : Nat} (hk : k < 6) (hh5 : h < 5) : MC l yX4_bestFor wsX4_bestFor rmX4_bestFor false [.ref mp, .int (nI (k)), .int (nI (h))] (Ω th f sp sv m sn hs bf ln i sg fi se t3 hh) (some (.int (s_best f k h))) (Ω th f (s_bsp f h sp) sv m sn hs bf ln i sg fi se t3 hh) := by
  refine mj_MC (cc := cX4_bestFor) (nl := 8) (ret := (some .int)) (plainFor_of_name (by decide)) rfl (⟨_, rfl, rfl⟩) (Nat.le_of_ble_eq_true rfl) ?_
  show GG l cX4_bestFor MX4_bestFor false (.inl ((some (.int (s_best f k h))), Ω th f (s_bsp f h sp) sv m sn hs bf ln i sg fi se t3 hh)) 0 [some (.ref mp), some (.int (nI (k))), some (.int (nI (h))), none, none, none, none, none] [] (Ω th f sp sv m sn hs bf ln i sg fi se t3 hh) 0 0
  refine G_iconst (v := (-1)) dX4_bestFor_0 (by decide) ?_
  refine G_istore_n dX4_bestFor_1 rfl (L' := [some (.ref mp), some (.int (nI (k))), some (.int (nI (h))), some (.int (-1)), none, none, none, none]) rfl ?_
  refine G_iconst (v := 0) dX4_bestFor_2 (by decide) ?_
  refine G_istore dX4_bestFor_3 rfl (L' := [some (.ref mp), some (.int (nI (k))), some (.int (nI (h))), some (.int (-1)), some (.int 0), none, none, none]) rfl ?_
  refine G_iconst (v := 0) dX4_bestFor_5 (by decide) ?_
  refine G_istore dX4_bestFor_6 rfl (L' := [some (.ref mp), some (.int (nI (k))), some (.int (nI (h))), some (.int (-1)), some (.int 0), some (.int 0), none, none]) rfl ?_
  exact ml_best hΩ ho hv hD hk hh5 4 0 (-1) 0 sp _ _ (by omega) rfl rfl
end RD

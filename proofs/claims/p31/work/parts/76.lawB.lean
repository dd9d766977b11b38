/-! THE LAW'S DAY -/
section LB
variable {l : Launch} {w : mj_W} {Ψ : mj_S → mj_W}
theorem upd3 {f : mj_S} {a b c : Nat} {A B C : Int32} (h1 : a ≠ b) (h2 : a ≠ c) (h3 : b ≠ c) : upd (upd (upd f a A) b B) c C = upd (upd (upd f c C) b B) a A := by
  rw [upd_comm (f := f) h1, upd_comm h2, upd_comm h3]
theorem upd3r {f : mj_S} {a b c : Nat} {A B C : Int32} (h1 : a ≠ b) (h2 : a ≠ c) : upd (upd (upd f a A) b B) c C = upd (upd (upd f b B) c C) a A := by
  rw [upd_comm (f := f) h1, upd_comm h2]
theorem lq_weather (hΨ : HV Ψ) {r : Nat} (hr9 : r ≤ 9) {res : mj_S} : ∀ (d c : Nat) (f : mj_S) (z5 : Option Value), c + d = 20 → vt f → res = itr (fun p a => if 6 < r then s_soak p a else if r < 4 then s_dry p a else a) d c f → GG l cL_weather ML_weather false (.inl (none, Ψ res)) 3 [some (.int (nI (r))), some (.ref 14), some (.ref 15), some (.ref 16), some (.int (nI (c))), z5] [] (Ψ f) 0 0
  | 0, c, f, z5, hc, hv, hr => by
    refine G_iload dL_weather_3 rfl ?_
    refine G_bipush (v := 20) dL_weather_5 (by decide) ?_
    refine G_icmp_geN (a := c) (c := 20) 149 dL_weather_7 (by decide) (by omega) (fun c7 => ?_) (fun c7 => ?_)
    · exact G_vret dL_weather_149 ⟨Nat.zero_le _, Nat.zero_le _⟩ (by rw [hr, itr_0])
    · exact (show False by omega).elim
  | d + 1, c, f, z5, hc, hv, hr => by
    obtain ⟨x, y, z, u, ex, ey, ez, eu, hxs⟩ := hv c (by omega)
    refine G_iload dL_weather_3 rfl ?_
    refine G_bipush (v := 20) dL_weather_5 (by decide) ?_
    refine G_icmp_geN (a := c) (c := 20) 149 dL_weather_7 (by decide) (by omega) (fun c7 => ?_) (fun c7 => ?_)
    · exact (show False by omega).elim
    · refine G_iload_n dL_weather_10 rfl ?_
      refine G_bipush (v := 7) dL_weather_11 (by decide) ?_
      refine G_icmp_ltN (a := r) (c := 7) 66 dL_weather_13 (by decide) (by omega) (fun c13 => ?_) (fun c13 => ?_)
      · refine G_iload_n dL_weather_66 rfl ?_
        refine G_iconst (v := 3) dL_weather_67 (by decide) ?_
        refine G_icmp_gtN (a := r) (c := 3) 143 dL_weather_68 (by decide) (by omega) (fun c68 => ?_) (fun c68 => ?_)
        · refine G_iincN (a := c) (s := c + 1) dL_weather_143 rfl (by omega) (L' := [some (.int (nI (r))), some (.ref 14), some (.ref 15), some (.ref 16), some (.int (nI (c + 1))), z5]) rfl ?_
          refine G_goto 3 dL_weather_146 (by decide) ?_
          exact lq_weather hΨ hr9 d (c + 1) f _ (by omega) hv (by rw [hr, itr_s]; (try dsimp only); rw [if_neg (show ¬ 6 < r by omega), if_neg (show ¬ r < 4 by omega)])
        · have K101 : ∀ m : Int32, m = mn (f (93 + c) / 3 + 1) (f (93 + c)) → GG l cL_weather ML_weather false (.inl (none, Ψ res)) 101 [some (.int (nI (r))), some (.ref 14), some (.ref 15), some (.ref 16), some (.int (nI (c))), z5] [.int m] (Ψ f) 0 0 := by
            intro m em
            refine G_istore dL_weather_101 rfl (L' := [some (.int (nI (r))), some (.ref 14), some (.ref 15), some (.ref 16), some (.int (nI (c))), some (.int m)]) rfl ?_
            refine G_aload_n dL_weather_103 rfl ?_
            refine G_iload dL_weather_104 rfl ?_
            refine G_dup2 dL_weather_106 rfl rfl ?_
            refine G_ialdN (j := c) dL_weather_107 ((hΨ f).1.2.2.2.2.2.1) (by omega) ?_
            refine G_eqi (rdB (by omega) (by omega) : _ = f (113 + c)) ?_
            refine G_iload dL_weather_108 rfl ?_
            refine G_iadd dL_weather_110 ?_
            obtain ⟨f1, ef1⟩ : ∃ z : mj_S, z = upd f (113 + c) ((f (113 + c)) + m) := ⟨_, rfl⟩
            refine G_iastN (j := c) dL_weather_111 ((hΨ f).1.2.2.2.2.2.1) (by omega) (((hΨ f).2.2.2.2.2.2.2.1 _ _ _ (by omega) (by omega)).trans (congrArg Ψ ef1.symm)) ?_
            refine G_aload_n dL_weather_112 rfl ?_
            refine G_iload dL_weather_113 rfl ?_
            refine G_dup2 dL_weather_115 rfl rfl ?_
            refine G_ialdN (j := c) dL_weather_116 ((hΨ f1).1.2.2.2.2.1) (by omega) ?_
            refine G_eqi (rdB (by omega) (by omega) : _ = f1 (93 + c)) ?_
            refine G_aload_n dL_weather_117 rfl ?_
            refine G_iload dL_weather_118 rfl ?_
            refine G_ialdN (j := c) dL_weather_120 ((hΨ f1).1.2.2.2.1) (by omega) ?_
            refine G_eqi (rdB (by omega) (by omega) : _ = f1 (73 + c)) ?_
            refine G_callSi dL_weather_121 kL_weather_L_half ⟨rfl, rfl⟩ ⟨Nat.zero_le _, Nat.zero_le _⟩ (lm_half (show f1 (73 + c) = nI x from by rw [ef1, upd_n (by omega)]; exact ex) (by omega)) rfl rfl rfl ?_
            refine G_iload dL_weather_124 rfl ?_
            refine G_isub dL_weather_126 ?_
            refine G_iadd dL_weather_127 ?_
            obtain ⟨f2, ef2⟩ : ∃ z : mj_S, z = upd f1 (93 + c) ((f1 (93 + c)) + ((((f1 (73 + c)) + 1) / 2) - m)) := ⟨_, rfl⟩
            refine G_iastN (j := c) dL_weather_128 ((hΨ f1).1.2.2.2.2.1) (by omega) (((hΨ f1).2.2.2.2.2.2.1 _ _ _ (by omega) (by omega)).trans (congrArg Ψ ef2.symm)) ?_
            refine G_aload_n dL_weather_129 rfl ?_
            refine G_iload dL_weather_130 rfl ?_
            refine G_dup2 dL_weather_132 rfl rfl ?_
            refine G_ialdN (j := c) dL_weather_133 ((hΨ f2).1.2.2.2.1) (by omega) ?_
            refine G_eqi (rdB (by omega) (by omega) : _ = f2 (73 + c)) ?_
            refine G_aload_n dL_weather_134 rfl ?_
            refine G_iload dL_weather_135 rfl ?_
            refine G_ialdN (j := c) dL_weather_137 ((hΨ f2).1.2.2.2.1) (by omega) ?_
            refine G_eqi (rdB (by omega) (by omega) : _ = f2 (73 + c)) ?_
            refine G_callSi dL_weather_138 kL_weather_L_half ⟨rfl, rfl⟩ ⟨Nat.zero_le _, Nat.zero_le _⟩ (lm_half (show f2 (73 + c) = nI x from by rw [ef2, upd_n (by omega)]; rw [ef1, upd_n (by omega)]; exact ex) (by omega)) rfl rfl rfl ?_
            refine G_isub dL_weather_141 ?_
            obtain ⟨f3, ef3⟩ : ∃ z : mj_S, z = upd f2 (73 + c) ((f2 (73 + c)) - (((f2 (73 + c)) + 1) / 2)) := ⟨_, rfl⟩
            refine G_iastN (j := c) dL_weather_142 ((hΨ f2).1.2.2.2.1) (by omega) (((hΨ f2).2.2.2.2.2.1 _ _ _ (by omega) (by omega)).trans (congrArg Ψ ef3.symm)) ?_
            have q1 : f1 (93 + c) = f (93 + c) := by rw [ef1, upd_n (by omega)]
            have q1w : f1 (73 + c) = f (73 + c) := by rw [ef1, upd_n (by omega)]
            have q2 : f2 (73 + c) = f (73 + c) := by rw [ef2, upd_n (by omega), ef1, upd_n (by omega)]
            have hst : s_dry c f = f3 := by
              rw [ef3, q2, ef2, q1, q1w, ef1, s_dry, ← em, upd3 (f := f) (a := 113 + c) (show 113 + c ≠ 93 + c by omega) (show 113 + c ≠ 73 + c by omega) (show 93 + c ≠ 73 + c by omega), show f (93 + c) + ((f (73 + c) + 1) / 2 - m) = f (93 + c) - m + (f (73 + c) + 1) / 2 by grind]
            refine G_iincN (a := c) (s := c + 1) dL_weather_143 rfl (by omega) (L' := [some (.int (nI (r))), some (.ref 14), some (.ref 15), some (.ref 16), some (.int (nI (c + 1))), some (.int m)]) rfl ?_
            refine G_goto 3 dL_weather_146 (by decide) ?_
            exact lq_weather hΨ hr9 d (c + 1) f3 _ (by omega) (hst ▸ vt_dry (by omega) hv) (by rw [hr, itr_s]; (try dsimp only); rw [if_neg (show ¬ 6 < r by omega), if_pos (show r < 4 by omega), hst])
          refine G_aload_n dL_weather_71 rfl ?_
          refine G_iload dL_weather_72 rfl ?_
          refine G_ialdN (j := c) dL_weather_74 ((hΨ f).1.2.2.2.2.1) (by omega) ?_
          refine G_eqi (rdB (by omega) (by omega) : _ = f (93 + c)) ?_
          refine G_iconst (v := 3) dL_weather_75 (by decide) ?_
          refine G_idiv dL_weather_76 (by decide) ?_
          refine G_iconst (v := 1) dL_weather_77 (by decide) ?_
          refine G_iadd dL_weather_78 ?_
          refine G_aload_n dL_weather_79 rfl ?_
          refine G_iload dL_weather_80 rfl ?_
          refine G_ialdN (j := c) dL_weather_82 ((hΨ f).1.2.2.2.2.1) (by omega) ?_
          refine G_eqi (rdB (by omega) (by omega) : _ = f (93 + c)) ?_
          refine G_icmp_le 93 dL_weather_83 (by decide) (fun c83 => ?_) (fun c83 => ?_)
          · refine G_aload_n dL_weather_93 rfl ?_
            refine G_iload dL_weather_94 rfl ?_
            refine G_ialdN (j := c) dL_weather_96 ((hΨ f).1.2.2.2.2.1) (by omega) ?_
            refine G_eqi (rdB (by omega) (by omega) : _ = f (93 + c)) ?_
            refine G_iconst (v := 3) dL_weather_97 (by decide) ?_
            refine G_idiv dL_weather_98 (by decide) ?_
            refine G_iconst (v := 1) dL_weather_99 (by decide) ?_
            refine G_iadd dL_weather_100 ?_
            exact K101 _ (mn_le c83)
          · refine G_aload_n dL_weather_86 rfl ?_
            refine G_iload dL_weather_87 rfl ?_
            refine G_ialdN (j := c) dL_weather_89 ((hΨ f).1.2.2.2.2.1) (by omega) ?_
            refine G_eqi (rdB (by omega) (by omega) : _ = f (93 + c)) ?_
            refine G_goto 101 dL_weather_90 (by decide) ?_
            exact K101 _ (mn_gt c83)
      · refine G_aload_n dL_weather_16 rfl ?_
        refine G_iload dL_weather_17 rfl ?_
        refine G_dup2 dL_weather_19 rfl rfl ?_
        refine G_ialdN (j := c) dL_weather_20 ((hΨ f).1.2.2.2.1) (by omega) ?_
        refine G_eqi (rdB (by omega) (by omega) : _ = f (73 + c)) ?_
        refine G_aload_n dL_weather_21 rfl ?_
        refine G_iload dL_weather_22 rfl ?_
        refine G_ialdN (j := c) dL_weather_24 ((hΨ f).1.2.2.2.2.2.1) (by omega) ?_
        refine G_eqi (rdB (by omega) (by omega) : _ = f (113 + c)) ?_
        refine G_callSi dL_weather_25 kL_weather_L_half ⟨rfl, rfl⟩ ⟨Nat.zero_le _, Nat.zero_le _⟩ (lm_half (show f (113 + c) = nI z from by exact ez) (by omega)) rfl rfl rfl ?_
        refine G_aload_n dL_weather_28 rfl ?_
        refine G_iload dL_weather_29 rfl ?_
        refine G_ialdN (j := c) dL_weather_31 ((hΨ f).1.2.2.2.2.1) (by omega) ?_
        refine G_eqi (rdB (by omega) (by omega) : _ = f (93 + c)) ?_
        refine G_callSi dL_weather_32 kL_weather_L_half ⟨rfl, rfl⟩ ⟨Nat.zero_le _, Nat.zero_le _⟩ (lm_half (show f (93 + c) = nI y from by exact ey) (by omega)) rfl rfl rfl ?_
        refine G_iadd dL_weather_35 ?_
        refine G_iadd dL_weather_36 ?_
        obtain ⟨f1, ef1⟩ : ∃ z : mj_S, z = upd f (73 + c) ((f (73 + c)) + ((((f (113 + c)) + 1) / 2) + (((f (93 + c)) + 1) / 2))) := ⟨_, rfl⟩
        refine G_iastN (j := c) dL_weather_37 ((hΨ f).1.2.2.2.1) (by omega) (((hΨ f).2.2.2.2.2.1 _ _ _ (by omega) (by omega)).trans (congrArg Ψ ef1.symm)) ?_
        refine G_aload_n dL_weather_38 rfl ?_
        refine G_iload dL_weather_39 rfl ?_
        refine G_dup2 dL_weather_41 rfl rfl ?_
        refine G_ialdN (j := c) dL_weather_42 ((hΨ f1).1.2.2.2.2.2.1) (by omega) ?_
        refine G_eqi (rdB (by omega) (by omega) : _ = f1 (113 + c)) ?_
        refine G_aload_n dL_weather_43 rfl ?_
        refine G_iload dL_weather_44 rfl ?_
        refine G_ialdN (j := c) dL_weather_46 ((hΨ f1).1.2.2.2.2.2.1) (by omega) ?_
        refine G_eqi (rdB (by omega) (by omega) : _ = f1 (113 + c)) ?_
        refine G_callSi dL_weather_47 kL_weather_L_half ⟨rfl, rfl⟩ ⟨Nat.zero_le _, Nat.zero_le _⟩ (lm_half (show f1 (113 + c) = nI z from by rw [ef1, upd_n (by omega)]; exact ez) (by omega)) rfl rfl rfl ?_
        refine G_isub dL_weather_50 ?_
        obtain ⟨f2, ef2⟩ : ∃ z : mj_S, z = upd f1 (113 + c) ((f1 (113 + c)) - (((f1 (113 + c)) + 1) / 2)) := ⟨_, rfl⟩
        refine G_iastN (j := c) dL_weather_51 ((hΨ f1).1.2.2.2.2.2.1) (by omega) (((hΨ f1).2.2.2.2.2.2.2.1 _ _ _ (by omega) (by omega)).trans (congrArg Ψ ef2.symm)) ?_
        refine G_aload_n dL_weather_52 rfl ?_
        refine G_iload dL_weather_53 rfl ?_
        refine G_dup2 dL_weather_55 rfl rfl ?_
        refine G_ialdN (j := c) dL_weather_56 ((hΨ f2).1.2.2.2.2.1) (by omega) ?_
        refine G_eqi (rdB (by omega) (by omega) : _ = f2 (93 + c)) ?_
        refine G_aload_n dL_weather_57 rfl ?_
        refine G_iload dL_weather_58 rfl ?_
        refine G_ialdN (j := c) dL_weather_60 ((hΨ f2).1.2.2.2.2.1) (by omega) ?_
        refine G_eqi (rdB (by omega) (by omega) : _ = f2 (93 + c)) ?_
        refine G_callSi dL_weather_61 kL_weather_L_half ⟨rfl, rfl⟩ ⟨Nat.zero_le _, Nat.zero_le _⟩ (lm_half (show f2 (93 + c) = nI y from by rw [ef2, upd_n (by omega)]; rw [ef1, upd_n (by omega)]; exact ey) (by omega)) rfl rfl rfl ?_
        refine G_isub dL_weather_64 ?_
        obtain ⟨f3, ef3⟩ : ∃ z : mj_S, z = upd f2 (93 + c) ((f2 (93 + c)) - (((f2 (93 + c)) + 1) / 2)) := ⟨_, rfl⟩
        refine G_iastN (j := c) dL_weather_65 ((hΨ f2).1.2.2.2.2.1) (by omega) (((hΨ f2).2.2.2.2.2.2.1 _ _ _ (by omega) (by omega)).trans (congrArg Ψ ef3.symm)) ?_
        have q1 : f1 (113 + c) = f (113 + c) := by rw [ef1, upd_n (by omega)]
        have q2 : f2 (93 + c) = f (93 + c) := by rw [ef2, upd_n (by omega), ef1, upd_n (by omega)]
        have hst : s_soak c f = f3 := by rw [ef3, q2, ef2, q1, ef1, s_soak]; exact (upd3r (by omega) (by omega)).symm
        refine G_iload_n dL_weather_66 rfl ?_
        refine G_iconst (v := 3) dL_weather_67 (by decide) ?_
        refine G_icmp_gtN (a := r) (c := 3) 143 dL_weather_68 (by decide) (by omega) (fun c68 => ?_) (fun c68 => ?_)
        · refine G_iincN (a := c) (s := c + 1) dL_weather_143 rfl (by omega) (L' := [some (.int (nI (r))), some (.ref 14), some (.ref 15), some (.ref 16), some (.int (nI (c + 1))), z5]) rfl ?_
          refine G_goto 3 dL_weather_146 (by decide) ?_
          exact lq_weather hΨ hr9 d (c + 1) f3 _ (by omega) (hst ▸ vt_soak (by omega) hv) (by rw [hr, itr_s]; (try dsimp only); rw [if_pos (show 6 < r by omega), hst])
        · exact (show False by omega).elim
theorem wth_itr {r : Nat} (f : mj_S) : itr (fun p a => if 6 < r then s_soak p a else if r < 4 then s_dry p a else a) 20 0 f = s_wth r f := by
  have h0 : ∀ d c (a : mj_S), itr (fun _ a => a) d c a = a := by
    intro d
    induction d with
    | zero => intro c a; rfl
    | succ d ih => intro c a; exact ih (c + 1) a
  unfold s_wth
  by_cases h1 : 6 < r
  · simp only [if_pos h1]
  · simp only [if_neg h1]
    by_cases h2 : r < 4
    · simp only [if_pos h2]
    · simp only [if_neg h2]
      exact h0 20 0 f
theorem lm_weather (hΨ : HV Ψ) {f : mj_S} {r : Nat} (hr9 : r ≤ 9) (hv : vt f) : MC l yL_weather wsL_weather rmL_weather false [.int (nI (r)), .ref 14, .ref 15, .ref 16] (Ψ f) none (Ψ (s_wth r f)) := by
  refine mj_MC (cc := cL_weather) (nl := 6) (ret := none) (plainFor_of_name (by decide)) rfl (rfl) (Nat.le_of_ble_eq_true rfl) ?_
  show GG l cL_weather ML_weather false (.inl (none, Ψ (s_wth r f))) 0 [some (.int (nI (r))), some (.ref 14), some (.ref 15), some (.ref 16), none, none] [] (Ψ f) 0 0
  refine G_iconst (v := 0) dL_weather_0 (by decide) ?_
  refine G_istore dL_weather_1 rfl (L' := [some (.int (nI (r))), some (.ref 14), some (.ref 15), some (.ref 16), some (.int 0), none]) rfl ?_
  exact lq_weather hΨ hr9 20 0 f _ rfl hv (wth_itr f).symm
def s_pd (f : mj_S) : Nat → Int32 → Int32
  | 0, a => a
  | d + 1, a => s_pd f d (if f (5 + d) = 1 ∧ (a < 0 ∨ f (15 + d) ≤ f (15 + a.toNatClampNeg)) then nI d else a)
theorem s_pd_s (f : mj_S) (d : Nat) (a : Int32) : s_pd f (d + 1) a = s_pd f d (if f (5 + d) = 1 ∧ (a < 0 ∨ f (15 + d) ≤ f (15 + a.toNatClampNeg)) then nI d else a) := rfl
def xd : Nat → Int32
  | 0 => -1
  | d + 1 => nI d
theorem xd_dec (d : Nat) : nI d + Int32.ofInt (-1) = xd d := by
  cases d with
  | zero => decide
  | succ d => exact pk_m1 d
/-- a names the poorest widow among those that S says -/
def poorOf (f : mj_S) (S : Nat → Prop) (a : Int32) : Prop := (a = -1 ∧ ∀ h, S h → ¬ f (5 + h) = 1) ∨ ∃ v, v < 5 ∧ S v ∧ a = nI v ∧ f (5 + v) = 1 ∧ ∀ h, S h → f (5 + h) = 1 → f (15 + v) ≤ f (15 + h) ∧ (h < v → f (15 + v) < f (15 + h))
theorem poorOf_up {f : mj_S} {c : Nat} {a : Int32} (hc : c < 5) (h : poorOf f (fun h => h < c) a) : poorOf f (fun h => h < c + 1) (if f (5 + c) = 1 ∧ (a = -1 ∨ f (15 + c) < f (15 + a.toNatClampNeg)) then nI c else a) := by
  rcases h with ⟨e, h1⟩ | ⟨v, hv, hvc, e, hw, hm⟩
  · subst e
    by_cases hc1 : f (5 + c) = 1
    · rw [if_pos ⟨hc1, Or.inl rfl⟩]
      refine Or.inr ⟨c, hc, by omega, rfl, hc1, fun h hh hh1 => ?_⟩
      by_cases e : h = c
      · subst e
        exact ⟨Int32.le_refl _, fun q => absurd q (Nat.lt_irrefl _)⟩
      · exact absurd hh1 (h1 h (show h < c by omega))
    · rw [if_neg (fun q => hc1 q.1)]
      refine Or.inl ⟨rfl, fun h hh hh1 => ?_⟩
      by_cases e : h = c
      · subst e; exact hc1 hh1
      · exact h1 h (show h < c by omega) hh1
  · subst e
    rw [nI_clamp (show v < 2 ^ 31 by omega)]
    by_cases hc1 : f (5 + c) = 1 ∧ f (15 + c) < f (15 + v)
    · rw [if_pos ⟨hc1.1, Or.inr hc1.2⟩]
      refine Or.inr ⟨c, hc, by omega, rfl, hc1.1, fun h hh hh1 => ?_⟩
      by_cases e : h = c
      · subst e
        exact ⟨Int32.le_refl _, fun q => absurd q (Nat.lt_irrefl _)⟩
      · have q := (hm h (show h < c by omega) hh1).1
        have q2 := hc1.2
        rw [Int32.le_iff_toInt_le] at q
        rw [Int32.lt_iff_toInt_lt] at q2
        exact ⟨by rw [Int32.le_iff_toInt_le]; omega, fun _ => by rw [Int32.lt_iff_toInt_lt]; omega⟩
    · rw [if_neg (fun q => hc1 ⟨q.1, q.2.resolve_left (nI_m1 (by omega))⟩)]
      refine Or.inr ⟨v, hv, show v < c + 1 by have : v < c := hvc; omega, rfl, hw, fun h hh hh1 => ?_⟩
      by_cases e : h = c
      · subst e
        have q : ¬ f (15 + h) < f (15 + v) := fun q => hc1 ⟨hh1, q⟩
        exact ⟨Int32.not_lt.mp q, fun q2 => absurd q2 (by have : v < h := hvc; omega)⟩
      · exact hm h (show h < c by omega) hh1
theorem poorOf_dn {f : mj_S} {d : Nat} {a : Int32} (hd : d < 5) (h : poorOf f (fun h => d + 1 ≤ h ∧ h < 5) a) : poorOf f (fun h => d ≤ h ∧ h < 5) (if f (5 + d) = 1 ∧ (a < 0 ∨ f (15 + d) ≤ f (15 + a.toNatClampNeg)) then nI d else a) := by
  rcases h with ⟨e, h1⟩ | ⟨v, hv, hvc, e, hw, hm⟩
  · subst e
    by_cases hc1 : f (5 + d) = 1
    · rw [if_pos ⟨hc1, Or.inl m1_neg⟩]
      refine Or.inr ⟨d, hd, ⟨Nat.le_refl _, hd⟩, rfl, hc1, fun h hh hh1 => ?_⟩
      by_cases e : h = d
      · subst e
        exact ⟨Int32.le_refl _, fun q => absurd q (Nat.lt_irrefl _)⟩
      · exact absurd hh1 (h1 h ⟨by omega, hh.2⟩)
    · rw [if_neg (fun q => hc1 q.1)]
      refine Or.inl ⟨rfl, fun h hh hh1 => ?_⟩
      by_cases e : h = d
      · subst e; exact hc1 hh1
      · exact h1 h ⟨by omega, hh.2⟩ hh1
  · subst e
    rw [nI_clamp (show v < 2 ^ 31 by omega)]
    by_cases hc1 : f (5 + d) = 1 ∧ f (15 + d) ≤ f (15 + v)
    · rw [if_pos ⟨hc1.1, Or.inr hc1.2⟩]
      refine Or.inr ⟨d, hd, ⟨Nat.le_refl _, hd⟩, rfl, hc1.1, fun h hh hh1 => ?_⟩
      by_cases e : h = d
      · subst e
        exact ⟨Int32.le_refl _, fun q => absurd q (Nat.lt_irrefl _)⟩
      · exact ⟨Int32.le_trans hc1.2 (hm h ⟨by omega, hh.2⟩ hh1).1, fun q => absurd q (by omega)⟩
    · rw [if_neg (fun q => hc1 ⟨q.1, q.2.resolve_left (nI_pos (by omega))⟩)]
      refine Or.inr ⟨v, hv, ⟨by omega, hv⟩, rfl, hw, fun h hh hh1 => ?_⟩
      by_cases e : h = d
      · subst e
        have q : ¬ f (15 + h) ≤ f (15 + v) := fun q => hc1 ⟨hh1, q⟩
        have q2 := Int32.not_le.mp q
        exact ⟨by rw [Int32.le_iff_toInt_le]; rw [Int32.lt_iff_toInt_lt] at q2; omega, fun _ => q2⟩
      · exact hm h ⟨by omega, hh.2⟩ hh1
theorem poorOf_one {f : mj_S} {a b : Int32} (ha : poorOf f (fun h => h < 5) a) (hb : poorOf f (fun h => h < 5) b) : a = b := by
  rcases ha with ⟨e1, h1⟩ | ⟨v, hv, -, e1, hw1, hm1⟩
  · rcases hb with ⟨e2, h2⟩ | ⟨u, hu, -, e2, hw2, hm2⟩
    · rw [e1, e2]
    · exact absurd hw2 (h1 u hu)
  · rcases hb with ⟨e2, h2⟩ | ⟨u, hu, -, e2, hw2, hm2⟩
    · exact absurd hw1 (h2 v hv)
    · have q1 := hm1 u hu hw2
      have q2 := hm2 v hv hw1
      have q3 := q1.1
      have q4 := q2.1
      rw [Int32.le_iff_toInt_le] at q3 q4
      have e : u = v := by
        rcases Nat.lt_trichotomy u v with h | h | h
        · have := q1.2 h
          rw [Int32.lt_iff_toInt_lt] at this
          omega
        · exact h
        · have := q2.2 h
          rw [Int32.lt_iff_toInt_lt] at this
          omega
      rw [e1, e2, e]
theorem poor_go (f : mj_S) : ∀ (d c : Nat) (a : Int32), c + d ≤ 5 → poorOf f (fun h => h < c) a → poorOf f (fun h => h < c + d) (itr (fun h a => if f (5 + h) = 1 ∧ (a = -1 ∨ f (15 + h) < f (15 + a.toNatClampNeg)) then nI h else a) d c a)
  | 0, _, _, _, h => h
  | d + 1, c, a, hd, h => by
    rw [show c + (d + 1) = c + 1 + d by omega, itr_s]
    exact poor_go f d (c + 1) _ (by omega) (poorOf_up (by omega) h)
theorem poor_up (f : mj_S) : poorOf f (fun h => h < 5) (s_poor f) := poor_go f 5 0 (-1) (by omega) (Or.inl ⟨rfl, fun h hh => absurd hh (Nat.not_lt_zero h)⟩)
theorem pd_go (f : mj_S) : ∀ (d : Nat) (a : Int32), d ≤ 5 → poorOf f (fun h => d ≤ h ∧ h < 5) a → poorOf f (fun h => 0 ≤ h ∧ h < 5) (s_pd f d a)
  | 0, _, _, h => h
  | d + 1, a, hd, h => pd_go f d _ (by omega) (poorOf_dn (by omega) h)
theorem poorOf_iff {f : mj_S} {S T : Nat → Prop} {a : Int32} (h : ∀ x, S x ↔ T x) (hp : poorOf f S a) : poorOf f T a := by
  have e : S = T := funext fun x => propext (h x)
  rw [← e]
  exact hp
theorem pd_poor (f : mj_S) : s_pd f 5 (-1) = s_poor f := poorOf_one (poorOf_iff (fun x => ⟨fun q => q.2, fun q => ⟨Nat.zero_le x, q⟩⟩) (pd_go f 5 (-1) (Nat.le_refl _) (Or.inl ⟨rfl, fun h hh => absurd hh.1 (by omega)⟩))) (poor_up f)
theorem poor_home {f : mj_S} {k : Nat} {x : Int32} (hk : k < 5) (h : ¬ f (5 + k) = 1) : s_poor (upd f (15 + k) x) = s_poor f := by
  refine poorOf_one (poor_up _) ?_
  have h5 : ∀ j, j < 5 → upd f (15 + k) x (5 + j) = f (5 + j) := fun j hj => upd_n (by omega)
  have h15 : ∀ j, j ≠ k → upd f (15 + k) x (15 + j) = f (15 + j) := fun j hj => upd_n (by omega)
  rcases poor_up f with ⟨e, h1⟩ | ⟨v, hv, hvs, e, hw, hm⟩
  · exact Or.inl ⟨e, fun j hj => by rw [h5 j hj]; exact h1 j hj⟩
  · have hvk : v ≠ k := fun q => h (q ▸ hw)
    refine Or.inr ⟨v, hv, hvs, e, by rw [h5 v hv]; exact hw, fun j hj hj1 => ?_⟩
    have hj5 : j < 5 := hj
    rw [h5 j hj5] at hj1
    have hjk : j ≠ k := fun q => h (q ▸ hj1)
    rw [h15 v hvk, h15 j hjk]
    exact hm j hj hj1
end LB

/-! THE CLASS: the sum of all it tells -/
def s_rt1 (q f : mj_S) (h : Nat) (_ : mj_S) : mj_S := itr (s_btr1 q f 0 h) 4 0 (row q (s_und h 201 f))
def h_plot (f : mj_S) (h : Nat) (b : Nat) (a : Int64) : Int64 := itr (fun k a => mx (s_ofP f h b k) a) 5 0 a
def h_bank (q f : mj_S) (b : Nat) (a : Int64) : Int64 := itr (fun k a => mx (s_ofB q f b k) a) 5 0 a
def h_cut (f : mj_S) (c : Nat) (a : Int64) : Int64 := itr (fun k a => mx (f (133 + 6 * k + c)) a) 4 0 a
def h_hearth (f : mj_S) (h : Nat) (a : Int64) : Int64 := mx (s_best f 0 h) (mx (s_until f h) (itr (h_plot f h) 4 0 (itr (fun k a => mx (s_ofH f h k) a) 12 0 a)))
theorem nest45 (G : Nat → Nat → Int64 → Int64) (a : Int64) : itr (fun k a => G (k / 5) (k % 5) a) 20 0 a = itr (fun b a => itr (fun k a => G b k a) 5 0 a) 4 0 a := rfl
theorem nest64 (G : Nat → Nat → Int64 → Int64) (a : Int64) : itr (fun k a => G (k / 4) (k % 4) a) 24 0 a = itr (fun c a => itr (fun k a => G c k a) 4 0 a) 6 0 a := rfl
theorem h_hearth_g (f : mj_S) : h_hearth f = g_hearth f := by
  funext h a
  unfold h_hearth g_hearth h_plot
  rw [nest45 (fun b k a => mx (s_ofP f h b k) a)]
def h_a (f : mj_S) (m : Nat) : Int64 := itr (h_hearth f) 5 0 (itr (fun k a => mx (s_ofC f m k) a) 13 0 3739)
def h_b (q f : mj_S) (m : Nat) : Int64 := itr (h_cut f) 6 0 (itr (h_bank q f) 4 0 (h_a f m))
def h_c (q f : mj_S) (m : Nat) : Int64 := itr (fun k a => mx (s_would f 10 k) a) 3 0 (itr (fun k a => mx (nI (s_rain f k)) a) 10 0 (h_b q f m))
def h_d (q f : mj_S) (m : Nat) (bits : Int64) (bf : mj_S) (ln : Nat) : Int64 := itr (fun k a => mx (bf k) a) ln 0 (mx (nI ln) (31 * h_c q f m + bits))
theorem h_b_g (f : mj_S) (m : Nat) : h_b (s_com f) f m = g_b f m := by
  have e : h_a f m = g_a f m := by unfold h_a g_a; rw [h_hearth_g]
  unfold h_b g_b h_bank h_cut
  rw [e, nest45 (fun b k a => mx (s_ofB (s_com f) f b k) a), nest64 (fun c k a => mx (f (133 + 6 * k + c)) a)]
theorem h_d_g (f : mj_S) (m : Nat) (bits : Int64) (bf : mj_S) (ln : Nat) : h_d (s_com f) f m bits bf ln = g_d f m bits bf ln := by
  unfold h_d g_d h_c g_c
  rw [h_b_g]
section XC
variable {l : Launch} {xp lp ap tp up hp rp kp sp yp zp : Nat} {Ω : CT}
theorem x_countA (hΩ : CV xp lp ap tp up hp rp kp sp yp zp Ω) {q f rt R R1 g : mj_S} {T m T1 m1 n : Nat} {k : Nat} (hk : k < 13) : MC l yX3_count wsX3_count rmX3_count false [.ref xp, .int (nI (k))] (Ω (row q f) rt R T m R1 T1 m1 g n) (some (.int (s_ofC f m k))) (Ω (row q f) rt R T m R1 T1 m1 g n) := by
  unfold s_ofC
  by_cases h : k = 12
  · subst h; rw [if_pos rfl]; exact x_count12 hΩ
  · rw [if_neg h]; exact x_count hΩ (by omega)
theorem x_ifPassed (hΩ : CV xp lp ap tp up hp rp kp sp yp zp Ω) {q f rt R R1 g : mj_S} {T m T1 m1 n : Nat} {D : Nat} (ho : oA f D) (hv : vt f) (hD : D < 2147479000) {d : Nat} (hd : 1 ≤ d ∧ d ≤ 60) {k : Nat} (hk : k < 3) : MC l yX3_ifPassed wsX3_ifPassed rmX3_ifPassed false [.ref xp, .int (nI (d)), .int (nI (k))] (Ω (row q f) rt R T m R1 T1 m1 g n) (some (.int (s_would f d k))) (Ω (row q f) (row q (s_days d f).1) R T m R1 T1 m1 g n) := by
  rcases (show k = 0 ∨ k = 1 ∨ k = 2 by omega) with rfl | rfl | rfl
  · exact x_ifPassed0 hΩ ho hv hD hd
  · exact x_ifPassed1 hΩ ho hv hD hd
  · exact x_ifPassed2 hΩ ho hv hD hd
theorem xg1 (hΩ : CV xp lp ap tp up hp rp kp sp yp zp Ω) {q f rt R R1 g : mj_S} {T m T1 m1 n : Nat}  {X : mj_R} {R0 : Int64} (K : ∀ y z4 z5 : Option Value, GG l cX3_digest MX3_digest false X 31 [some (.ref xp), some (.long R0), none, y, z4, z5] [] (Ω (row q f) rt R T m R1 T1 m1 g n) 0 0) : ∀ (d c : Nat) (hh : Int64) (z4 : Option Value) (z5 : Option Value), c + d = 13 → R0 = itr (fun k a => mx (s_ofC f m k) a) d c hh → GG l cX3_digest MX3_digest false X 6 [some (.ref xp), some (.long hh), none, some (.int (nI (c))), z4, z5] [] (Ω (row q f) rt R T m R1 T1 m1 g n) 0 0
  | 0, c, hh, z4, z5, hc, hr => by
    refine G_iload_n dX3_digest_6 rfl ?_
    refine G_bipush (v := 12) dX3_digest_7 (by decide) ?_
    refine G_icmp_gtN (a := c) (c := 12) 31 dX3_digest_9 (by decide) (by omega) (fun c9 => ?_) (fun c9 => ?_)
    · rw [itr_0] at hr
      subst hr
      exact K _ _ _
    · exact (show False by omega).elim
  | d + 1, c, hh, z4, z5, hc, hr => by
    refine G_iload_n dX3_digest_6 rfl ?_
    refine G_bipush (v := 12) dX3_digest_7 (by decide) ?_
    refine G_icmp_gtN (a := c) (c := 12) 31 dX3_digest_9 (by decide) (by omega) (fun c9 => ?_) (fun c9 => ?_)
    · exact (show False by omega).elim
    · refine G_ldc2 (v := 31) dX3_digest_12 (by decide +kernel) ?_
      refine G_lload_n dX3_digest_15 rfl ?_
      refine G_lmul dX3_digest_16 ?_
      refine G_aload_n dX3_digest_17 rfl ?_
      refine G_iload_n dX3_digest_18 rfl ?_
      refine G_callVi dX3_digest_19 kX3_digest_X3_count ⟨rfl, rfl⟩ ⟨Nat.zero_le _, Nat.zero_le _⟩ (x_countA hΩ (k := c) (by omega)) rfl rfl (hΩ.1 _ _ _ _ _ _ _ _ _ _) rfl rfl ?_
      refine G_i2l dX3_digest_22 ?_
      refine G_ladd dX3_digest_23 ?_
      refine G_lstore_n dX3_digest_24 rfl (L' := [some (.ref xp), some (.long ((31 * hh) + ((s_ofC f m (c)) : Int32).toInt64)), none, some (.int (nI (c))), z4, z5]) rfl ?_
      refine G_iincN (a := c) (s := c + 1) dX3_digest_25 rfl (by omega) (L' := [some (.ref xp), some (.long ((31 * hh) + ((s_ofC f m (c)) : Int32).toInt64)), none, some (.int (nI (c + 1))), z4, z5]) rfl ?_
      refine G_goto 6 dX3_digest_28 (by decide) ?_
      exact xg1 hΩ  K d (c + 1) _ _ _ (by omega) (by rw [hr]; rfl)
theorem xg2 (hΩ : CV xp lp ap tp up hp rp kp sp yp zp Ω) {q f rt R R1 g : mj_S} {T m T1 m1 n : Nat} {h : Nat} (hh5 : h < 5) {X : mj_R} {R0 : Int64} (K : ∀ y z5 : Option Value, GG l cX3_digest MX3_digest false X 69 [some (.ref xp), some (.long R0), none, some (.int (nI (h))), y, z5] [] (Ω (row q f) rt R T m R1 T1 m1 g n) 0 0) : ∀ (d c : Nat) (hh : Int64) (z5 : Option Value), c + d = 12 → R0 = itr (fun k a => mx (s_ofH f h k) a) d c hh → GG l cX3_digest MX3_digest false X 41 [some (.ref xp), some (.long hh), none, some (.int (nI (h))), some (.int (nI (c))), z5] [] (Ω (row q f) rt R T m R1 T1 m1 g n) 0 0
  | 0, c, hh, z5, hc, hr => by
    refine G_iload dX3_digest_41 rfl ?_
    refine G_bipush (v := 11) dX3_digest_43 (by decide) ?_
    refine G_icmp_gtN (a := c) (c := 11) 69 dX3_digest_45 (by decide) (by omega) (fun c45 => ?_) (fun c45 => ?_)
    · rw [itr_0] at hr
      subst hr
      exact K _ _
    · exact (show False by omega).elim
  | d + 1, c, hh, z5, hc, hr => by
    refine G_iload dX3_digest_41 rfl ?_
    refine G_bipush (v := 11) dX3_digest_43 (by decide) ?_
    refine G_icmp_gtN (a := c) (c := 11) 69 dX3_digest_45 (by decide) (by omega) (fun c45 => ?_) (fun c45 => ?_)
    · exact (show False by omega).elim
    · refine G_ldc2 (v := 31) dX3_digest_48 (by decide +kernel) ?_
      refine G_lload_n dX3_digest_51 rfl ?_
      refine G_lmul dX3_digest_52 ?_
      refine G_aload_n dX3_digest_53 rfl ?_
      refine G_iload_n dX3_digest_54 rfl ?_
      refine G_iload dX3_digest_55 rfl ?_
      refine G_callVi dX3_digest_57 kX3_digest_X3_hearthOf ⟨rfl, rfl⟩ ⟨Nat.zero_le _, Nat.zero_le _⟩ (x_hearthOf hΩ (h := h) (by omega) (k := c) (by omega)) rfl rfl (hΩ.1 _ _ _ _ _ _ _ _ _ _) rfl rfl ?_
      refine G_i2l dX3_digest_60 ?_
      refine G_ladd dX3_digest_61 ?_
      refine G_lstore_n dX3_digest_62 rfl (L' := [some (.ref xp), some (.long ((31 * hh) + ((s_ofH f (h) (c)) : Int32).toInt64)), none, some (.int (nI (h))), some (.int (nI (c))), z5]) rfl ?_
      refine G_iincN (a := c) (s := c + 1) dX3_digest_63 rfl (by omega) (L' := [some (.ref xp), some (.long ((31 * hh) + ((s_ofH f (h) (c)) : Int32).toInt64)), none, some (.int (nI (h))), some (.int (nI (c + 1))), z5]) rfl ?_
      refine G_goto 41 dX3_digest_66 (by decide) ?_
      exact xg2 hΩ hh5 K d (c + 1) _ _ (by omega) (by rw [hr]; rfl)
theorem xg3 (hΩ : CV xp lp ap tp up hp rp kp sp yp zp Ω) {q f rt R R1 g : mj_S} {T m T1 m1 n : Nat} {h b : Nat} (hh5 : h < 5) (hb : b < 4) {X : mj_R} {R0 : Int64} (K : ∀ y : Option Value, GG l cX3_digest MX3_digest false X 110 [some (.ref xp), some (.long R0), none, some (.int (nI (h))), some (.int (nI (b))), y] [] (Ω (row q f) rt R T m R1 T1 m1 g n) 0 0) : ∀ (d c : Nat) (hh : Int64) , c + d = 5 → R0 = itr (fun k a => mx (s_ofP f h b k) a) d c hh → GG l cX3_digest MX3_digest false X 81 [some (.ref xp), some (.long hh), none, some (.int (nI (h))), some (.int (nI (b))), some (.int (nI (c)))] [] (Ω (row q f) rt R T m R1 T1 m1 g n) 0 0
  | 0, c, hh, hc, hr => by
    refine G_iload dX3_digest_81 rfl ?_
    refine G_iconst (v := 4) dX3_digest_83 (by decide) ?_
    refine G_icmp_gtN (a := c) (c := 4) 110 dX3_digest_84 (by decide) (by omega) (fun c84 => ?_) (fun c84 => ?_)
    · rw [itr_0] at hr
      subst hr
      exact K _
    · exact (show False by omega).elim
  | d + 1, c, hh, hc, hr => by
    refine G_iload dX3_digest_81 rfl ?_
    refine G_iconst (v := 4) dX3_digest_83 (by decide) ?_
    refine G_icmp_gtN (a := c) (c := 4) 110 dX3_digest_84 (by decide) (by omega) (fun c84 => ?_) (fun c84 => ?_)
    · exact (show False by omega).elim
    · refine G_ldc2 (v := 31) dX3_digest_87 (by decide +kernel) ?_
      refine G_lload_n dX3_digest_90 rfl ?_
      refine G_lmul dX3_digest_91 ?_
      refine G_aload_n dX3_digest_92 rfl ?_
      refine G_iload_n dX3_digest_93 rfl ?_
      refine G_iload dX3_digest_94 rfl ?_
      refine G_iload dX3_digest_96 rfl ?_
      refine G_callVi dX3_digest_98 kX3_digest_X3_plot ⟨rfl, rfl⟩ ⟨Nat.zero_le _, Nat.zero_le _⟩ (x_plot hΩ (h := h) (by omega) (b := b) (by omega) (k := c) (by omega)) rfl rfl (hΩ.1 _ _ _ _ _ _ _ _ _ _) rfl rfl ?_
      refine G_i2l dX3_digest_101 ?_
      refine G_ladd dX3_digest_102 ?_
      refine G_lstore_n dX3_digest_103 rfl (L' := [some (.ref xp), some (.long ((31 * hh) + ((s_ofP f (h) (b) (c)) : Int32).toInt64)), none, some (.int (nI (h))), some (.int (nI (b))), some (.int (nI (c)))]) rfl ?_
      refine G_iincN (a := c) (s := c + 1) dX3_digest_104 rfl (by omega) (L' := [some (.ref xp), some (.long ((31 * hh) + ((s_ofP f (h) (b) (c)) : Int32).toInt64)), none, some (.int (nI (h))), some (.int (nI (b))), some (.int (nI (c + 1)))]) rfl ?_
      refine G_goto 81 dX3_digest_107 (by decide) ?_
      exact xg3 hΩ hh5 hb K d (c + 1) _  (by omega) (by rw [hr]; rfl)
theorem xg4 (hΩ : CV xp lp ap tp up hp rp kp sp yp zp Ω) {q f rt R R1 g : mj_S} {T m T1 m1 n : Nat} {h : Nat} (hh5 : h < 5) {X : mj_R} {R0 : Int64} (K : ∀ y z5 : Option Value, GG l cX3_digest MX3_digest false X 116 [some (.ref xp), some (.long R0), none, some (.int (nI (h))), y, z5] [] (Ω (row q f) rt R T m R1 T1 m1 g n) 0 0) : ∀ (d c : Nat) (hh : Int64) (z5 : Option Value), c + d = 4 → R0 = itr (h_plot f h) d c hh → GG l cX3_digest MX3_digest false X 72 [some (.ref xp), some (.long hh), none, some (.int (nI (h))), some (.int (nI (c))), z5] [] (Ω (row q f) rt R T m R1 T1 m1 g n) 0 0
  | 0, c, hh, z5, hc, hr => by
    refine G_iload dX3_digest_72 rfl ?_
    refine G_iconst (v := 4) dX3_digest_74 (by decide) ?_
    refine G_icmp_geN (a := c) (c := 4) 116 dX3_digest_75 (by decide) (by omega) (fun c75 => ?_) (fun c75 => ?_)
    · rw [itr_0] at hr
      subst hr
      exact K _ _
    · exact (show False by omega).elim
  | d + 1, c, hh, z5, hc, hr => by
    refine G_iload dX3_digest_72 rfl ?_
    refine G_iconst (v := 4) dX3_digest_74 (by decide) ?_
    refine G_icmp_geN (a := c) (c := 4) 116 dX3_digest_75 (by decide) (by omega) (fun c75 => ?_) (fun c75 => ?_)
    · exact (show False by omega).elim
    · refine G_iconst (v := 0) dX3_digest_78 (by decide) ?_
      refine G_istore dX3_digest_79 rfl (L' := [some (.ref xp), some (.long hh), none, some (.int (nI (h))), some (.int (nI (c))), some (.int 0)]) rfl ?_
      refine xg3 hΩ hh5 (b := c) (by omega) (R0 := h_plot f h c hh) (fun y => ?_) 5 0 hh (by omega) rfl
      refine G_iincN (a := c) (s := c + 1) dX3_digest_110 rfl (by omega) (L' := [some (.ref xp), some (.long (h_plot f h c hh)), none, some (.int (nI (h))), some (.int (nI (c + 1))), y]) rfl ?_
      refine G_goto 72 dX3_digest_113 (by decide) ?_
      exact xg4 hΩ hh5 K d (c + 1) _ _ (by omega) (by rw [hr]; rfl)
theorem xg5 (hΩ : CV xp lp ap tp up hp rp kp sp yp zp Ω) {q f R R1 g : mj_S} {T m T1 m1 n : Nat} {D : Nat} (ho : oA f D) (hv : vt f) (hD : D < 2147479000)  {X : mj_R} {R0 : Int64} {S : mj_S} (K : ∀ y z4 z5 : Option Value, GG l cX3_digest MX3_digest false X 149 [some (.ref xp), some (.long R0), none, y, z4, z5] [] (Ω (row q f) S R T m R1 T1 m1 g n) 0 0) : ∀ (d c : Nat) (hh : Int64) (rt : mj_S) (z4 : Option Value) (z5 : Option Value), c + d = 5 → R0 = itr (h_hearth f) d c hh → S = itr (s_rt1 q f) d c rt → GG l cX3_digest MX3_digest false X 33 [some (.ref xp), some (.long hh), none, some (.int (nI (c))), z4, z5] [] (Ω (row q f) rt R T m R1 T1 m1 g n) 0 0
  | 0, c, hh, rt, z4, z5, hc, hr, hq => by
    refine G_iload_n dX3_digest_33 rfl ?_
    refine G_iconst (v := 5) dX3_digest_34 (by decide) ?_
    refine G_icmp_geN (a := c) (c := 5) 149 dX3_digest_35 (by decide) (by omega) (fun c35 => ?_) (fun c35 => ?_)
    · rw [itr_0] at hr
      rw [itr_0] at hq
      subst hq
      subst hr
      exact K _ _ _
    · exact (show False by omega).elim
  | d + 1, c, hh, rt, z4, z5, hc, hr, hq => by
    refine G_iload_n dX3_digest_33 rfl ?_
    refine G_iconst (v := 5) dX3_digest_34 (by decide) ?_
    refine G_icmp_geN (a := c) (c := 5) 149 dX3_digest_35 (by decide) (by omega) (fun c35 => ?_) (fun c35 => ?_)
    · exact (show False by omega).elim
    · refine G_iconst (v := 0) dX3_digest_38 (by decide) ?_
      refine G_istore dX3_digest_39 rfl (L' := [some (.ref xp), some (.long hh), none, some (.int (nI (c))), some (.int 0), z5]) rfl ?_
      refine xg2 hΩ (h := c) (by omega) (R0 := (itr (fun k a => mx (s_ofH f c k) a) 12 0 hh)) (fun y z5 => ?_) 12 0 hh _ (by omega) rfl
      refine G_iconst (v := 0) dX3_digest_69 (by decide) ?_
      refine G_istore dX3_digest_70 rfl (L' := [some (.ref xp), some (.long (itr (fun k a => mx (s_ofH f c k) a) 12 0 hh)), none, some (.int (nI (c))), some (.int 0), z5]) rfl ?_
      refine xg4 hΩ (h := c) (by omega) (R0 := (itr (h_plot f c) 4 0 (itr (fun k a => mx (s_ofH f c k) a) 12 0 hh))) (fun y z5 => ?_) 4 0 _ _ (by omega) rfl
      refine G_ldc2 (v := 31) dX3_digest_116 (by decide +kernel) ?_
      refine G_lload_n dX3_digest_119 rfl ?_
      refine G_lmul dX3_digest_120 ?_
      refine G_aload_n dX3_digest_121 rfl ?_
      refine G_iload_n dX3_digest_122 rfl ?_
      refine G_callVi dX3_digest_123 kX3_digest_X3_enoughIn ⟨rfl, rfl⟩ ⟨Nat.zero_le _, Nat.zero_le _⟩ (x_enoughIn hΩ ho hv hD (h := c) (by omega)) rfl rfl (hΩ.1 _ _ _ _ _ _ _ _ _ _) rfl rfl ?_
      refine G_i2l dX3_digest_126 ?_
      refine G_ladd dX3_digest_127 ?_
      refine G_lstore_n dX3_digest_128 rfl (L' := [some (.ref xp), some (.long ((31 * (itr (h_plot f c) 4 0 (itr (fun k a => mx (s_ofH f c k) a) 12 0 hh))) + ((s_until f (c)) : Int32).toInt64)), none, some (.int (nI (c))), y, z5]) rfl ?_
      refine G_ldc2 (v := 31) dX3_digest_129 (by decide +kernel) ?_
      refine G_lload_n dX3_digest_132 rfl ?_
      refine G_lmul dX3_digest_133 ?_
      refine G_aload_n dX3_digest_134 rfl ?_
      refine G_iconst (v := 0) dX3_digest_135 (by decide) ?_
      refine G_iload_n dX3_digest_136 rfl ?_
      refine G_callVi dX3_digest_137 kX3_digest_X3_bestBank ⟨rfl, rfl⟩ ⟨Nat.zero_le _, Nat.zero_le _⟩ (x_bestBank hΩ ho hv hD (k := 0) (h := c) (by omega) (by omega)) rfl rfl (hΩ.1 _ _ _ _ _ _ _ _ _ _) rfl rfl ?_
      refine G_i2l dX3_digest_140 ?_
      refine G_ladd dX3_digest_141 ?_
      refine G_lstore_n dX3_digest_142 rfl (L' := [some (.ref xp), some (.long ((31 * ((31 * (itr (h_plot f c) 4 0 (itr (fun k a => mx (s_ofH f c k) a) 12 0 hh))) + ((s_until f (c)) : Int32).toInt64)) + ((s_best f (0) (c)) : Int32).toInt64)), none, some (.int (nI (c))), y, z5]) rfl ?_
      refine G_iincN (a := c) (s := c + 1) dX3_digest_143 rfl (by omega) (L' := [some (.ref xp), some (.long ((31 * ((31 * (itr (h_plot f c) 4 0 (itr (fun k a => mx (s_ofH f c k) a) 12 0 hh))) + ((s_until f (c)) : Int32).toInt64)) + ((s_best f (0) (c)) : Int32).toInt64)), none, some (.int (nI (c + 1))), y, z5]) rfl ?_
      refine G_goto 33 dX3_digest_146 (by decide) ?_
      exact xg5 hΩ ho hv hD K d (c + 1) _ _ _ _ (by omega) (by rw [hr]; rfl) (by rw [hq]; rfl)
theorem xg6 (hΩ : CV xp lp ap tp up hp rp kp sp yp zp Ω) {q f rt R R1 g : mj_S} {T m T1 m1 n : Nat} {b : Nat} (hb : b < 4) {X : mj_R} {R0 : Int64} (K : ∀ y z5 : Option Value, GG l cX3_digest MX3_digest false X 186 [some (.ref xp), some (.long R0), none, some (.int (nI (b))), y, z5] [] (Ω (row q f) rt R T m R1 T1 m1 g n) 0 0) : ∀ (d c : Nat) (hh : Int64) (z5 : Option Value), c + d = 5 → R0 = itr (fun k a => mx (s_ofB q f b k) a) d c hh → GG l cX3_digest MX3_digest false X 159 [some (.ref xp), some (.long hh), none, some (.int (nI (b))), some (.int (nI (c))), z5] [] (Ω (row q f) rt R T m R1 T1 m1 g n) 0 0
  | 0, c, hh, z5, hc, hr => by
    refine G_iload dX3_digest_159 rfl ?_
    refine G_iconst (v := 4) dX3_digest_161 (by decide) ?_
    refine G_icmp_gtN (a := c) (c := 4) 186 dX3_digest_162 (by decide) (by omega) (fun c162 => ?_) (fun c162 => ?_)
    · rw [itr_0] at hr
      subst hr
      exact K _ _
    · exact (show False by omega).elim
  | d + 1, c, hh, z5, hc, hr => by
    refine G_iload dX3_digest_159 rfl ?_
    refine G_iconst (v := 4) dX3_digest_161 (by decide) ?_
    refine G_icmp_gtN (a := c) (c := 4) 186 dX3_digest_162 (by decide) (by omega) (fun c162 => ?_) (fun c162 => ?_)
    · exact (show False by omega).elim
    · refine G_ldc2 (v := 31) dX3_digest_165 (by decide +kernel) ?_
      refine G_lload_n dX3_digest_168 rfl ?_
      refine G_lmul dX3_digest_169 ?_
      refine G_aload_n dX3_digest_170 rfl ?_
      refine G_iload_n dX3_digest_171 rfl ?_
      refine G_iload dX3_digest_172 rfl ?_
      refine G_callVi dX3_digest_174 kX3_digest_X3_bankOf ⟨rfl, rfl⟩ ⟨Nat.zero_le _, Nat.zero_le _⟩ (x_bankOf hΩ (b := b) (by omega) (k := c) (by omega)) rfl rfl (hΩ.1 _ _ _ _ _ _ _ _ _ _) rfl rfl ?_
      refine G_i2l dX3_digest_177 ?_
      refine G_ladd dX3_digest_178 ?_
      refine G_lstore_n dX3_digest_179 rfl (L' := [some (.ref xp), some (.long ((31 * hh) + ((s_ofB q f (b) (c)) : Int32).toInt64)), none, some (.int (nI (b))), some (.int (nI (c))), z5]) rfl ?_
      refine G_iincN (a := c) (s := c + 1) dX3_digest_180 rfl (by omega) (L' := [some (.ref xp), some (.long ((31 * hh) + ((s_ofB q f (b) (c)) : Int32).toInt64)), none, some (.int (nI (b))), some (.int (nI (c + 1))), z5]) rfl ?_
      refine G_goto 159 dX3_digest_183 (by decide) ?_
      exact xg6 hΩ hb K d (c + 1) _ _ (by omega) (by rw [hr]; rfl)
theorem xg7 (hΩ : CV xp lp ap tp up hp rp kp sp yp zp Ω) {q f rt R R1 g : mj_S} {T m T1 m1 n : Nat}  {X : mj_R} {R0 : Int64} (K : ∀ y z4 z5 : Option Value, GG l cX3_digest MX3_digest false X 192 [some (.ref xp), some (.long R0), none, y, z4, z5] [] (Ω (row q f) rt R T m R1 T1 m1 g n) 0 0) : ∀ (d c : Nat) (hh : Int64) (z4 : Option Value) (z5 : Option Value), c + d = 4 → R0 = itr (h_bank q f) d c hh → GG l cX3_digest MX3_digest false X 151 [some (.ref xp), some (.long hh), none, some (.int (nI (c))), z4, z5] [] (Ω (row q f) rt R T m R1 T1 m1 g n) 0 0
  | 0, c, hh, z4, z5, hc, hr => by
    refine G_iload_n dX3_digest_151 rfl ?_
    refine G_iconst (v := 4) dX3_digest_152 (by decide) ?_
    refine G_icmp_geN (a := c) (c := 4) 192 dX3_digest_153 (by decide) (by omega) (fun c153 => ?_) (fun c153 => ?_)
    · rw [itr_0] at hr
      subst hr
      exact K _ _ _
    · exact (show False by omega).elim
  | d + 1, c, hh, z4, z5, hc, hr => by
    refine G_iload_n dX3_digest_151 rfl ?_
    refine G_iconst (v := 4) dX3_digest_152 (by decide) ?_
    refine G_icmp_geN (a := c) (c := 4) 192 dX3_digest_153 (by decide) (by omega) (fun c153 => ?_) (fun c153 => ?_)
    · exact (show False by omega).elim
    · refine G_iconst (v := 0) dX3_digest_156 (by decide) ?_
      refine G_istore dX3_digest_157 rfl (L' := [some (.ref xp), some (.long hh), none, some (.int (nI (c))), some (.int 0), z5]) rfl ?_
      refine xg6 hΩ (b := c) (by omega) (R0 := h_bank q f c hh) (fun y z5 => ?_) 5 0 hh _ (by omega) rfl
      refine G_iincN (a := c) (s := c + 1) dX3_digest_186 rfl (by omega) (L' := [some (.ref xp), some (.long (h_bank q f c hh)), none, some (.int (nI (c + 1))), y, z5]) rfl ?_
      refine G_goto 151 dX3_digest_189 (by decide) ?_
      exact xg7 hΩ  K d (c + 1) _ _ _ (by omega) (by rw [hr]; rfl)
theorem xg8 (hΩ : CV xp lp ap tp up hp rp kp sp yp zp Ω) {q f rt R R1 g : mj_S} {T m T1 m1 n : Nat} {u : Nat} (hu : u < 6) {X : mj_R} {R0 : Int64} (K : ∀ y z5 : Option Value, GG l cX3_digest MX3_digest false X 230 [some (.ref xp), some (.long R0), none, some (.int (nI (u))), y, z5] [] (Ω (row q f) rt R T m R1 T1 m1 g n) 0 0) : ∀ (d c : Nat) (hh : Int64) (z5 : Option Value), c + d = 4 → R0 = itr (fun k a => mx (f (133 + 6 * k + u)) a) d c hh → GG l cX3_digest MX3_digest false X 203 [some (.ref xp), some (.long hh), none, some (.int (nI (u))), some (.int (nI (c))), z5] [] (Ω (row q f) rt R T m R1 T1 m1 g n) 0 0
  | 0, c, hh, z5, hc, hr => by
    refine G_iload dX3_digest_203 rfl ?_
    refine G_iconst (v := 3) dX3_digest_205 (by decide) ?_
    refine G_icmp_gtN (a := c) (c := 3) 230 dX3_digest_206 (by decide) (by omega) (fun c206 => ?_) (fun c206 => ?_)
    · rw [itr_0] at hr
      subst hr
      exact K _ _
    · exact (show False by omega).elim
  | d + 1, c, hh, z5, hc, hr => by
    refine G_iload dX3_digest_203 rfl ?_
    refine G_iconst (v := 3) dX3_digest_205 (by decide) ?_
    refine G_icmp_gtN (a := c) (c := 3) 230 dX3_digest_206 (by decide) (by omega) (fun c206 => ?_) (fun c206 => ?_)
    · exact (show False by omega).elim
    · refine G_ldc2 (v := 31) dX3_digest_209 (by decide +kernel) ?_
      refine G_lload_n dX3_digest_212 rfl ?_
      refine G_lmul dX3_digest_213 ?_
      refine G_aload_n dX3_digest_214 rfl ?_
      refine G_iload_n dX3_digest_215 rfl ?_
      refine G_iload dX3_digest_216 rfl ?_
      refine G_callVi dX3_digest_218 kX3_digest_X3_cutter ⟨rfl, rfl⟩ ⟨Nat.zero_le _, Nat.zero_le _⟩ (x_cutter hΩ (c := u) (by omega) (k := c) (by omega)) rfl rfl (hΩ.1 _ _ _ _ _ _ _ _ _ _) rfl rfl ?_
      refine G_i2l dX3_digest_221 ?_
      refine G_ladd dX3_digest_222 ?_
      refine G_lstore_n dX3_digest_223 rfl (L' := [some (.ref xp), some (.long ((31 * hh) + ((f (133 + 6 * (c) + (u))) : Int32).toInt64)), none, some (.int (nI (u))), some (.int (nI (c))), z5]) rfl ?_
      refine G_iincN (a := c) (s := c + 1) dX3_digest_224 rfl (by omega) (L' := [some (.ref xp), some (.long ((31 * hh) + ((f (133 + 6 * (c) + (u))) : Int32).toInt64)), none, some (.int (nI (u))), some (.int (nI (c + 1))), z5]) rfl ?_
      refine G_goto 203 dX3_digest_227 (by decide) ?_
      exact xg8 hΩ hu K d (c + 1) _ _ (by omega) (by rw [hr]; rfl)
theorem xg9 (hΩ : CV xp lp ap tp up hp rp kp sp yp zp Ω) {q f rt R R1 g : mj_S} {T m T1 m1 n : Nat}  {X : mj_R} {R0 : Int64} (K : ∀ y z4 z5 : Option Value, GG l cX3_digest MX3_digest false X 236 [some (.ref xp), some (.long R0), none, y, z4, z5] [] (Ω (row q f) rt R T m R1 T1 m1 g n) 0 0) : ∀ (d c : Nat) (hh : Int64) (z4 : Option Value) (z5 : Option Value), c + d = 6 → R0 = itr (h_cut f) d c hh → GG l cX3_digest MX3_digest false X 194 [some (.ref xp), some (.long hh), none, some (.int (nI (c))), z4, z5] [] (Ω (row q f) rt R T m R1 T1 m1 g n) 0 0
  | 0, c, hh, z4, z5, hc, hr => by
    refine G_iload_n dX3_digest_194 rfl ?_
    refine G_bipush (v := 6) dX3_digest_195 (by decide) ?_
    refine G_icmp_geN (a := c) (c := 6) 236 dX3_digest_197 (by decide) (by omega) (fun c197 => ?_) (fun c197 => ?_)
    · rw [itr_0] at hr
      subst hr
      exact K _ _ _
    · exact (show False by omega).elim
  | d + 1, c, hh, z4, z5, hc, hr => by
    refine G_iload_n dX3_digest_194 rfl ?_
    refine G_bipush (v := 6) dX3_digest_195 (by decide) ?_
    refine G_icmp_geN (a := c) (c := 6) 236 dX3_digest_197 (by decide) (by omega) (fun c197 => ?_) (fun c197 => ?_)
    · exact (show False by omega).elim
    · refine G_iconst (v := 0) dX3_digest_200 (by decide) ?_
      refine G_istore dX3_digest_201 rfl (L' := [some (.ref xp), some (.long hh), none, some (.int (nI (c))), some (.int 0), z5]) rfl ?_
      refine xg8 hΩ (u := c) (by omega) (R0 := h_cut f c hh) (fun y z5 => ?_) 4 0 hh _ (by omega) rfl
      refine G_iincN (a := c) (s := c + 1) dX3_digest_230 rfl (by omega) (L' := [some (.ref xp), some (.long (h_cut f c hh)), none, some (.int (nI (c + 1))), y, z5]) rfl ?_
      refine G_goto 194 dX3_digest_233 (by decide) ?_
      exact xg9 hΩ  K d (c + 1) _ _ _ (by omega) (by rw [hr]; rfl)
theorem xg10 (hΩ : CV xp lp ap tp up hp rp kp sp yp zp Ω) {q f rt R R1 g : mj_S} {T m T1 m1 n : Nat} {si : Nat} (hsi : f 2 = nI si) (hsi9 : si ≤ 9) {X : mj_R} {R0 : Int64} (K : ∀ y z4 z5 : Option Value, GG l cX3_digest MX3_digest false X 263 [some (.ref xp), some (.long R0), none, y, z4, z5] [] (Ω (row q f) rt R T m R1 T1 m1 g n) 0 0) : ∀ (d c : Nat) (hh : Int64) (z4 : Option Value) (z5 : Option Value), c + d = 10 → R0 = itr (fun k a => mx (nI (s_rain f k)) a) d c hh → GG l cX3_digest MX3_digest false X 238 [some (.ref xp), some (.long hh), none, some (.int (nI (c))), z4, z5] [] (Ω (row q f) rt R T m R1 T1 m1 g n) 0 0
  | 0, c, hh, z4, z5, hc, hr => by
    refine G_iload_n dX3_digest_238 rfl ?_
    refine G_bipush (v := 9) dX3_digest_239 (by decide) ?_
    refine G_icmp_gtN (a := c) (c := 9) 263 dX3_digest_241 (by decide) (by omega) (fun c241 => ?_) (fun c241 => ?_)
    · rw [itr_0] at hr
      subst hr
      exact K _ _ _
    · exact (show False by omega).elim
  | d + 1, c, hh, z4, z5, hc, hr => by
    refine G_iload_n dX3_digest_238 rfl ?_
    refine G_bipush (v := 9) dX3_digest_239 (by decide) ?_
    refine G_icmp_gtN (a := c) (c := 9) 263 dX3_digest_241 (by decide) (by omega) (fun c241 => ?_) (fun c241 => ?_)
    · exact (show False by omega).elim
    · refine G_ldc2 (v := 31) dX3_digest_244 (by decide +kernel) ?_
      refine G_lload_n dX3_digest_247 rfl ?_
      refine G_lmul dX3_digest_248 ?_
      refine G_aload_n dX3_digest_249 rfl ?_
      refine G_iload_n dX3_digest_250 rfl ?_
      refine G_callVi dX3_digest_251 kX3_digest_X3_rain ⟨rfl, rfl⟩ ⟨Nat.zero_le _, Nat.zero_le _⟩ (x_rain hΩ (d := c) (by omega) hsi hsi9) rfl rfl (hΩ.1 _ _ _ _ _ _ _ _ _ _) rfl rfl ?_
      refine G_i2l dX3_digest_254 ?_
      refine G_ladd dX3_digest_255 ?_
      refine G_lstore_n dX3_digest_256 rfl (L' := [some (.ref xp), some (.long ((31 * hh) + ((nI ((s_rain f (c)))) : Int32).toInt64)), none, some (.int (nI (c))), z4, z5]) rfl ?_
      refine G_iincN (a := c) (s := c + 1) dX3_digest_257 rfl (by omega) (L' := [some (.ref xp), some (.long ((31 * hh) + ((nI ((s_rain f (c)))) : Int32).toInt64)), none, some (.int (nI (c + 1))), z4, z5]) rfl ?_
      refine G_goto 238 dX3_digest_260 (by decide) ?_
      exact xg10 hΩ hsi hsi9 K d (c + 1) _ _ _ (by omega) (by rw [hr]; rfl)
theorem xg11 (hΩ : CV xp lp ap tp up hp rp kp sp yp zp Ω) {q f R R1 g : mj_S} {T m T1 m1 n : Nat} {D : Nat} (ho : oA f D) (hv : vt f) (hD : D < 2147479000)  {X : mj_R} {R0 : Int64} {S : mj_S} (K : ∀ y z4 z5 : Option Value, GG l cX3_digest MX3_digest false X 291 [some (.ref xp), some (.long R0), none, y, z4, z5] [] (Ω (row q f) S R T m R1 T1 m1 g n) 0 0) : ∀ (d c : Nat) (hh : Int64) (rt : mj_S) (z4 : Option Value) (z5 : Option Value), c + d = 3 → R0 = itr (fun k a => mx (s_would f 10 k) a) d c hh → S = itr (fun _ _ => row q (s_days 10 f).1) d c rt → GG l cX3_digest MX3_digest false X 265 [some (.ref xp), some (.long hh), none, some (.int (nI (c))), z4, z5] [] (Ω (row q f) rt R T m R1 T1 m1 g n) 0 0
  | 0, c, hh, rt, z4, z5, hc, hr, hq => by
    refine G_iload_n dX3_digest_265 rfl ?_
    refine G_iconst (v := 2) dX3_digest_266 (by decide) ?_
    refine G_icmp_gtN (a := c) (c := 2) 291 dX3_digest_267 (by decide) (by omega) (fun c267 => ?_) (fun c267 => ?_)
    · rw [itr_0] at hr
      rw [itr_0] at hq
      subst hq
      subst hr
      exact K _ _ _
    · exact (show False by omega).elim
  | d + 1, c, hh, rt, z4, z5, hc, hr, hq => by
    refine G_iload_n dX3_digest_265 rfl ?_
    refine G_iconst (v := 2) dX3_digest_266 (by decide) ?_
    refine G_icmp_gtN (a := c) (c := 2) 291 dX3_digest_267 (by decide) (by omega) (fun c267 => ?_) (fun c267 => ?_)
    · exact (show False by omega).elim
    · refine G_ldc2 (v := 31) dX3_digest_270 (by decide +kernel) ?_
      refine G_lload_n dX3_digest_273 rfl ?_
      refine G_lmul dX3_digest_274 ?_
      refine G_aload_n dX3_digest_275 rfl ?_
      refine G_bipush (v := 10) dX3_digest_276 (by decide) ?_
      refine G_iload_n dX3_digest_278 rfl ?_
      refine G_callVi dX3_digest_279 kX3_digest_X3_ifPassed ⟨rfl, rfl⟩ ⟨Nat.zero_le _, Nat.zero_le _⟩ (x_ifPassed hΩ ho hv hD (d := 10) (by omega) (k := c) (by omega)) rfl rfl (hΩ.1 _ _ _ _ _ _ _ _ _ _) rfl rfl ?_
      refine G_i2l dX3_digest_282 ?_
      refine G_ladd dX3_digest_283 ?_
      refine G_lstore_n dX3_digest_284 rfl (L' := [some (.ref xp), some (.long ((31 * hh) + ((s_would f (10) (c)) : Int32).toInt64)), none, some (.int (nI (c))), z4, z5]) rfl ?_
      refine G_iincN (a := c) (s := c + 1) dX3_digest_285 rfl (by omega) (L' := [some (.ref xp), some (.long ((31 * hh) + ((s_would f (10) (c)) : Int32).toInt64)), none, some (.int (nI (c + 1))), z4, z5]) rfl ?_
      refine G_goto 265 dX3_digest_288 (by decide) ?_
      exact xg11 hΩ ho hv hD K d (c + 1) _ _ _ _ (by omega) (by rw [hr]; rfl) (by rw [hq]; rfl)
theorem xg12 (hΩ : CV xp lp ap tp up hp rp kp sp yp zp Ω) {q f rt R R1 g : mj_S} {T m T1 m1 n : Nat} {t : Nat → Nat} (hX : TX g n t) (hn60 : n ≤ 60) {X : mj_R} {R0 : Int64} (K : ∀ y z4 z5 : Option Value, GG l cX3_digest MX3_digest false X 355 [some (.ref xp), some (.long R0), none, y, z4, z5] [] (Ω (row q f) rt R T m R1 T1 m1 g n) 0 0) : ∀ (d c : Nat) (hh : Int64) (z4 : Option Value) (z5 : Option Value), c + d = n → R0 = itr (fun k a => mx (g k) a) d c hh → GG l cX3_digest MX3_digest false X 322 [some (.ref xp), some (.long hh), none, some (.int (nI (c))), z4, z5] [] (Ω (row q f) rt R T m R1 T1 m1 g n) 0 0
  | 0, c, hh, z4, z5, hc, hr => by
    refine G_iload_n dX3_digest_322 rfl ?_
    refine G_aload_n dX3_digest_323 rfl ?_
    refine G_getf dX3_digest_324 fX3_digest_34 (hΩ.1 _ _ _ _ _ _ _ _ _ _) (rfl) ?_
    refine G_callVi dX3_digest_327 kX3_digest_X2_length ⟨rfl, rfl⟩ ⟨Nat.zero_le _, Nat.zero_le _⟩ (c_tlen (hΩ.2.2.2.2 (row q f) rt R T m R1 T1 m1)) rfl rfl (((hΩ.2.2.2.2 (row q f) rt R T m R1 T1 m1) _ _).1) rfl rfl ?_
    refine G_icmp_geN (a := c) (c := n) 355 dX3_digest_330 (by decide) (by omega) (fun c330 => ?_) (fun c330 => ?_)
    · rw [itr_0] at hr
      subst hr
      exact K _ _ _
    · exact (show False by omega).elim
  | d + 1, c, hh, z4, z5, hc, hr => by
    refine G_iload_n dX3_digest_322 rfl ?_
    refine G_aload_n dX3_digest_323 rfl ?_
    refine G_getf dX3_digest_324 fX3_digest_34 (hΩ.1 _ _ _ _ _ _ _ _ _ _) (rfl) ?_
    refine G_callVi dX3_digest_327 kX3_digest_X2_length ⟨rfl, rfl⟩ ⟨Nat.zero_le _, Nat.zero_le _⟩ (c_tlen (hΩ.2.2.2.2 (row q f) rt R T m R1 T1 m1)) rfl rfl (((hΩ.2.2.2.2 (row q f) rt R T m R1 T1 m1) _ _).1) rfl rfl ?_
    refine G_icmp_geN (a := c) (c := n) 355 dX3_digest_330 (by decide) (by omega) (fun c330 => ?_) (fun c330 => ?_)
    · exact (show False by omega).elim
    · refine G_ldc2 (v := 31) dX3_digest_333 (by decide +kernel) ?_
      refine G_lload_n dX3_digest_336 rfl ?_
      refine G_lmul dX3_digest_337 ?_
      refine G_aload_n dX3_digest_338 rfl ?_
      refine G_getf dX3_digest_339 fX3_digest_34 (hΩ.1 _ _ _ _ _ _ _ _ _ _) (rfl) ?_
      refine G_iload_n dX3_digest_342 rfl ?_
      have := sg_le hX (c)
      refine G_callVi dX3_digest_343 kX3_digest_X2_signAt ⟨rfl, rfl⟩ ⟨Nat.zero_le _, Nat.zero_le _⟩ (c_signAt (hΩ.2.2.2.2 (row q f) rt R T m R1 T1 m1) hX (i := c) (by omega)) rfl rfl (((hΩ.2.2.2.2 (row q f) rt R T m R1 T1 m1) _ _).1) rfl rfl ?_
      refine G_eqi (show nI (sg t n (c)) = g (c) from by rw [sg, if_pos (by omega)]; exact ((hX.2 c (by omega)).1).symm) ?_
      refine G_i2l dX3_digest_346 ?_
      refine G_ladd dX3_digest_347 ?_
      refine G_lstore_n dX3_digest_348 rfl (L' := [some (.ref xp), some (.long ((31 * hh) + ((g (c)) : Int32).toInt64)), none, some (.int (nI (c))), z4, z5]) rfl ?_
      refine G_iincN (a := c) (s := c + 1) dX3_digest_349 rfl (by omega) (L' := [some (.ref xp), some (.long ((31 * hh) + ((g (c)) : Int32).toInt64)), none, some (.int (nI (c + 1))), z4, z5]) rfl ?_
      refine G_goto 322 dX3_digest_352 (by decide) ?_
      exact xg12 hΩ hX hn60 K d (c + 1) _ _ _ (by omega) (by rw [hr]; rfl)
theorem x_digest (hΩ : CV xp lp ap tp up hp rp kp sp yp zp Ω) {q f rt R R1 g : mj_S} {T m T1 m1 n : Nat} {D : Nat} (ho : oA f D) (hv : vt f) (hD : D < 2147479000) {si : Nat} (hsi : f 2 = nI si) (hsi9 : si ≤ 9) {t : Nat → Nat} (hX : TX g n t) (hn60 : n ≤ 60) : MC l yX3_digest wsX3_digest rmX3_digest false [.ref xp] (Ω (row q f) rt R T m R1 T1 m1 g n) (some (.long (h_d q f m (s_share f).toInt64 g n))) (Ω (row q f) (row q (s_days 10 f).1) R T m R1 T1 m1 g n) := by
  refine mj_MC (cc := cX3_digest) (nl := 6) (ret := (some .long)) (plainFor_of_name (by decide)) rfl (rfl) (Nat.le_of_ble_eq_true rfl) ?_
  show GG l cX3_digest MX3_digest false (.inl ((some (.long (h_d q f m (s_share f).toInt64 g n))), Ω (row q f) (row q (s_days 10 f).1) R T m R1 T1 m1 g n)) 0 [some (.ref xp), none, none, none, none, none] [] (Ω (row q f) rt R T m R1 T1 m1 g n) 0 0
  refine G_ldc2 (v := 3739) dX3_digest_0 (by decide +kernel) ?_
  refine G_lstore_n dX3_digest_3 rfl (L' := [some (.ref xp), some (.long 3739), none, none, none, none]) rfl ?_
  refine G_iconst (v := 0) dX3_digest_4 (by decide) ?_
  refine G_istore_n dX3_digest_5 rfl (L' := [some (.ref xp), some (.long 3739), none, some (.int 0), none, none]) rfl ?_
  refine xg1 hΩ  (R0 := (itr (fun k a => mx (s_ofC f m k) a) 13 0 3739)) (fun y z4 z5 => ?_) 13 0 3739 _ _ (by omega) rfl
  refine G_iconst (v := 0) dX3_digest_31 (by decide) ?_
  refine G_istore_n dX3_digest_32 rfl (L' := [some (.ref xp), some (.long (itr (fun k a => mx (s_ofC f m k) a) 13 0 3739)), none, some (.int 0), z4, z5]) rfl ?_
  refine xg5 hΩ ho hv hD (R0 := (h_a f m)) (S := (itr (s_rt1 q f) 5 0 rt)) (fun y z4 z5 => ?_) 5 0 (itr (fun k a => mx (s_ofC f m k) a) 13 0 3739) rt _ _ (by omega) rfl (by rfl)
  refine G_iconst (v := 0) dX3_digest_149 (by decide) ?_
  refine G_istore_n dX3_digest_150 rfl (L' := [some (.ref xp), some (.long (h_a f m)), none, some (.int 0), z4, z5]) rfl ?_
  refine xg7 hΩ  (R0 := (itr (h_bank q f) 4 0 (h_a f m))) (fun y z4 z5 => ?_) 4 0 (h_a f m) _ _ (by omega) rfl
  refine G_iconst (v := 0) dX3_digest_192 (by decide) ?_
  refine G_istore_n dX3_digest_193 rfl (L' := [some (.ref xp), some (.long (itr (h_bank q f) 4 0 (h_a f m))), none, some (.int 0), z4, z5]) rfl ?_
  refine xg9 hΩ  (R0 := (h_b q f m)) (fun y z4 z5 => ?_) 6 0 (itr (h_bank q f) 4 0 (h_a f m)) _ _ (by omega) rfl
  refine G_iconst (v := 0) dX3_digest_236 (by decide) ?_
  refine G_istore_n dX3_digest_237 rfl (L' := [some (.ref xp), some (.long (h_b q f m)), none, some (.int 0), z4, z5]) rfl ?_
  refine xg10 hΩ hsi hsi9 (R0 := (itr (fun k a => mx (nI (s_rain f k)) a) 10 0 (h_b q f m))) (fun y z4 z5 => ?_) 10 0 (h_b q f m) _ _ (by omega) rfl
  refine G_iconst (v := 0) dX3_digest_263 (by decide) ?_
  refine G_istore_n dX3_digest_264 rfl (L' := [some (.ref xp), some (.long (itr (fun k a => mx (nI (s_rain f k)) a) 10 0 (h_b q f m))), none, some (.int 0), z4, z5]) rfl ?_
  refine xg11 hΩ ho hv hD (R0 := (h_c q f m)) (S := (row q (s_days 10 f).1)) (fun y z4 z5 => ?_) 3 0 (itr (fun k a => mx (nI (s_rain f k)) a) 10 0 (h_b q f m)) (itr (s_rt1 q f) 5 0 rt) _ _ (by omega) rfl (by rfl)
  refine G_ldc2 (v := 31) dX3_digest_291 (by decide +kernel) ?_
  refine G_lload_n dX3_digest_294 rfl ?_
  refine G_lmul dX3_digest_295 ?_
  refine G_aload_n dX3_digest_296 rfl ?_
  refine G_callVd dX3_digest_297 kX3_digest_X3_dryness ⟨rfl, rfl⟩ ⟨Nat.zero_le _, Nat.zero_le _⟩ (x_dryness hΩ hv) rfl rfl (hΩ.1 _ _ _ _ _ _ _ _ _ _) rfl rfl ?_
  refine G_callSl dX3_digest_300 kX3_digest_X3_bitsOf ⟨rfl, rfl⟩ ⟨Nat.zero_le _, Nat.zero_le _⟩ (c_bitsOf (share_ok hv)) rfl rfl rfl ?_
  refine G_ladd dX3_digest_303 ?_
  refine G_lstore_n dX3_digest_304 rfl (L' := [some (.ref xp), some (.long ((31 * (h_c q f m)) + ((s_share f)).toInt64)), none, y, z4, z5]) rfl ?_
  refine G_ldc2 (v := 31) dX3_digest_305 (by decide +kernel) ?_
  refine G_lload_n dX3_digest_308 rfl ?_
  refine G_lmul dX3_digest_309 ?_
  refine G_aload_n dX3_digest_310 rfl ?_
  refine G_getf dX3_digest_311 fX3_digest_34 (hΩ.1 _ _ _ _ _ _ _ _ _ _) (rfl) ?_
  refine G_callVi dX3_digest_314 kX3_digest_X2_length ⟨rfl, rfl⟩ ⟨Nat.zero_le _, Nat.zero_le _⟩ (c_tlen (hΩ.2.2.2.2 (row q f) (row q (s_days 10 f).1) R T m R1 T1 m1)) rfl rfl (((hΩ.2.2.2.2 (row q f) (row q (s_days 10 f).1) R T m R1 T1 m1) _ _).1) rfl rfl ?_
  refine G_i2l dX3_digest_317 ?_
  refine G_ladd dX3_digest_318 ?_
  refine G_lstore_n dX3_digest_319 rfl (L' := [some (.ref xp), some (.long ((31 * ((31 * (h_c q f m)) + ((s_share f)).toInt64)) + ((nI (n)) : Int32).toInt64)), none, y, z4, z5]) rfl ?_
  refine G_iconst (v := 0) dX3_digest_320 (by decide) ?_
  refine G_istore_n dX3_digest_321 rfl (L' := [some (.ref xp), some (.long ((31 * ((31 * (h_c q f m)) + ((s_share f)).toInt64)) + ((nI (n)) : Int32).toInt64)), none, some (.int 0), z4, z5]) rfl ?_
  refine xg12 hΩ hX hn60 (R0 := (h_d q f m (s_share f).toInt64 g n)) (fun y z4 z5 => ?_) n 0 _ _ _ (by omega) rfl
  refine G_lload_n dX3_digest_355 rfl ?_
  exact G_lret dX3_digest_356 ⟨Nat.zero_le _, Nat.zero_le _⟩ (rfl)
end XC

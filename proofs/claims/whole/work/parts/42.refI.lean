/-! REFERENCE: the sum of all it tells -/
def mx (v : Int32) (a : Int64) : Int64 := 31 * a + v.toInt64
def g_hearth (f : mj_S) (h : Nat) (a : Int64) : Int64 := mx (s_best f 0 h) (mx (s_until f h) (itr (fun k a => mx (s_ofP f h (k / 5) (k % 5)) a) 20 0 (itr (fun k a => mx (s_ofH f h k) a) 12 0 a)))
def g_a (f : mj_S) (m : Nat) : Int64 := itr (g_hearth f) 5 0 (itr (fun k a => mx (s_ofC f m k) a) 13 0 3739)
def g_b (f : mj_S) (m : Nat) : Int64 := itr (fun k a => mx (f (133 + 6 * (k % 4) + k / 4)) a) 24 0 (itr (fun k a => mx (s_ofB (s_com f) f (k / 5) (k % 5)) a) 20 0 (g_a f m))
def g_c (f : mj_S) (m : Nat) : Int64 := itr (fun k a => mx (s_would f 10 k) a) 3 0 (itr (fun k a => mx (nI (s_rain f k)) a) 10 0 (g_b f m))
def g_d (f : mj_S) (m : Nat) (bits : Int64) (bf : mj_S) (ln : Nat) : Int64 := itr (fun k a => mx (bf k) a) ln 0 (mx (nI ln) (31 * g_c f m + bits))
theorem itr_const {α : Type} (z : α) : ∀ (d c : Nat) (a : α), itr (fun _ _ => z) (d + 1) c a = z
  | 0, c, a => rfl
  | d + 1, c, a => by rw [itr_s]; exact itr_const z d (c + 1) z
section RI
variable {l : Launch} {mp p1 p2 p3 p5 p7 : Nat} {Ω : MT}
theorem m_mix (hΩ : MV mp p1 p2 p3 p5 p7 Ω) {th hs sg fi se t3 : Int32} {f sp sv sn bf : mj_S} {m ln i : Nat} {hh : Int64} {v : Int64} : MC l yX4_mix wsX4_mix rmX4_mix false [.ref mp, .long v] (Ω th f sp sv m sn hs bf ln i sg fi se t3 hh) none (Ω th f sp sv m sn hs bf ln i sg fi se t3 (31 * hh + v)) := by
  refine mj_MC (cc := cX4_mix) (nl := 3) (ret := none) (plainFor_of_name (by decide)) rfl (rfl) (Nat.le_of_ble_eq_true rfl) ?_
  show GG l cX4_mix MX4_mix false (.inl (none, Ω th f sp sv m sn hs bf ln i sg fi se t3 (31 * hh + v))) 0 [some (.ref mp), some (.long v), none] [] (Ω th f sp sv m sn hs bf ln i sg fi se t3 hh) 0 0
  refine G_aload_n dX4_mix_0 rfl ?_
  refine G_ldc2 (v := 31) dX4_mix_1 (by decide +kernel) ?_
  refine G_aload_n dX4_mix_4 rfl ?_
  refine G_getf dX4_mix_5 fX4_mix_239 ((hΩ _ _ _ _ _ _ _ _ _ _ _ _ _ _ _).1) (rfl) ?_
  refine G_lmul dX4_mix_8 ?_
  refine G_lload_n dX4_mix_9 rfl ?_
  refine G_ladd dX4_mix_10 ?_
  refine G_putf dX4_mix_11 pX4_mix_239 ((hΩ _ _ _ _ _ _ _ _ _ _ _ _ _ _ _).1) (fun _ => ⟨rfl, rfl⟩) (by simp [mfs]) ((hΩ _ _ _ _ _ _ _ _ _ _ _ _ _ _ _).2.2.2.2.2.2.1 _ _ _ _ _ _ _ _ _ _) ?_
  exact G_vret dX4_mix_14 ⟨Nat.zero_le _, Nat.zero_le _⟩ (rfl)
theorem ml_mh1 (hΩ : MV mp p1 p2 p3 p5 p7 Ω) {th hs sg fi se t3 : Int32} {f sp sv sn bf : mj_S} {m ln i : Nat} {h : Nat} (hh5 : h < 5)  {X : mj_R} {R : Int64} (K : ∀ y : Option Value, GG l cX4_mixHearth MX4_mixHearth false X 25 [some (.ref mp), some (.int (nI (h))), y] [] (Ω th f sp sv m sn hs bf ln i sg fi se t3 R) 0 0) : ∀ (d c : Nat) (hh : Int64), c + d = 12 → R = itr (fun k a => mx (s_ofH f h k) a) d c hh → GG l cX4_mixHearth MX4_mixHearth false X 2 [some (.ref mp), some (.int (nI (h))), some (.int (nI (c)))] [] (Ω th f sp sv m sn hs bf ln i sg fi se t3 hh) 0 0
  | 0, c, hh, hc, hr => by
    refine G_iload_n dX4_mixHearth_2 rfl ?_
    refine G_bipush (v := 12) dX4_mixHearth_3 (by decide) ?_
    refine G_icmp_geN (a := c) (c := 12) 25 dX4_mixHearth_5 (by decide) (by omega) (fun c5 => ?_) (fun c5 => ?_)
    · rw [itr_0] at hr
      subst hr
      exact K _
    · exact (show False by omega).elim
  | d + 1, c, hh, hc, hr => by
    refine G_iload_n dX4_mixHearth_2 rfl ?_
    refine G_bipush (v := 12) dX4_mixHearth_3 (by decide) ?_
    refine G_icmp_geN (a := c) (c := 12) 25 dX4_mixHearth_5 (by decide) (by omega) (fun c5 => ?_) (fun c5 => ?_)
    · exact (show False by omega).elim
    · refine G_aload_n dX4_mixHearth_8 rfl ?_
      refine G_aload_n dX4_mixHearth_9 rfl ?_
      refine G_iload_n dX4_mixHearth_10 rfl ?_
      refine G_iload_n dX4_mixHearth_11 rfl ?_
      refine G_callVi dX4_mixHearth_12 kX4_mixHearth_X4_tellsHearth ⟨rfl, rfl⟩ ⟨Nat.zero_le _, Nat.zero_le _⟩ (m_tellsHearth (hΩ.fv th sp sv m sn hs bf ln i sg fi se t3 hh) (h := h) (by omega) (w := c) (by omega)) rfl rfl ((hΩ _ _ _ _ _ _ _ _ _ _ _ _ _ _ _).1) rfl rfl ?_
      refine G_i2l dX4_mixHearth_15 ?_
      refine G_callVv dX4_mixHearth_16 kX4_mixHearth_X4_mix ⟨rfl, rfl⟩ ⟨Nat.zero_le _, Nat.zero_le _⟩ (m_mix hΩ) rfl rfl ((hΩ _ _ _ _ _ _ _ _ _ _ _ _ _ _ _).1) rfl rfl ?_
      refine G_iincN (a := c) (s := c + 1) dX4_mixHearth_19 rfl (by omega) (L' := [some (.ref mp), some (.int (nI (h))), some (.int (nI (c + 1)))]) rfl ?_
      refine G_goto 2 dX4_mixHearth_22 (by decide) ?_
      exact ml_mh1 hΩ hh5 K d (c + 1) _ (by omega) (by rw [hr]; rfl)
theorem ml_mh2 (hΩ : MV mp p1 p2 p3 p5 p7 Ω) {th hs sg fi se t3 : Int32} {f sp sv sn bf : mj_S} {m ln i : Nat} {h : Nat} (hh5 : h < 5)  {X : mj_R} {R : Int64} (K : ∀ y : Option Value, GG l cX4_mixHearth MX4_mixHearth false X 55 [some (.ref mp), some (.int (nI (h))), y] [] (Ω th f sp sv m sn hs bf ln i sg fi se t3 R) 0 0) : ∀ (d c : Nat) (hh : Int64), c + d = 20 → R = itr (fun k a => mx (s_ofP f h (k / 5) (k % 5)) a) d c hh → GG l cX4_mixHearth MX4_mixHearth false X 27 [some (.ref mp), some (.int (nI (h))), some (.int (nI (c)))] [] (Ω th f sp sv m sn hs bf ln i sg fi se t3 hh) 0 0
  | 0, c, hh, hc, hr => by
    refine G_iload_n dX4_mixHearth_27 rfl ?_
    refine G_bipush (v := 20) dX4_mixHearth_28 (by decide) ?_
    refine G_icmp_geN (a := c) (c := 20) 55 dX4_mixHearth_30 (by decide) (by omega) (fun c30 => ?_) (fun c30 => ?_)
    · rw [itr_0] at hr
      subst hr
      exact K _
    · exact (show False by omega).elim
  | d + 1, c, hh, hc, hr => by
    refine G_iload_n dX4_mixHearth_27 rfl ?_
    refine G_bipush (v := 20) dX4_mixHearth_28 (by decide) ?_
    refine G_icmp_geN (a := c) (c := 20) 55 dX4_mixHearth_30 (by decide) (by omega) (fun c30 => ?_) (fun c30 => ?_)
    · exact (show False by omega).elim
    · refine G_aload_n dX4_mixHearth_33 rfl ?_
      refine G_aload_n dX4_mixHearth_34 rfl ?_
      refine G_iload_n dX4_mixHearth_35 rfl ?_
      refine G_iload_n dX4_mixHearth_36 rfl ?_
      refine G_iconst (v := 5) dX4_mixHearth_37 (by decide) ?_
      refine G_idivN (a := c) (c := 5) (s := ((c) / 5)) dX4_mixHearth_38 (by omega) (by omega) ?_
      refine G_iload_n dX4_mixHearth_39 rfl ?_
      refine G_iconst (v := 5) dX4_mixHearth_40 (by decide) ?_
      refine G_iremN (a := c) (c := 5) (s := ((c) % 5)) dX4_mixHearth_41 (by omega) (by omega) ?_
      refine G_callVi dX4_mixHearth_42 kX4_mixHearth_X4_tellsPlot ⟨rfl, rfl⟩ ⟨Nat.zero_le _, Nat.zero_le _⟩ (m_tellsPlot (hΩ.fv th sp sv m sn hs bf ln i sg fi se t3 hh) (h := h) (b := ((c) / 5)) (by omega) (by omega) (w := ((c) % 5)) (by omega)) rfl rfl ((hΩ _ _ _ _ _ _ _ _ _ _ _ _ _ _ _).1) rfl rfl ?_
      refine G_i2l dX4_mixHearth_45 ?_
      refine G_callVv dX4_mixHearth_46 kX4_mixHearth_X4_mix ⟨rfl, rfl⟩ ⟨Nat.zero_le _, Nat.zero_le _⟩ (m_mix hΩ) rfl rfl ((hΩ _ _ _ _ _ _ _ _ _ _ _ _ _ _ _).1) rfl rfl ?_
      refine G_iincN (a := c) (s := c + 1) dX4_mixHearth_49 rfl (by omega) (L' := [some (.ref mp), some (.int (nI (h))), some (.int (nI (c + 1)))]) rfl ?_
      refine G_goto 27 dX4_mixHearth_52 (by decide) ?_
      exact ml_mh2 hΩ hh5 K d (c + 1) _ (by omega) (by rw [hr]; rfl)
theorem m_mixHearth (hΩ : MV mp p1 p2 p3 p5 p7 Ω) {th hs sg fi se t3 : Int32} {f sp sv sn bf : mj_S} {m ln i : Nat} {hh : Int64} {D : Nat} (ho : oA f D) (hv : vt f) (hD : D < 2147479000) {h : Nat} (hh5 : h < 5) : MC l yX4_mixHearth wsX4_mixHearth rmX4_mixHearth false [.ref mp, .int (nI (h))] (Ω th f sp sv m sn hs bf ln i sg fi se t3 hh) none (Ω th f f sv m sn hs bf ln i sg fi se t3 (g_hearth f h hh)) := by
  refine mj_MC (cc := cX4_mixHearth) (nl := 3) (ret := none) (plainFor_of_name (by decide)) rfl (rfl) (Nat.le_of_ble_eq_true rfl) ?_
  show GG l cX4_mixHearth MX4_mixHearth false (.inl (none, Ω th f f sv m sn hs bf ln i sg fi se t3 (g_hearth f h hh))) 0 [some (.ref mp), some (.int (nI (h))), none] [] (Ω th f sp sv m sn hs bf ln i sg fi se t3 hh) 0 0
  refine G_iconst (v := 0) dX4_mixHearth_0 (by decide) ?_
  refine G_istore_n dX4_mixHearth_1 rfl (L' := [some (.ref mp), some (.int (nI (h))), some (.int 0)]) rfl ?_
  refine ml_mh1 hΩ hh5 (fun y => ?_) 12 0 hh (by omega) rfl
  refine G_iconst (v := 0) dX4_mixHearth_25 (by decide) ?_
  refine G_istore_n dX4_mixHearth_26 rfl (L' := [some (.ref mp), some (.int (nI (h))), some (.int 0)]) rfl ?_
  refine ml_mh2 hΩ hh5 (fun y => ?_) 20 0 _ (by omega) rfl
  refine G_aload_n dX4_mixHearth_55 rfl ?_
  refine G_aload_n dX4_mixHearth_56 rfl ?_
  refine G_iload_n dX4_mixHearth_57 rfl ?_
  refine G_callVi dX4_mixHearth_58 kX4_mixHearth_X4_daysUntil ⟨rfl, rfl⟩ ⟨Nat.zero_le _, Nat.zero_le _⟩ (m_daysUntil hΩ ho hv (by omega) (h := h) (by omega)) rfl rfl ((hΩ _ _ _ _ _ _ _ _ _ _ _ _ _ _ _).1) rfl rfl ?_
  refine G_i2l dX4_mixHearth_61 ?_
  refine G_callVv dX4_mixHearth_62 kX4_mixHearth_X4_mix ⟨rfl, rfl⟩ ⟨Nat.zero_le _, Nat.zero_le _⟩ (m_mix hΩ) rfl rfl ((hΩ _ _ _ _ _ _ _ _ _ _ _ _ _ _ _).1) rfl rfl ?_
  refine G_aload_n dX4_mixHearth_65 rfl ?_
  refine G_aload_n dX4_mixHearth_66 rfl ?_
  refine G_iconst (v := 0) dX4_mixHearth_67 (by decide) ?_
  refine G_iload_n dX4_mixHearth_68 rfl ?_
  refine G_callVi dX4_mixHearth_69 kX4_mixHearth_X4_bestFor ⟨rfl, rfl⟩ ⟨Nat.zero_le _, Nat.zero_le _⟩ (m_bestFor hΩ ho hv (by omega) (k := 0) (h := h) (by omega) (by omega)) rfl rfl ((hΩ _ _ _ _ _ _ _ _ _ _ _ _ _ _ _).1) rfl rfl ?_
  refine G_i2l dX4_mixHearth_72 ?_
  refine G_callVv dX4_mixHearth_73 kX4_mixHearth_X4_mix ⟨rfl, rfl⟩ ⟨Nat.zero_le _, Nat.zero_le _⟩ (m_mix hΩ) rfl rfl ((hΩ _ _ _ _ _ _ _ _ _ _ _ _ _ _ _).1) rfl rfl ?_
  exact G_vret dX4_mixHearth_76 ⟨Nat.zero_le _, Nat.zero_le _⟩ (by rw [show s_bsp f h f = f from s_bsp_f f h 4 0]; rfl)
theorem ml_dg1 (hΩ : MV mp p1 p2 p3 p5 p7 Ω) {th hs sg fi se t3 : Int32} {f sp sv sn bf : mj_S} {m ln i : Nat} (hm : m ≤ 6) {X : mj_R} {R : Int64} (K : ∀ y : Option Value, GG l cX4_digest MX4_digest false X 36 [some (.ref mp), y] [] (Ω th f sp sv m sn hs bf ln i sg fi se t3 R) 0 0) : ∀ (d c : Nat) (hh : Int64), c + d = 13 → R = itr (fun k a => mx (s_ofC f m k) a) d c hh → GG l cX4_digest MX4_digest false X 14 [some (.ref mp), some (.int (nI (c)))] [] (Ω th f sp sv m sn hs bf ln i sg fi se t3 hh) 0 0
  | 0, c, hh, hc, hr => by
    refine G_iload_n dX4_digest_14 rfl ?_
    refine G_bipush (v := 13) dX4_digest_15 (by decide) ?_
    refine G_icmp_geN (a := c) (c := 13) 36 dX4_digest_17 (by decide) (by omega) (fun c17 => ?_) (fun c17 => ?_)
    · rw [itr_0] at hr
      subst hr
      exact K _
    · exact (show False by omega).elim
  | d + 1, c, hh, hc, hr => by
    refine G_iload_n dX4_digest_14 rfl ?_
    refine G_bipush (v := 13) dX4_digest_15 (by decide) ?_
    refine G_icmp_geN (a := c) (c := 13) 36 dX4_digest_17 (by decide) (by omega) (fun c17 => ?_) (fun c17 => ?_)
    · exact (show False by omega).elim
    · refine G_aload_n dX4_digest_20 rfl ?_
      refine G_aload_n dX4_digest_21 rfl ?_
      refine G_iload_n dX4_digest_22 rfl ?_
      refine G_callVi dX4_digest_23 kX4_digest_X4_tellsCount ⟨rfl, rfl⟩ ⟨Nat.zero_le _, Nat.zero_le _⟩ (m_tellsCount hΩ (w := c) (by omega)) rfl rfl ((hΩ _ _ _ _ _ _ _ _ _ _ _ _ _ _ _).1) rfl rfl ?_
      refine G_i2l dX4_digest_26 ?_
      refine G_callVv dX4_digest_27 kX4_digest_X4_mix ⟨rfl, rfl⟩ ⟨Nat.zero_le _, Nat.zero_le _⟩ (m_mix hΩ) rfl rfl ((hΩ _ _ _ _ _ _ _ _ _ _ _ _ _ _ _).1) rfl rfl ?_
      refine G_iincN (a := c) (s := c + 1) dX4_digest_30 rfl (by omega) (L' := [some (.ref mp), some (.int (nI (c + 1)))]) rfl ?_
      refine G_goto 14 dX4_digest_33 (by decide) ?_
      exact ml_dg1 hΩ hm K d (c + 1) _ (by omega) (by rw [hr]; rfl)
theorem ml_dg2 (hΩ : MV mp p1 p2 p3 p5 p7 Ω) {th hs sg fi se t3 : Int32} {f sv sn bf : mj_S} {m ln i : Nat} {D : Nat} (ho : oA f D) (hv : vt f) (hD : D < 2147479000)  {X : mj_R} {R : Int64} {S : mj_S} (K : ∀ y : Option Value, GG l cX4_digest MX4_digest false X 54 [some (.ref mp), y] [] (Ω th f S sv m sn hs bf ln i sg fi se t3 R) 0 0) : ∀ (d c : Nat) (hh : Int64) (sp : mj_S), c + d = 5 → R = itr (g_hearth f) d c hh → S = itr (fun _ _ => f) d c sp → GG l cX4_digest MX4_digest false X 38 [some (.ref mp), some (.int (nI (c)))] [] (Ω th f sp sv m sn hs bf ln i sg fi se t3 hh) 0 0
  | 0, c, hh, sp, hc, hr, hq => by
    refine G_iload_n dX4_digest_38 rfl ?_
    refine G_iconst (v := 5) dX4_digest_39 (by decide) ?_
    refine G_icmp_geN (a := c) (c := 5) 54 dX4_digest_40 (by decide) (by omega) (fun c40 => ?_) (fun c40 => ?_)
    · rw [itr_0] at hr
      rw [itr_0] at hq
      subst hq
      subst hr
      exact K _
    · exact (show False by omega).elim
  | d + 1, c, hh, sp, hc, hr, hq => by
    refine G_iload_n dX4_digest_38 rfl ?_
    refine G_iconst (v := 5) dX4_digest_39 (by decide) ?_
    refine G_icmp_geN (a := c) (c := 5) 54 dX4_digest_40 (by decide) (by omega) (fun c40 => ?_) (fun c40 => ?_)
    · exact (show False by omega).elim
    · refine G_aload_n dX4_digest_43 rfl ?_
      refine G_iload_n dX4_digest_44 rfl ?_
      refine G_callVv dX4_digest_45 kX4_digest_X4_mixHearth ⟨rfl, rfl⟩ ⟨Nat.zero_le _, Nat.zero_le _⟩ (m_mixHearth hΩ ho hv hD (h := c) (by omega)) rfl rfl ((hΩ _ _ _ _ _ _ _ _ _ _ _ _ _ _ _).1) rfl rfl ?_
      refine G_iincN (a := c) (s := c + 1) dX4_digest_48 rfl (by omega) (L' := [some (.ref mp), some (.int (nI (c + 1)))]) rfl ?_
      refine G_goto 38 dX4_digest_51 (by decide) ?_
      exact ml_dg2 hΩ ho hv hD K d (c + 1) _ _ (by omega) (by rw [hr]; rfl) (by rw [hq, itr_s])
theorem ml_dg3 (hΩ : MV mp p1 p2 p3 p5 p7 Ω) {th hs sg fi se t3 : Int32} {f sp sv sn bf : mj_S} {m ln i : Nat}  {X : mj_R} {R : Int64} (K : ∀ y : Option Value, GG l cX4_digest MX4_digest false X 83 [some (.ref mp), y] [] (Ω th f sp sv m sn hs bf ln i sg fi se t3 R) 0 0) : ∀ (d c : Nat) (hh : Int64), c + d = 20 → R = itr (fun k a => mx (s_ofB (s_com f) f (k / 5) (k % 5)) a) d c hh → GG l cX4_digest MX4_digest false X 56 [some (.ref mp), some (.int (nI (c)))] [] (Ω th f sp sv m sn hs bf ln i sg fi se t3 hh) 0 0
  | 0, c, hh, hc, hr => by
    refine G_iload_n dX4_digest_56 rfl ?_
    refine G_bipush (v := 20) dX4_digest_57 (by decide) ?_
    refine G_icmp_geN (a := c) (c := 20) 83 dX4_digest_59 (by decide) (by omega) (fun c59 => ?_) (fun c59 => ?_)
    · rw [itr_0] at hr
      subst hr
      exact K _
    · exact (show False by omega).elim
  | d + 1, c, hh, hc, hr => by
    refine G_iload_n dX4_digest_56 rfl ?_
    refine G_bipush (v := 20) dX4_digest_57 (by decide) ?_
    refine G_icmp_geN (a := c) (c := 20) 83 dX4_digest_59 (by decide) (by omega) (fun c59 => ?_) (fun c59 => ?_)
    · exact (show False by omega).elim
    · refine G_aload_n dX4_digest_62 rfl ?_
      refine G_aload_n dX4_digest_63 rfl ?_
      refine G_iload_n dX4_digest_64 rfl ?_
      refine G_iconst (v := 5) dX4_digest_65 (by decide) ?_
      refine G_idivN (a := c) (c := 5) (s := ((c) / 5)) dX4_digest_66 (by omega) (by omega) ?_
      refine G_iload_n dX4_digest_67 rfl ?_
      refine G_iconst (v := 5) dX4_digest_68 (by decide) ?_
      refine G_iremN (a := c) (c := 5) (s := ((c) % 5)) dX4_digest_69 (by omega) (by omega) ?_
      refine G_callVi dX4_digest_70 kX4_digest_X4_tellsBank ⟨rfl, rfl⟩ ⟨Nat.zero_le _, Nat.zero_le _⟩ (m_tellsBank (hΩ.fv th sp sv m sn hs bf ln i sg fi se t3 hh) (b := ((c) / 5)) (by omega) (w := ((c) % 5)) (by omega)) rfl rfl ((hΩ _ _ _ _ _ _ _ _ _ _ _ _ _ _ _).1) rfl rfl ?_
      refine G_i2l dX4_digest_73 ?_
      refine G_callVv dX4_digest_74 kX4_digest_X4_mix ⟨rfl, rfl⟩ ⟨Nat.zero_le _, Nat.zero_le _⟩ (m_mix hΩ) rfl rfl ((hΩ _ _ _ _ _ _ _ _ _ _ _ _ _ _ _).1) rfl rfl ?_
      refine G_iincN (a := c) (s := c + 1) dX4_digest_77 rfl (by omega) (L' := [some (.ref mp), some (.int (nI (c + 1)))]) rfl ?_
      refine G_goto 56 dX4_digest_80 (by decide) ?_
      exact ml_dg3 hΩ  K d (c + 1) _ (by omega) (by rw [hr]; rfl)
theorem ml_dg4 (hΩ : MV mp p1 p2 p3 p5 p7 Ω) {th hs sg fi se t3 : Int32} {f sp sv sn bf : mj_S} {m ln i : Nat}  {X : mj_R} {R : Int64} (K : ∀ y : Option Value, GG l cX4_digest MX4_digest false X 112 [some (.ref mp), y] [] (Ω th f sp sv m sn hs bf ln i sg fi se t3 R) 0 0) : ∀ (d c : Nat) (hh : Int64), c + d = 24 → R = itr (fun k a => mx (f (133 + 6 * (k % 4) + k / 4)) a) d c hh → GG l cX4_digest MX4_digest false X 85 [some (.ref mp), some (.int (nI (c)))] [] (Ω th f sp sv m sn hs bf ln i sg fi se t3 hh) 0 0
  | 0, c, hh, hc, hr => by
    refine G_iload_n dX4_digest_85 rfl ?_
    refine G_bipush (v := 24) dX4_digest_86 (by decide) ?_
    refine G_icmp_geN (a := c) (c := 24) 112 dX4_digest_88 (by decide) (by omega) (fun c88 => ?_) (fun c88 => ?_)
    · rw [itr_0] at hr
      subst hr
      exact K _
    · exact (show False by omega).elim
  | d + 1, c, hh, hc, hr => by
    refine G_iload_n dX4_digest_85 rfl ?_
    refine G_bipush (v := 24) dX4_digest_86 (by decide) ?_
    refine G_icmp_geN (a := c) (c := 24) 112 dX4_digest_88 (by decide) (by omega) (fun c88 => ?_) (fun c88 => ?_)
    · exact (show False by omega).elim
    · refine G_aload_n dX4_digest_91 rfl ?_
      refine G_aload_n dX4_digest_92 rfl ?_
      refine G_iload_n dX4_digest_93 rfl ?_
      refine G_iconst (v := 4) dX4_digest_94 (by decide) ?_
      refine G_idivN (a := c) (c := 4) (s := ((c) / 4)) dX4_digest_95 (by omega) (by omega) ?_
      refine G_iload_n dX4_digest_96 rfl ?_
      refine G_iconst (v := 4) dX4_digest_97 (by decide) ?_
      refine G_iremN (a := c) (c := 4) (s := ((c) % 4)) dX4_digest_98 (by omega) (by omega) ?_
      refine G_callVi dX4_digest_99 kX4_digest_X4_tellsCutter ⟨rfl, rfl⟩ ⟨Nat.zero_le _, Nat.zero_le _⟩ (m_tellsCutter (hΩ.fv th sp sv m sn hs bf ln i sg fi se t3 hh) (c := ((c) / 4)) (w := ((c) % 4)) (by omega) (by omega)) rfl rfl ((hΩ _ _ _ _ _ _ _ _ _ _ _ _ _ _ _).1) rfl rfl ?_
      refine G_i2l dX4_digest_102 ?_
      refine G_callVv dX4_digest_103 kX4_digest_X4_mix ⟨rfl, rfl⟩ ⟨Nat.zero_le _, Nat.zero_le _⟩ (m_mix hΩ) rfl rfl ((hΩ _ _ _ _ _ _ _ _ _ _ _ _ _ _ _).1) rfl rfl ?_
      refine G_iincN (a := c) (s := c + 1) dX4_digest_106 rfl (by omega) (L' := [some (.ref mp), some (.int (nI (c + 1)))]) rfl ?_
      refine G_goto 85 dX4_digest_109 (by decide) ?_
      exact ml_dg4 hΩ  K d (c + 1) _ (by omega) (by rw [hr]; rfl)
theorem ml_dg5 (hΩ : MV mp p1 p2 p3 p5 p7 Ω) {th hs sg fi se t3 : Int32} {f sp sv sn bf : mj_S} {m ln i : Nat} {si : Nat} (hsi : f 2 = nI si) (hsi9 : si ≤ 9) {X : mj_R} {R : Int64} (K : ∀ y : Option Value, GG l cX4_digest MX4_digest false X 136 [some (.ref mp), y] [] (Ω th f sp sv m sn hs bf ln i sg fi se t3 R) 0 0) : ∀ (d c : Nat) (hh : Int64), c + d = 10 → R = itr (fun k a => mx (nI (s_rain f k)) a) d c hh → GG l cX4_digest MX4_digest false X 114 [some (.ref mp), some (.int (nI (c)))] [] (Ω th f sp sv m sn hs bf ln i sg fi se t3 hh) 0 0
  | 0, c, hh, hc, hr => by
    refine G_iload_n dX4_digest_114 rfl ?_
    refine G_bipush (v := 10) dX4_digest_115 (by decide) ?_
    refine G_icmp_geN (a := c) (c := 10) 136 dX4_digest_117 (by decide) (by omega) (fun c117 => ?_) (fun c117 => ?_)
    · rw [itr_0] at hr
      subst hr
      exact K _
    · exact (show False by omega).elim
  | d + 1, c, hh, hc, hr => by
    refine G_iload_n dX4_digest_114 rfl ?_
    refine G_bipush (v := 10) dX4_digest_115 (by decide) ?_
    refine G_icmp_geN (a := c) (c := 10) 136 dX4_digest_117 (by decide) (by omega) (fun c117 => ?_) (fun c117 => ?_)
    · exact (show False by omega).elim
    · refine G_aload_n dX4_digest_120 rfl ?_
      refine G_aload_n dX4_digest_121 rfl ?_
      refine G_iload_n dX4_digest_122 rfl ?_
      refine G_callVi dX4_digest_123 kX4_digest_X4_rainOf ⟨rfl, rfl⟩ ⟨Nat.zero_le _, Nat.zero_le _⟩ (m_rainOf (hΩ.fv th sp sv m sn hs bf ln i sg fi se t3 hh) (d := c) (sg := si) (by omega) hsi hsi9) rfl rfl ((hΩ _ _ _ _ _ _ _ _ _ _ _ _ _ _ _).1) rfl rfl ?_
      refine G_i2l dX4_digest_126 ?_
      refine G_callVv dX4_digest_127 kX4_digest_X4_mix ⟨rfl, rfl⟩ ⟨Nat.zero_le _, Nat.zero_le _⟩ (m_mix hΩ) rfl rfl ((hΩ _ _ _ _ _ _ _ _ _ _ _ _ _ _ _).1) rfl rfl ?_
      refine G_iincN (a := c) (s := c + 1) dX4_digest_130 rfl (by omega) (L' := [some (.ref mp), some (.int (nI (c + 1)))]) rfl ?_
      refine G_goto 114 dX4_digest_133 (by decide) ?_
      exact ml_dg5 hΩ hsi hsi9 K d (c + 1) _ (by omega) (by rw [hr]; rfl)
theorem ml_dg6 (hΩ : MV mp p1 p2 p3 p5 p7 Ω) {th hs sg fi se t3 : Int32} {f sv sn bf : mj_S} {m ln i : Nat} {D : Nat} (ho : oA f D) (hv : vt f) (hD : D < 2147479000)  {X : mj_R} {R : Int64} {S : mj_S} (K : ∀ y : Option Value, GG l cX4_digest MX4_digest false X 161 [some (.ref mp), y] [] (Ω th f S sv m sn hs bf ln i sg fi se t3 R) 0 0) : ∀ (d c : Nat) (hh : Int64) (sp : mj_S), c + d = 3 → R = itr (fun k a => mx (s_would f 10 k) a) d c hh → S = itr (fun _ _ => f) d c sp → GG l cX4_digest MX4_digest false X 138 [some (.ref mp), some (.int (nI (c)))] [] (Ω th f sp sv m sn hs bf ln i sg fi se t3 hh) 0 0
  | 0, c, hh, sp, hc, hr, hq => by
    refine G_iload_n dX4_digest_138 rfl ?_
    refine G_iconst (v := 3) dX4_digest_139 (by decide) ?_
    refine G_icmp_geN (a := c) (c := 3) 161 dX4_digest_140 (by decide) (by omega) (fun c140 => ?_) (fun c140 => ?_)
    · rw [itr_0] at hr
      rw [itr_0] at hq
      subst hq
      subst hr
      exact K _
    · exact (show False by omega).elim
  | d + 1, c, hh, sp, hc, hr, hq => by
    refine G_iload_n dX4_digest_138 rfl ?_
    refine G_iconst (v := 3) dX4_digest_139 (by decide) ?_
    refine G_icmp_geN (a := c) (c := 3) 161 dX4_digest_140 (by decide) (by omega) (fun c140 => ?_) (fun c140 => ?_)
    · exact (show False by omega).elim
    · refine G_aload_n dX4_digest_143 rfl ?_
      refine G_aload_n dX4_digest_144 rfl ?_
      refine G_bipush (v := 10) dX4_digest_145 (by decide) ?_
      refine G_iload_n dX4_digest_147 rfl ?_
      refine G_callVi dX4_digest_148 kX4_digest_X4_wouldPass ⟨rfl, rfl⟩ ⟨Nat.zero_le _, Nat.zero_le _⟩ (m_wouldPass hΩ ho hv (n := 10) (by omega) (w := c) (by omega)) rfl rfl ((hΩ _ _ _ _ _ _ _ _ _ _ _ _ _ _ _).1) rfl rfl ?_
      refine G_i2l dX4_digest_151 ?_
      refine G_callVv dX4_digest_152 kX4_digest_X4_mix ⟨rfl, rfl⟩ ⟨Nat.zero_le _, Nat.zero_le _⟩ (m_mix hΩ) rfl rfl ((hΩ _ _ _ _ _ _ _ _ _ _ _ _ _ _ _).1) rfl rfl ?_
      refine G_iincN (a := c) (s := c + 1) dX4_digest_155 rfl (by omega) (L' := [some (.ref mp), some (.int (nI (c + 1)))]) rfl ?_
      refine G_goto 138 dX4_digest_158 (by decide) ?_
      exact ml_dg6 hΩ ho hv hD K d (c + 1) _ _ (by omega) (by rw [hr]; rfl) (by rw [hq, itr_s])
theorem ml_dg7 (hΩ : MV mp p1 p2 p3 p5 p7 Ω) {th hs sg fi se t3 : Int32} {f sp sv sn bf : mj_S} {m ln i : Nat} (hl : ln ≤ 60) {X : mj_R} {R : Int64} (K : ∀ y : Option Value, GG l cX4_digest MX4_digest false X 208 [some (.ref mp), y] [] (Ω th f sp sv m sn hs bf ln i sg fi se t3 R) 0 0) : ∀ (d c : Nat) (hh : Int64), c + d = ln → R = itr (fun k a => mx (bf k) a) d c hh → GG l cX4_digest MX4_digest false X 183 [some (.ref mp), some (.int (nI (c)))] [] (Ω th f sp sv m sn hs bf ln i sg fi se t3 hh) 0 0
  | 0, c, hh, hc, hr => by
    refine G_iload_n dX4_digest_183 rfl ?_
    refine G_aload_n dX4_digest_184 rfl ?_
    refine G_getf dX4_digest_185 fX4_digest_137 ((hΩ _ _ _ _ _ _ _ _ _ _ _ _ _ _ _).1) (rfl) ?_
    refine G_icmp_geN (a := c) (c := ln) 208 dX4_digest_188 (by decide) (by omega) (fun c188 => ?_) (fun c188 => ?_)
    · rw [itr_0] at hr
      subst hr
      exact K _
    · exact (show False by omega).elim
  | d + 1, c, hh, hc, hr => by
    refine G_iload_n dX4_digest_183 rfl ?_
    refine G_aload_n dX4_digest_184 rfl ?_
    refine G_getf dX4_digest_185 fX4_digest_137 ((hΩ _ _ _ _ _ _ _ _ _ _ _ _ _ _ _).1) (rfl) ?_
    refine G_icmp_geN (a := c) (c := ln) 208 dX4_digest_188 (by decide) (by omega) (fun c188 => ?_) (fun c188 => ?_)
    · exact (show False by omega).elim
    · refine G_aload_n dX4_digest_191 rfl ?_
      refine G_aload_n dX4_digest_192 rfl ?_
      refine G_getf dX4_digest_193 fX4_digest_22 ((hΩ _ _ _ _ _ _ _ _ _ _ _ _ _ _ _).1) (rfl) ?_
      refine G_iload_n dX4_digest_196 rfl ?_
      refine G_ialdN (j := c) dX4_digest_197 ((hΩ _ _ _ _ _ _ _ _ _ _ _ _ _ _ _).2.2.2.2.2.1) (by omega) ?_
      refine G_i2l dX4_digest_198 ?_
      refine G_callVv dX4_digest_199 kX4_digest_X4_mix ⟨rfl, rfl⟩ ⟨Nat.zero_le _, Nat.zero_le _⟩ (m_mix hΩ) rfl rfl ((hΩ _ _ _ _ _ _ _ _ _ _ _ _ _ _ _).1) rfl rfl ?_
      refine G_iincN (a := c) (s := c + 1) dX4_digest_202 rfl (by omega) (L' := [some (.ref mp), some (.int (nI (c + 1)))]) rfl ?_
      refine G_goto 183 dX4_digest_205 (by decide) ?_
      exact ml_dg7 hΩ hl K d (c + 1) _ (by omega) (by rw [hr]; rfl)
end RI

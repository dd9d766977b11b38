/-! THE LAW'S OWN METHODS over its rows -/
abbrev rmL_begins : Room := { frames := 0, cells := 0, slots := 0, locals := 0 }
abbrev ML_begins : mj_M := (RL, 5, wsL_begins, rmL_begins, false, none)
abbrev rmL_carts : Room := { frames := 0, cells := 0, slots := 0, locals := 0 }
abbrev ML_carts : mj_M := (RL, 11, wsL_carts, rmL_carts, false, none)
abbrev rmL_commons : Room := { frames := 0, cells := 0, slots := 0, locals := 0 }
abbrev ML_commons : mj_M := (RL, 2, wsL_commons, rmL_commons, false, none)
abbrev rmL_cuts : Room := { frames := 0, cells := 0, slots := 0, locals := 0 }
abbrev ML_cuts : mj_M := (RL, 8, wsL_cuts, rmL_cuts, false, none)
abbrev rmL_days : Room := { frames := 2, cells := 0, slots := 0, locals := 45 }
abbrev ML_days : mj_M := (RL, 11, wsL_days, rmL_days, false, none)
abbrev rmL_due : Room := { frames := 3, cells := 0, slots := 0, locals := 75 }
abbrev ML_due : mj_M := (RL, 14, wsL_due, rmL_due, false, none)
abbrev rmL_gives : Room := { frames := 1, cells := 0, slots := 0, locals := 21 }
abbrev ML_gives : mj_M := (RL, 6, wsL_gives, rmL_gives, false, none)
abbrev rmL_half : Room := { frames := 0, cells := 0, slots := 0, locals := 0 }
abbrev ML_half : mj_M := (RL, 1, wsL_half, rmL_half, false, none)
abbrev rmL_low : Room := { frames := 0, cells := 0, slots := 0, locals := 0 }
abbrev ML_low : mj_M := (RL, 2, wsL_low, rmL_low, false, none)
abbrev rmL_weather : Room := { frames := 1, cells := 0, slots := 0, locals := 20 }
abbrev ML_weather : mj_M := (RL, 6, wsL_weather, rmL_weather, false, none)
abbrev rmL_why : Room := { frames := 1, cells := 0, slots := 0, locals := 24 }
abbrev ML_why : mj_M := (RL, 6, wsL_why, rmL_why, false, none)
abbrev rmL_workers : Room := { frames := 0, cells := 0, slots := 0, locals := 0 }
abbrev ML_workers : mj_M := (RL, 5, wsL_workers, rmL_workers, false, none)
theorem kL_days_L_weather : mj_cwS ML_days 77 yL_weather wsL_weather rmL_weather 4 := ⟨_, _, _, _, gL_days_L_weather, rfl, by decide +kernel, by decide⟩
theorem kL_days_L_cuts : mj_cwS ML_days 81 yL_cuts wsL_cuts rmL_cuts 4 := ⟨_, _, _, _, gL_days_L_cuts, rfl, by decide +kernel, by decide⟩
theorem kL_days_L_carts : mj_cwS ML_days 85 yL_carts wsL_carts rmL_carts 3 := ⟨_, _, _, _, gL_days_L_carts, rfl, by decide +kernel, by decide⟩
theorem kL_due_L_why : mj_cwS ML_due 117 yL_why wsL_why rmL_why 5 := ⟨_, _, _, _, gL_due_L_why, rfl, by decide +kernel, by decide⟩
theorem kL_due_L_workers : mj_cwS ML_due 89 yL_workers wsL_workers rmL_workers 3 := ⟨_, _, _, _, gL_due_L_workers, rfl, by decide +kernel, by decide⟩
theorem kL_due_L_days : mj_cwS ML_due 158 yL_days wsL_days rmL_days 7 := ⟨_, _, _, _, gL_due_L_days, rfl, by decide +kernel, by decide⟩
theorem kL_due_L_gives : mj_cwS ML_due 162 yL_gives wsL_gives rmL_gives 5 := ⟨_, _, _, _, gL_due_L_gives, rfl, by decide +kernel, by decide⟩
theorem kL_gives_L_commons : mj_cwS ML_gives 93 yL_commons wsL_commons rmL_commons 2 := ⟨_, _, _, _, gL_gives_L_commons, rfl, by decide +kernel, by decide⟩
theorem kL_weather_L_half : mj_cwS ML_weather 72 yL_half wsL_half rmL_half 1 := ⟨_, _, _, _, gL_weather_L_half, rfl, by decide +kernel, by decide⟩
theorem kL_why_L_workers : mj_cwS ML_why 89 yL_workers wsL_workers rmL_workers 3 := ⟨_, _, _, _, gL_why_L_workers, rfl, by decide +kernel, by decide⟩
def lowM (v : Int32) : Nat := v.toBitVec.toNat % 2 ^ 31
def lowN (v : Int32) (n : Nat) : Nat := lowM v % n
theorem lowM_lt (v : Int32) : lowM v < 2147483648 := Nat.mod_lt _ (by decide)
theorem lowN_lt (v : Int32) {n : Nat} (h : 0 < n) : lowN v n < n := Nat.mod_lt _ h
theorem low_and (v : Int32) : v &&& 2147483647 = nI (lowM v) := pk_and v 31 (by decide)
theorem half_eq {a : Nat} (h : a < 2147483647) : nI a - nI a / 2 = (nI a + 1) / 2 := by
  rw [n_half h, show (2 : Int32) = nI 2 from rfl, pk_div (by omega) (by omega) (by omega), pk_sub (by omega)]
  congr 1
  omega
/-- how many work for the hearth x on the bank y; none is named by less than 0 -/
def s_wk (f : mj_S) (x y : Int32) : Int32 := itr (fun c a => a + (if 0 ≤ f (139 + c) ∧ (x < 0 ∨ f (139 + c) = x) ∧ (y < 0 ∨ f (145 + c) = y) then 1 else 0)) 6 0 0
section LA
variable {l : Launch} {w : mj_W} {Ψ : mj_S → mj_W}
theorem lm_half {x : Int32} {a : Nat} (e : x = nI a) (h : a < 2147483647) : MC l yL_half wsL_half rmL_half false [.int x] (w) (some (.int ((x + 1) / 2))) (w) := by
  refine mj_MC (cc := cL_half) (nl := 1) (ret := (some .int)) (plainFor_of_name (by decide)) rfl (⟨_, rfl, rfl⟩) (Nat.le_of_ble_eq_true rfl) ?_
  show GG l cL_half ML_half false (.inl ((some (.int ((x + 1) / 2))), w)) 0 [some (.int x)] [] (w) 0 0
  refine G_iload_n dL_half_0 rfl ?_
  refine G_iload_n dL_half_1 rfl ?_
  refine G_iconst (v := 2) dL_half_2 (by decide) ?_
  refine G_idiv dL_half_3 (by decide) ?_
  refine G_isub dL_half_4 ?_
  exact G_iret dL_half_5 ⟨Nat.zero_le _, Nat.zero_le _⟩ (X_i (by rw [e]; exact (half_eq h).symm))
theorem lm_low {v : Int32} {n : Nat} (hn : 0 < n ∧ n < 2147483648) : MC l yL_low wsL_low rmL_low false [.int v, .int (nI (n))] (w) (some (.int (nI (lowN v n)))) (w) := by
  refine mj_MC (cc := cL_low) (nl := 2) (ret := (some .int)) (plainFor_of_name (by decide)) rfl (⟨_, rfl, rfl⟩) (Nat.le_of_ble_eq_true rfl) ?_
  show GG l cL_low ML_low false (.inl ((some (.int (nI (lowN v n)))), w)) 0 [some (.int v), some (.int (nI (n)))] [] (w) 0 0
  refine G_iload_n dL_low_0 rfl ?_
  refine G_ldc (v := 2147483647) dL_low_1 (by decide +kernel) ?_
  refine G_iand dL_low_3 ?_
  refine G_eqi (low_and v) ?_
  have hl := lowM_lt v
  refine G_iload_n dL_low_4 rfl ?_
  refine G_iremN (a := (lowM v)) (c := n) (s := (((lowM v)) % n)) dL_low_5 (by omega) (by omega) ?_
  exact G_iret dL_low_6 ⟨Nat.zero_le _, Nat.zero_le _⟩ (rfl)
theorem lm_commons (hΨ : HV Ψ) {f : mj_S} {b : Nat} (hb : b < 4) : MC l yL_commons wsL_commons rmL_commons false [.int (nI (b)), .ref 13] (Ψ f) (some (.int (s_com f b))) (Ψ f) := by
  refine mj_MC (cc := cL_commons) (nl := 2) (ret := (some .int)) (plainFor_of_name (by decide)) rfl (⟨_, rfl, rfl⟩) (Nat.le_of_ble_eq_true rfl) ?_
  show GG l cL_commons ML_commons false (.inl ((some (.int (s_com f b))), Ψ f)) 0 [some (.int (nI (b))), some (.ref 13)] [] (Ψ f) 0 0
  refine G_bipush (v := 12) dL_commons_0 (by decide) ?_
  refine G_aload_n dL_commons_2 rfl ?_
  refine G_iload_n dL_commons_3 rfl ?_
  refine G_ialdN (j := b) dL_commons_4 ((hΨ f).1.2.2.1) (by omega) ?_
  refine G_eqi (rdB (by omega) (by omega) : _ = f (53 + b)) ?_
  refine G_isub dL_commons_5 ?_
  refine G_aload_n dL_commons_6 rfl ?_
  refine G_iconst (v := 4) dL_commons_7 (by decide) ?_
  refine G_iload_n dL_commons_8 rfl ?_
  refine G_iaddN (a := 4) (c := b) (s := 4 + b) dL_commons_9 (by omega) ?_
  refine G_ialdN (j := 4 + b) dL_commons_10 ((hΨ f).1.2.2.1) (by omega) ?_
  refine G_eqi (rdB (by omega) (by omega) : _ = f (57 + b)) ?_
  refine G_isub dL_commons_11 ?_
  refine G_aload_n dL_commons_12 rfl ?_
  refine G_bipush (v := 8) dL_commons_13 (by decide) ?_
  refine G_iload_n dL_commons_15 rfl ?_
  refine G_iaddN (a := 8) (c := b) (s := 8 + b) dL_commons_16 (by omega) ?_
  refine G_ialdN (j := 8 + b) dL_commons_17 ((hΨ f).1.2.2.1) (by omega) ?_
  refine G_eqi (rdB (by omega) (by omega) : _ = f (61 + b)) ?_
  refine G_isub dL_commons_18 ?_
  refine G_aload_n dL_commons_19 rfl ?_
  refine G_bipush (v := 12) dL_commons_20 (by decide) ?_
  refine G_iload_n dL_commons_22 rfl ?_
  refine G_iaddN (a := 12) (c := b) (s := 12 + b) dL_commons_23 (by omega) ?_
  refine G_ialdN (j := 12 + b) dL_commons_24 ((hΨ f).1.2.2.1) (by omega) ?_
  refine G_eqi (rdB (by omega) (by omega) : _ = f (65 + b)) ?_
  refine G_isub dL_commons_25 ?_
  refine G_aload_n dL_commons_26 rfl ?_
  refine G_bipush (v := 16) dL_commons_27 (by decide) ?_
  refine G_iload_n dL_commons_29 rfl ?_
  refine G_iaddN (a := 16) (c := b) (s := 16 + b) dL_commons_30 (by omega) ?_
  refine G_ialdN (j := 16 + b) dL_commons_31 ((hΨ f).1.2.2.1) (by omega) ?_
  refine G_eqi (rdB (by omega) (by omega) : _ = f (69 + b)) ?_
  refine G_isub dL_commons_32 ?_
  exact G_iret dL_commons_33 ⟨Nat.zero_le _, Nat.zero_le _⟩ (X_i (by show 12 - f (53 + b + 4 * 0) - f (53 + b + 4 * 1) - f (53 + b + 4 * 2) - f (53 + b + 4 * 3) - f (53 + b + 4 * 4) = _; rw [show 53 + b + 4 * 0 = 53 + b by omega, show 53 + b + 4 * 1 = 57 + b by omega, show 53 + b + 4 * 2 = 61 + b by omega, show 53 + b + 4 * 3 = 65 + b by omega, show 53 + b + 4 * 4 = 69 + b by omega]))
theorem lq_workers (hΨ : HV Ψ) {f : mj_S} {x y res : Int32} : ∀ (d c : Nat) (z : Int32), c + d = 6 → res = itr (fun c a => a + (if 0 ≤ f (139 + c) ∧ (x < 0 ∨ f (139 + c) = x) ∧ (y < 0 ∨ f (145 + c) = y) then 1 else 0)) d c z → GG l cL_workers ML_workers false (.inl (some (.int res), Ψ f)) 5 [some (.int x), some (.int y), some (.ref 17), some (.int z), some (.int (nI (c)))] [] (Ψ f) 0 0
  | 0, c, z, hc, hr => by
    refine G_iload dL_workers_5 rfl ?_
    refine G_bipush (v := 6) dL_workers_7 (by decide) ?_
    refine G_icmp_geN (a := c) (c := 6) 69 dL_workers_9 (by decide) (by omega) (fun c9 => ?_) (fun c9 => ?_)
    · refine G_iload_n dL_workers_69 rfl ?_
      exact G_iret dL_workers_70 ⟨Nat.zero_le _, Nat.zero_le _⟩ (by rw [hr, itr_0])
    · exact (show False by omega).elim
  | d + 1, c, z, hc, hr => by
    refine G_iload dL_workers_5 rfl ?_
    refine G_bipush (v := 6) dL_workers_7 (by decide) ?_
    refine G_icmp_geN (a := c) (c := 6) 69 dL_workers_9 (by decide) (by omega) (fun c9 => ?_) (fun c9 => ?_)
    · exact (show False by omega).elim
    · refine G_iload_n dL_workers_12 rfl ?_
      refine G_aload_n dL_workers_13 rfl ?_
      refine G_iconst (v := 4) dL_workers_14 (by decide) ?_
      refine G_iload dL_workers_15 rfl ?_
      refine G_imulN (a := 4) (c := c) (s := 4 * c) dL_workers_17 (by omega) ?_
      refine G_iconst (v := 1) dL_workers_18 (by decide) ?_
      refine G_iaddN (a := 4 * c) (c := 1) (s := 4 * c + 1) dL_workers_19 (by omega) ?_
      refine G_ialdN (j := 4 * c + 1) dL_workers_20 ((hΨ f).1.2.2.2.2.2.2) (by omega) ?_
      refine G_eqi (rdC (by omega) (by omega) : _ = f (139 + c)) ?_
      refine G_if_lt 60 dL_workers_21 (by decide) (fun c21 => ?_) (fun c21 => ?_)
      · refine G_iconst (v := 0) dL_workers_60 (by decide) ?_
        refine G_iadd dL_workers_61 ?_
        refine G_istore_n dL_workers_62 rfl (L' := [some (.int x), some (.int y), some (.ref 17), some (.int (z + 0)), some (.int (nI (c)))]) rfl ?_
        refine G_iincN (a := c) (s := c + 1) dL_workers_63 rfl (by omega) (L' := [some (.int x), some (.int y), some (.ref 17), some (.int (z + 0)), some (.int (nI (c + 1)))]) rfl ?_
        refine G_goto 5 dL_workers_66 (by decide) ?_
        exact lq_workers hΨ d (c + 1) (z + 0) (by omega) (by rw [hr, itr_s]; refine congrArg (itr _ d (c + 1)) ?_; rw [if_neg (fun q => absurd q.1 (Int32.not_le.mpr c21))])
      · refine G_iload_n dL_workers_24 rfl ?_
        refine G_if_lt 40 dL_workers_25 (by decide) (fun c25 => ?_) (fun c25 => ?_)
        · refine G_iload_n dL_workers_40 rfl ?_
          refine G_if_lt 56 dL_workers_41 (by decide) (fun c41 => ?_) (fun c41 => ?_)
          · refine G_iconst (v := 1) dL_workers_56 (by decide) ?_
            refine G_goto 61 dL_workers_57 (by decide) ?_
            refine G_iadd dL_workers_61 ?_
            refine G_istore_n dL_workers_62 rfl (L' := [some (.int x), some (.int y), some (.ref 17), some (.int (z + 1)), some (.int (nI (c)))]) rfl ?_
            refine G_iincN (a := c) (s := c + 1) dL_workers_63 rfl (by omega) (L' := [some (.int x), some (.int y), some (.ref 17), some (.int (z + 1)), some (.int (nI (c + 1)))]) rfl ?_
            refine G_goto 5 dL_workers_66 (by decide) ?_
            exact lq_workers hΨ d (c + 1) (z + 1) (by omega) (by rw [hr, itr_s]; refine congrArg (itr _ d (c + 1)) ?_; rw [if_pos ⟨Int32.not_lt.mp c21, Or.inl c25, Or.inl c41⟩])
          · refine G_aload_n dL_workers_44 rfl ?_
            refine G_iconst (v := 4) dL_workers_45 (by decide) ?_
            refine G_iload dL_workers_46 rfl ?_
            refine G_imulN (a := 4) (c := c) (s := 4 * c) dL_workers_48 (by omega) ?_
            refine G_iconst (v := 2) dL_workers_49 (by decide) ?_
            refine G_iaddN (a := 4 * c) (c := 2) (s := 2 + 4 * c) dL_workers_50 (by omega) ?_
            refine G_ialdN (j := 2 + 4 * c) dL_workers_51 ((hΨ f).1.2.2.2.2.2.2) (by omega) ?_
            refine G_eqi (rdC (by omega) (by omega) : _ = f (145 + c)) ?_
            refine G_iload_n dL_workers_52 rfl ?_
            refine G_icmp_ne 60 dL_workers_53 (by decide) (fun c53 => ?_) (fun c53 => ?_)
            · refine G_iconst (v := 0) dL_workers_60 (by decide) ?_
              refine G_iadd dL_workers_61 ?_
              refine G_istore_n dL_workers_62 rfl (L' := [some (.int x), some (.int y), some (.ref 17), some (.int (z + 0)), some (.int (nI (c)))]) rfl ?_
              refine G_iincN (a := c) (s := c + 1) dL_workers_63 rfl (by omega) (L' := [some (.int x), some (.int y), some (.ref 17), some (.int (z + 0)), some (.int (nI (c + 1)))]) rfl ?_
              refine G_goto 5 dL_workers_66 (by decide) ?_
              exact lq_workers hΨ d (c + 1) (z + 0) (by omega) (by rw [hr, itr_s]; refine congrArg (itr _ d (c + 1)) ?_; rw [if_neg (fun q => q.2.2.elim c41 c53)])
            · refine G_iconst (v := 1) dL_workers_56 (by decide) ?_
              refine G_goto 61 dL_workers_57 (by decide) ?_
              refine G_iadd dL_workers_61 ?_
              refine G_istore_n dL_workers_62 rfl (L' := [some (.int x), some (.int y), some (.ref 17), some (.int (z + 1)), some (.int (nI (c)))]) rfl ?_
              refine G_iincN (a := c) (s := c + 1) dL_workers_63 rfl (by omega) (L' := [some (.int x), some (.int y), some (.ref 17), some (.int (z + 1)), some (.int (nI (c + 1)))]) rfl ?_
              refine G_goto 5 dL_workers_66 (by decide) ?_
              exact lq_workers hΨ d (c + 1) (z + 1) (by omega) (by rw [hr, itr_s]; refine congrArg (itr _ d (c + 1)) ?_; rw [if_pos ⟨Int32.not_lt.mp c21, Or.inl c25, Or.inr c53⟩])
        · refine G_aload_n dL_workers_28 rfl ?_
          refine G_iconst (v := 4) dL_workers_29 (by decide) ?_
          refine G_iload dL_workers_30 rfl ?_
          refine G_imulN (a := 4) (c := c) (s := 4 * c) dL_workers_32 (by omega) ?_
          refine G_iconst (v := 1) dL_workers_33 (by decide) ?_
          refine G_iaddN (a := 4 * c) (c := 1) (s := 4 * c + 1) dL_workers_34 (by omega) ?_
          refine G_ialdN (j := 4 * c + 1) dL_workers_35 ((hΨ f).1.2.2.2.2.2.2) (by omega) ?_
          refine G_eqi (rdC (by omega) (by omega) : _ = f (139 + c)) ?_
          refine G_iload_n dL_workers_36 rfl ?_
          refine G_icmp_ne 60 dL_workers_37 (by decide) (fun c37 => ?_) (fun c37 => ?_)
          · refine G_iconst (v := 0) dL_workers_60 (by decide) ?_
            refine G_iadd dL_workers_61 ?_
            refine G_istore_n dL_workers_62 rfl (L' := [some (.int x), some (.int y), some (.ref 17), some (.int (z + 0)), some (.int (nI (c)))]) rfl ?_
            refine G_iincN (a := c) (s := c + 1) dL_workers_63 rfl (by omega) (L' := [some (.int x), some (.int y), some (.ref 17), some (.int (z + 0)), some (.int (nI (c + 1)))]) rfl ?_
            refine G_goto 5 dL_workers_66 (by decide) ?_
            exact lq_workers hΨ d (c + 1) (z + 0) (by omega) (by rw [hr, itr_s]; refine congrArg (itr _ d (c + 1)) ?_; rw [if_neg (fun q => q.2.1.elim c25 c37)])
          · refine G_iload_n dL_workers_40 rfl ?_
            refine G_if_lt 56 dL_workers_41 (by decide) (fun c41 => ?_) (fun c41 => ?_)
            · refine G_iconst (v := 1) dL_workers_56 (by decide) ?_
              refine G_goto 61 dL_workers_57 (by decide) ?_
              refine G_iadd dL_workers_61 ?_
              refine G_istore_n dL_workers_62 rfl (L' := [some (.int x), some (.int y), some (.ref 17), some (.int (z + 1)), some (.int (nI (c)))]) rfl ?_
              refine G_iincN (a := c) (s := c + 1) dL_workers_63 rfl (by omega) (L' := [some (.int x), some (.int y), some (.ref 17), some (.int (z + 1)), some (.int (nI (c + 1)))]) rfl ?_
              refine G_goto 5 dL_workers_66 (by decide) ?_
              exact lq_workers hΨ d (c + 1) (z + 1) (by omega) (by rw [hr, itr_s]; refine congrArg (itr _ d (c + 1)) ?_; rw [if_pos ⟨Int32.not_lt.mp c21, Or.inr c37, Or.inl c41⟩])
            · refine G_aload_n dL_workers_44 rfl ?_
              refine G_iconst (v := 4) dL_workers_45 (by decide) ?_
              refine G_iload dL_workers_46 rfl ?_
              refine G_imulN (a := 4) (c := c) (s := 4 * c) dL_workers_48 (by omega) ?_
              refine G_iconst (v := 2) dL_workers_49 (by decide) ?_
              refine G_iaddN (a := 4 * c) (c := 2) (s := 2 + 4 * c) dL_workers_50 (by omega) ?_
              refine G_ialdN (j := 2 + 4 * c) dL_workers_51 ((hΨ f).1.2.2.2.2.2.2) (by omega) ?_
              refine G_eqi (rdC (by omega) (by omega) : _ = f (145 + c)) ?_
              refine G_iload_n dL_workers_52 rfl ?_
              refine G_icmp_ne 60 dL_workers_53 (by decide) (fun c53 => ?_) (fun c53 => ?_)
              · refine G_iconst (v := 0) dL_workers_60 (by decide) ?_
                refine G_iadd dL_workers_61 ?_
                refine G_istore_n dL_workers_62 rfl (L' := [some (.int x), some (.int y), some (.ref 17), some (.int (z + 0)), some (.int (nI (c)))]) rfl ?_
                refine G_iincN (a := c) (s := c + 1) dL_workers_63 rfl (by omega) (L' := [some (.int x), some (.int y), some (.ref 17), some (.int (z + 0)), some (.int (nI (c + 1)))]) rfl ?_
                refine G_goto 5 dL_workers_66 (by decide) ?_
                exact lq_workers hΨ d (c + 1) (z + 0) (by omega) (by rw [hr, itr_s]; refine congrArg (itr _ d (c + 1)) ?_; rw [if_neg (fun q => q.2.2.elim c41 c53)])
              · refine G_iconst (v := 1) dL_workers_56 (by decide) ?_
                refine G_goto 61 dL_workers_57 (by decide) ?_
                refine G_iadd dL_workers_61 ?_
                refine G_istore_n dL_workers_62 rfl (L' := [some (.int x), some (.int y), some (.ref 17), some (.int (z + 1)), some (.int (nI (c)))]) rfl ?_
                refine G_iincN (a := c) (s := c + 1) dL_workers_63 rfl (by omega) (L' := [some (.int x), some (.int y), some (.ref 17), some (.int (z + 1)), some (.int (nI (c + 1)))]) rfl ?_
                refine G_goto 5 dL_workers_66 (by decide) ?_
                exact lq_workers hΨ d (c + 1) (z + 1) (by omega) (by rw [hr, itr_s]; refine congrArg (itr _ d (c + 1)) ?_; rw [if_pos ⟨Int32.not_lt.mp c21, Or.inr c37, Or.inr c53⟩])
theorem lm_workers (hΨ : HV Ψ) {f : mj_S} {x y : Int32} : MC l yL_workers wsL_workers rmL_workers false [.int x, .int y, .ref 17] (Ψ f) (some (.int (s_wk f x y))) (Ψ f) := by
  refine mj_MC (cc := cL_workers) (nl := 5) (ret := (some .int)) (plainFor_of_name (by decide)) rfl (⟨_, rfl, rfl⟩) (Nat.le_of_ble_eq_true rfl) ?_
  show GG l cL_workers ML_workers false (.inl ((some (.int (s_wk f x y))), Ψ f)) 0 [some (.int x), some (.int y), some (.ref 17), none, none] [] (Ψ f) 0 0
  refine G_iconst (v := 0) dL_workers_0 (by decide) ?_
  refine G_istore_n dL_workers_1 rfl (L' := [some (.int x), some (.int y), some (.ref 17), some (.int 0), none]) rfl ?_
  refine G_iconst (v := 0) dL_workers_2 (by decide) ?_
  refine G_istore dL_workers_3 rfl (L' := [some (.int x), some (.int y), some (.ref 17), some (.int 0), some (.int 0)]) rfl ?_
  exact lq_workers hΨ 6 0 0 rfl rfl
theorem lm_why (hΨ : HV Ψ) {f : mj_S} {h b : Nat} (hhb : h < 5 ∧ b < 4) (hwk : s_wk f (nI h) (nI b) = s_cnt f (nI h) (nI b)) : MC l yL_why wsL_why rmL_why false [.int (nI (h)), .int (nI (b)), .ref 11, .ref 13, .ref 17] (Ψ f) (some (.int (s_why f h b))) (Ψ f) := by
  refine mj_MC (cc := cL_why) (nl := 6) (ret := (some .int)) (plainFor_of_name (by decide)) rfl (⟨_, rfl, rfl⟩) (Nat.le_of_ble_eq_true rfl) ?_
  show GG l cL_why ML_why false (.inl ((some (.int (s_why f h b))), Ψ f)) 0 [some (.int (nI (h))), some (.int (nI (b))), some (.ref 11), some (.ref 13), some (.ref 17), none] [] (Ψ f) 0 0
  refine G_aload_n dL_why_0 rfl ?_
  refine G_iconst (v := 4) dL_why_1 (by decide) ?_
  refine G_iload_n dL_why_2 rfl ?_
  refine G_imulN (a := 4) (c := h) (s := 4 * h) dL_why_3 (by omega) ?_
  refine G_iload_n dL_why_4 rfl ?_
  refine G_iaddN (a := 4 * h) (c := b) (s := b + 4 * h) dL_why_5 (by omega) ?_
  refine G_ialdN (j := b + 4 * h) dL_why_6 ((hΨ f).1.2.2.1) (by omega) ?_
  refine G_eqi (rdB (by omega) (by omega) : _ = f (53 + b + 4 * h)) ?_
  refine G_istore dL_why_7 rfl (L' := [some (.int (nI (h))), some (.int (nI (b))), some (.ref 11), some (.ref 13), some (.ref 17), some (.int (f (53 + b + 4 * h)))]) rfl ?_
  refine G_iload dL_why_9 rfl ?_
  refine G_if_ne 18 dL_why_11 (by decide) (fun c11 => ?_) (fun c11 => ?_)
  · refine G_iload_n dL_why_18 rfl ?_
    refine G_iload_n dL_why_19 rfl ?_
    refine G_aload dL_why_20 rfl ?_
    refine G_callSi dL_why_22 kL_why_L_workers ⟨rfl, rfl⟩ ⟨Nat.zero_le _, Nat.zero_le _⟩ (lm_workers hΨ) rfl rfl rfl ?_
    refine G_iload dL_why_25 rfl ?_
    refine G_icmp_lt 34 dL_why_27 (by decide) (fun c27 => ?_) (fun c27 => ?_)
    · refine G_aload_n dL_why_34 rfl ?_
      refine G_iconst (v := 5) dL_why_35 (by decide) ?_
      refine G_iload_n dL_why_36 rfl ?_
      refine G_iaddN (a := 5) (c := b) (s := 5 + b) dL_why_37 (by omega) ?_
      refine G_ialdN (j := 5 + b) dL_why_38 ((hΨ f).1.1) (by omega) ?_
      refine G_eqi (rdQh (by omega) (by omega) : _ = f (45 + b)) ?_
      refine G_if_ne 46 dL_why_39 (by decide) (fun c39 => ?_) (fun c39 => ?_)
      · refine G_aload_n dL_why_46 rfl ?_
        refine G_iconst (v := 1) dL_why_47 (by decide) ?_
        refine G_ialdN (j := 1) dL_why_48 ((hΨ f).1.1) (by omega) ?_
        refine G_eqi (rdQl (by omega) : _ = f (1)) ?_
        refine G_iconst (v := 1) dL_why_49 (by decide) ?_
        refine G_icmp_ne 57 dL_why_50 (by decide) (fun c50 => ?_) (fun c50 => ?_)
        · refine G_iconst (v := 0) dL_why_57 (by decide) ?_
          exact G_iret dL_why_58 ⟨Nat.zero_le _, Nat.zero_le _⟩ (X_i (by rw [s_why, if_neg c11, if_neg (Int32.not_le.mpr (hwk ▸ c27)), if_neg c39, if_neg c50]))
        · refine G_iconst (v := 4) dL_why_53 (by decide) ?_
          refine G_goto 58 dL_why_54 (by decide) ?_
          exact G_iret dL_why_58 ⟨Nat.zero_le _, Nat.zero_le _⟩ (X_i (by rw [s_why, if_neg c11, if_neg (Int32.not_le.mpr (hwk ▸ c27)), if_neg c39, if_pos c50]))
      · refine G_iconst (v := 3) dL_why_42 (by decide) ?_
        refine G_goto 58 dL_why_43 (by decide) ?_
        exact G_iret dL_why_58 ⟨Nat.zero_le _, Nat.zero_le _⟩ (X_i (by rw [s_why, if_neg c11, if_neg (Int32.not_le.mpr (hwk ▸ c27)), if_pos c39]))
    · refine G_iconst (v := 2) dL_why_30 (by decide) ?_
      refine G_goto 58 dL_why_31 (by decide) ?_
      exact G_iret dL_why_58 ⟨Nat.zero_le _, Nat.zero_le _⟩ (X_i (by rw [s_why, if_neg c11, if_pos (Int32.not_lt.mp (hwk ▸ c27))]))
  · refine G_iconst (v := 1) dL_why_14 (by decide) ?_
    refine G_goto 58 dL_why_15 (by decide) ?_
    exact G_iret dL_why_58 ⟨Nat.zero_le _, Nat.zero_le _⟩ (X_i (by rw [s_why, if_pos c11]))
theorem mn_le {a b : Int32} (h : a ≤ b) : a = mn a b := by rw [mn, if_neg (Int32.not_lt.mpr h)]
theorem mn_gt {a b : Int32} (h : ¬ a ≤ b) : b = mn a b := by rw [mn, if_pos (Int32.not_le.mp h)]
theorem m1_neg : (-1 : Int32) < 0 := by decide
theorem lq_cuts (hΨ : HV Ψ) {D : Nat} {f0 res : mj_S} (ho : oA f0 D) : ∀ (d c : Nat) (f : mj_S) (z5 z6 z7 : Option Value), c + d = 6 → sA f0 f → res = itr s_cut d c f → GG l cL_cuts ML_cuts false (.inl (none, Ψ res)) 3 [some (.ref 11), some (.ref 12), some (.ref 14), some (.ref 17), some (.int (nI (c))), z5, z6, z7] [] (Ψ f) 0 0
  | 0, c, f, z5, z6, z7, hc, hs, hr => by
    refine G_iload dL_cuts_3 rfl ?_
    refine G_bipush (v := 6) dL_cuts_5 (by decide) ?_
    refine G_icmp_geN (a := c) (c := 6) 125 dL_cuts_7 (by decide) (by omega) (fun c7 => ?_) (fun c7 => ?_)
    · exact G_vret dL_cuts_125 ⟨Nat.zero_le _, Nat.zero_le _⟩ (by rw [hr, itr_0])
    · exact (show False by omega).elim
  | d + 1, c, f, z5, z6, z7, hc, hs, hr => by
    refine G_iload dL_cuts_3 rfl ?_
    refine G_bipush (v := 6) dL_cuts_5 (by decide) ?_
    refine G_icmp_geN (a := c) (c := 6) 125 dL_cuts_7 (by decide) (by omega) (fun c7 => ?_) (fun c7 => ?_)
    · exact (show False by omega).elim
    · refine G_aload_n dL_cuts_10 rfl ?_
      refine G_iconst (v := 4) dL_cuts_11 (by decide) ?_
      refine G_iload dL_cuts_12 rfl ?_
      refine G_imulN (a := 4) (c := c) (s := 4 * c) dL_cuts_14 (by omega) ?_
      refine G_iconst (v := 1) dL_cuts_15 (by decide) ?_
      refine G_iaddN (a := 4 * c) (c := 1) (s := 4 * c + 1) dL_cuts_16 (by omega) ?_
      refine G_ialdN (j := 4 * c + 1) dL_cuts_17 ((hΨ f).1.2.2.2.2.2.2) (by omega) ?_
      refine G_eqi (rdC (by omega) (by omega) : _ = f (139 + c)) ?_
      rcases (oA_same hs ho).2.2.2.2.2.2.2.2 c (by omega) with ⟨e1, e2⟩ | ⟨h, b, hh, hb, e1, e2⟩
      · refine G_eqi e1 ?_
        refine G_istore dL_cuts_18 rfl (L' := [some (.ref 11), some (.ref 12), some (.ref 14), some (.ref 17), some (.int (nI (c))), some (.int (-1)), z6, z7]) rfl ?_
        refine G_aload_n dL_cuts_20 rfl ?_
        refine G_iconst (v := 4) dL_cuts_21 (by decide) ?_
        refine G_iload dL_cuts_22 rfl ?_
        refine G_imulN (a := 4) (c := c) (s := 4 * c) dL_cuts_24 (by omega) ?_
        refine G_iconst (v := 2) dL_cuts_25 (by decide) ?_
        refine G_iaddN (a := 4 * c) (c := 2) (s := 2 + 4 * c) dL_cuts_26 (by omega) ?_
        refine G_ialdN (j := 2 + 4 * c) dL_cuts_27 ((hΨ f).1.2.2.2.2.2.2) (by omega) ?_
        refine G_eqi (rdC (by omega) (by omega) : _ = f (145 + c)) ?_
        refine G_eqi e2 ?_
        refine G_istore dL_cuts_28 rfl (L' := [some (.ref 11), some (.ref 12), some (.ref 14), some (.ref 17), some (.int (nI (c))), some (.int (-1)), some (.int (-1)), z7]) rfl ?_
        refine G_iload dL_cuts_30 rfl ?_
        refine G_if_lt 119 dL_cuts_32 (by decide) (fun _ => ?_) (fun q => absurd m1_neg q)
        refine G_iincN (a := c) (s := c + 1) dL_cuts_119 rfl (by omega) (L' := [some (.ref 11), some (.ref 12), some (.ref 14), some (.ref 17), some (.int (nI (c + 1))), some (.int (-1)), some (.int (-1)), z7]) rfl ?_
        refine G_goto 3 dL_cuts_122 (by decide) ?_
        exact lq_cuts hΨ ho d (c + 1) f _ _ _ (by omega) hs (by rw [hr, itr_s, s_cut, if_pos e1])
      · refine G_eqi e1 ?_
        refine G_istore dL_cuts_18 rfl (L' := [some (.ref 11), some (.ref 12), some (.ref 14), some (.ref 17), some (.int (nI (c))), some (.int (nI (h))), z6, z7]) rfl ?_
        refine G_aload_n dL_cuts_20 rfl ?_
        refine G_iconst (v := 4) dL_cuts_21 (by decide) ?_
        refine G_iload dL_cuts_22 rfl ?_
        refine G_imulN (a := 4) (c := c) (s := 4 * c) dL_cuts_24 (by omega) ?_
        refine G_iconst (v := 2) dL_cuts_25 (by decide) ?_
        refine G_iaddN (a := 4 * c) (c := 2) (s := 2 + 4 * c) dL_cuts_26 (by omega) ?_
        refine G_ialdN (j := 2 + 4 * c) dL_cuts_27 ((hΨ f).1.2.2.2.2.2.2) (by omega) ?_
        refine G_eqi (rdC (by omega) (by omega) : _ = f (145 + c)) ?_
        refine G_eqi e2 ?_
        refine G_istore dL_cuts_28 rfl (L' := [some (.ref 11), some (.ref 12), some (.ref 14), some (.ref 17), some (.int (nI (c))), some (.int (nI (h))), some (.int (nI (b))), z7]) rfl ?_
        refine G_iload dL_cuts_30 rfl ?_
        refine G_if_ltN (a := h) 119 dL_cuts_32 (by decide) (by omega) ?_
        have K65 : ∀ m : Int32, m = mn (f (133 + c)) (f (45 + b)) → GG l cL_cuts ML_cuts false (.inl (none, Ψ res)) 65 [some (.ref 11), some (.ref 12), some (.ref 14), some (.ref 17), some (.int (nI (c))), some (.int (nI (h))), some (.int (nI (b))), z7] [.int m] (Ψ f) 0 0 := by
          intro m em
          refine G_istore dL_cuts_65 rfl (L' := [some (.ref 11), some (.ref 12), some (.ref 14), some (.ref 17), some (.int (nI (c))), some (.int (nI (h))), some (.int (nI (b))), some (.int m)]) rfl ?_
          refine G_aload_n dL_cuts_67 rfl ?_
          refine G_iconst (v := 5) dL_cuts_68 (by decide) ?_
          refine G_iload dL_cuts_69 rfl ?_
          refine G_iaddN (a := 5) (c := b) (s := 5 + b) dL_cuts_71 (by omega) ?_
          refine G_dup2 dL_cuts_72 rfl rfl ?_
          refine G_ialdN (j := 5 + b) dL_cuts_73 ((hΨ f).1.1) (by omega) ?_
          refine G_eqi (rdQh (by omega) (by omega) : _ = f (45 + b)) ?_
          refine G_iload dL_cuts_74 rfl ?_
          refine G_isub dL_cuts_76 ?_
          obtain ⟨f1, ef1⟩ : ∃ z : mj_S, z = upd f (45 + b) ((f (45 + b)) - m) := ⟨_, rfl⟩
          refine G_iastN (j := 5 + b) dL_cuts_77 ((hΨ f).1.1) (by omega) (((hΨ f).2.2.1 _ _ _ (by omega) (by omega)).trans (congrArg Ψ ef1.symm)) ?_
          refine G_aload_n dL_cuts_78 rfl ?_
          refine G_iconst (v := 4) dL_cuts_79 (by decide) ?_
          refine G_iload dL_cuts_80 rfl ?_
          refine G_imulN (a := 4) (c := h) (s := 4 * h) dL_cuts_82 (by omega) ?_
          refine G_iload dL_cuts_83 rfl ?_
          refine G_iaddN (a := 4 * h) (c := b) (s := b + 4 * h) dL_cuts_85 (by omega) ?_
          refine G_dup2 dL_cuts_86 rfl rfl ?_
          refine G_ialdN (j := b + 4 * h) dL_cuts_87 ((hΨ f1).1.2.2.2.1) (by omega) ?_
          refine G_eqi (rdB (by omega) (by omega) : _ = f1 (73 + b + 4 * h)) ?_
          refine G_iload dL_cuts_88 rfl ?_
          refine G_iadd dL_cuts_90 ?_
          obtain ⟨f2, ef2⟩ : ∃ z : mj_S, z = upd f1 (73 + b + 4 * h) ((f1 (73 + b + 4 * h)) + m) := ⟨_, rfl⟩
          refine G_iastN (j := b + 4 * h) dL_cuts_91 ((hΨ f1).1.2.2.2.1) (by omega) (((hΨ f1).2.2.2.2.2.1 _ _ _ (by omega) (by omega)).trans (congrArg Ψ ef2.symm)) ?_
          refine G_aload_n dL_cuts_92 rfl ?_
          refine G_bipush (v := 8) dL_cuts_93 (by decide) ?_
          refine G_iload dL_cuts_95 rfl ?_
          refine G_imulN (a := 8) (c := h) (s := 8 * h) dL_cuts_97 (by omega) ?_
          refine G_iconst (v := 3) dL_cuts_98 (by decide) ?_
          refine G_iaddN (a := 8 * h) (c := 3) (s := 3 + 8 * h) dL_cuts_99 (by omega) ?_
          refine G_dup2 dL_cuts_100 rfl rfl ?_
          refine G_ialdN (j := 3 + 8 * h) dL_cuts_101 ((hΨ f2).1.2.1) (by omega) ?_
          refine G_eqi (rdH (by omega) (by omega) : _ = f2 (20 + h)) ?_
          refine G_iload dL_cuts_102 rfl ?_
          refine G_iadd dL_cuts_104 ?_
          obtain ⟨f3, ef3⟩ : ∃ z : mj_S, z = upd f2 (20 + h) ((f2 (20 + h)) + m) := ⟨_, rfl⟩
          refine G_iastN (j := 3 + 8 * h) dL_cuts_105 ((hΨ f2).1.2.1) (by omega) (((hΨ f2).2.2.2.1 _ _ _ (by omega) (by omega)).trans (congrArg Ψ ef3.symm)) ?_
          refine G_aload_n dL_cuts_106 rfl ?_
          refine G_iconst (v := 4) dL_cuts_107 (by decide) ?_
          refine G_iload dL_cuts_108 rfl ?_
          refine G_imulN (a := 4) (c := c) (s := 4 * c) dL_cuts_110 (by omega) ?_
          refine G_iconst (v := 3) dL_cuts_111 (by decide) ?_
          refine G_iaddN (a := 4 * c) (c := 3) (s := 3 + 4 * c) dL_cuts_112 (by omega) ?_
          refine G_dup2 dL_cuts_113 rfl rfl ?_
          refine G_ialdN (j := 3 + 4 * c) dL_cuts_114 ((hΨ f3).1.2.2.2.2.2.2) (by omega) ?_
          refine G_eqi (rdC (by omega) (by omega) : _ = f3 (151 + c)) ?_
          refine G_iload dL_cuts_115 rfl ?_
          refine G_iadd dL_cuts_117 ?_
          obtain ⟨f4, ef4⟩ : ∃ z : mj_S, z = upd f3 (151 + c) ((f3 (151 + c)) + m) := ⟨_, rfl⟩
          refine G_iastN (j := 3 + 4 * c) dL_cuts_118 ((hΨ f3).1.2.2.2.2.2.2) (by omega) (((hΨ f3).2.2.2.2.2.2.2.2 _ _ _ (by omega) (by omega)).trans (congrArg Ψ ef4.symm)) ?_
          have hcut : s_cut c f = f4 := by
            rw [s_cut, if_neg (by rw [e1]; exact nI_m1 (by omega))]
            dsimp only
            rw [e1, e2, nI_clamp (by omega), nI_clamp (by omega), ← em]
            subst ef4; subst ef3; subst ef2; subst ef1
            rfl
          refine G_iincN (a := c) (s := c + 1) dL_cuts_119 rfl (by omega) (L' := [some (.ref 11), some (.ref 12), some (.ref 14), some (.ref 17), some (.int (nI (c + 1))), some (.int (nI (h))), some (.int (nI (b))), some (.int m)]) rfl ?_
          refine G_goto 3 dL_cuts_122 (by decide) ?_
          exact lq_cuts hΨ ho d (c + 1) f4 _ _ _ (by omega) (hs.tr (hcut ▸ sA_cut (oA_same hs ho) (by omega))) (by rw [hr, itr_s, hcut])
        refine G_aload_n dL_cuts_35 rfl ?_
        refine G_iconst (v := 4) dL_cuts_36 (by decide) ?_
        refine G_iload dL_cuts_37 rfl ?_
        refine G_imulN (a := 4) (c := c) (s := 4 * c) dL_cuts_39 (by omega) ?_
        refine G_ialdN (j := 4 * c) dL_cuts_40 ((hΨ f).1.2.2.2.2.2.2) (by omega) ?_
        refine G_eqi (rdC (by omega) (by omega) : _ = f (133 + c)) ?_
        refine G_aload_n dL_cuts_41 rfl ?_
        refine G_iconst (v := 5) dL_cuts_42 (by decide) ?_
        refine G_iload dL_cuts_43 rfl ?_
        refine G_iaddN (a := 5) (c := b) (s := 5 + b) dL_cuts_45 (by omega) ?_
        refine G_ialdN (j := 5 + b) dL_cuts_46 ((hΨ f).1.1) (by omega) ?_
        refine G_eqi (rdQh (by omega) (by omega) : _ = f (45 + b)) ?_
        refine G_icmp_le 59 dL_cuts_47 (by decide) (fun c47 => ?_) (fun c47 => ?_)
        · refine G_aload_n dL_cuts_59 rfl ?_
          refine G_iconst (v := 4) dL_cuts_60 (by decide) ?_
          refine G_iload dL_cuts_61 rfl ?_
          refine G_imulN (a := 4) (c := c) (s := 4 * c) dL_cuts_63 (by omega) ?_
          refine G_ialdN (j := 4 * c) dL_cuts_64 ((hΨ f).1.2.2.2.2.2.2) (by omega) ?_
          refine G_eqi (rdC (by omega) (by omega) : _ = f (133 + c)) ?_
          exact K65 _ (mn_le c47)
        · refine G_aload_n dL_cuts_50 rfl ?_
          refine G_iconst (v := 5) dL_cuts_51 (by decide) ?_
          refine G_iload dL_cuts_52 rfl ?_
          refine G_iaddN (a := 5) (c := b) (s := 5 + b) dL_cuts_54 (by omega) ?_
          refine G_ialdN (j := 5 + b) dL_cuts_55 ((hΨ f).1.1) (by omega) ?_
          refine G_eqi (rdQh (by omega) (by omega) : _ = f (45 + b)) ?_
          refine G_goto 65 dL_cuts_56 (by decide) ?_
          exact K65 _ (mn_gt c47)
theorem lm_cuts (hΨ : HV Ψ) {D : Nat} {f : mj_S} (ho : oA f D) : MC l yL_cuts wsL_cuts rmL_cuts false [.ref 11, .ref 12, .ref 14, .ref 17] (Ψ f) none (Ψ (s_cuts f)) := by
  refine mj_MC (cc := cL_cuts) (nl := 8) (ret := none) (plainFor_of_name (by decide)) rfl (rfl) (Nat.le_of_ble_eq_true rfl) ?_
  show GG l cL_cuts ML_cuts false (.inl (none, Ψ (s_cuts f))) 0 [some (.ref 11), some (.ref 12), some (.ref 14), some (.ref 17), none, none, none, none] [] (Ψ f) 0 0
  refine G_iconst (v := 0) dL_cuts_0 (by decide) ?_
  refine G_istore dL_cuts_1 rfl (L' := [some (.ref 11), some (.ref 12), some (.ref 14), some (.ref 17), some (.int 0), none, none, none]) rfl ?_
  exact lq_cuts hΨ ho 6 0 f _ _ _ rfl (sA_rf f) rfl
end LA

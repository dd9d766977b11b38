/-! LAND: a day -/
theorem bring_zero (f : mj_S) (h b : Nat) : s_bring f h b 0 = f := by
  have z : ∀ x : Int32, x - 0 = x := by intro x; simp
  have z2 : ∀ x : Int32, x + 0 = x := by intro x; simp
  unfold s_bring
  simp only [z, z2, upd_id, Int32.zero_mul, show (0 : Int32) / 100 = 0 from rfl, ite_self]
theorem MC_nf {l : Launch} {Ω : mj_S → mj_W} {y : MethodName} {ws : List Cond} {rm : Room} {b : Bool} {as : List Value} {w : mj_W} {v : Option Value} {q g t : mj_S} (e : g = t) (h : MC l y ws rm b as w v (Ω (row q t))) : MC l y ws rm b as w v (Ω (row q g)) := by subst e; exact h
section LC
variable {l : Launch} {lp ap : Nat} {Ω : mj_S → mj_W}
theorem lp_poor (hΩ : LV lp ap Ω) {q f : mj_S} {res : Int32} : ∀ (d c : Nat) (a : Int32) (ha : a = -1 ∨ ∃ v, v < 5 ∧ a = nI v), c + d = 5 → res = itr (fun h a => if f (5 + h) = 1 ∧ (a = -1 ∨ f (15 + h) < f (15 + a.toNatClampNeg)) then nI h else a) d c a → GG l cX0_poorestWidow MX0_poorestWidow false (.inl (some (.int res), Ω (row q f))) 4 [some (.ref lp), some (.int a), some (.int (nI (c)))] [] (Ω (row q f)) 0 0
  | 0, c, a, ha, hc, hr => by
    refine G_iload_n dX0_poorestWidow_4 rfl ?_
    refine G_iconst (v := 5) dX0_poorestWidow_5 (by decide) ?_
    refine G_icmp_geN (a := c) (c := 5) 52 dX0_poorestWidow_6 (by decide) (by omega) (fun c6 => ?_) (fun c6 => ?_)
    · refine G_iload_n dX0_poorestWidow_52 rfl ?_
      exact G_iret dX0_poorestWidow_53 ⟨Nat.zero_le _, Nat.zero_le _⟩ (by rw [hr, itr_0])
    · exact (show False by omega).elim
  | d + 1, c, a, ha, hc, hr => by
    refine G_iload_n dX0_poorestWidow_4 rfl ?_
    refine G_iconst (v := 5) dX0_poorestWidow_5 (by decide) ?_
    refine G_icmp_geN (a := c) (c := 5) 52 dX0_poorestWidow_6 (by decide) (by omega) (fun c6 => ?_) (fun c6 => ?_)
    · exact (show False by omega).elim
    · refine G_aload_n dX0_poorestWidow_9 rfl ?_
      refine G_iconst (v := 5) dX0_poorestWidow_10 (by decide) ?_
      refine G_iload_n dX0_poorestWidow_11 rfl ?_
      refine G_iaddN (a := 5) (c := c) (s := 5 + c) dX0_poorestWidow_12 (by omega) ?_
      refine G_callVi dX0_poorestWidow_13 kX0_poorestWidow_X0_at ⟨rfl, rfl⟩ ⟨Nat.zero_le _, Nat.zero_le _⟩ (c_atL hΩ (j := 5 + c) (by omega)) rfl rfl ((hΩ _).1) rfl rfl ?_
      refine G_iconst (v := 1) dX0_poorestWidow_16 (by decide) ?_
      refine G_icmp_ne 46 dX0_poorestWidow_17 (by decide) (fun c17 => ?_) (fun c17 => ?_)
      · refine G_iincN (a := c) (s := c + 1) dX0_poorestWidow_46 rfl (by omega) (L' := [some (.ref lp), some (.int a), some (.int (nI (c + 1)))]) rfl ?_
        refine G_goto 4 dX0_poorestWidow_49 (by decide) ?_
        exact lp_poor hΩ d (c + 1) a ha (by omega) (by rw [hr, itr_s]; congr 1; simp [c17])
      · refine G_iload_n dX0_poorestWidow_20 rfl ?_
        refine G_iconst (v := (-1)) dX0_poorestWidow_21 (by decide) ?_
        refine G_icmp_eq 44 dX0_poorestWidow_22 (by decide) (fun c22 => ?_) (fun c22 => ?_)
        · refine G_iload_n dX0_poorestWidow_44 rfl ?_
          refine G_istore_n dX0_poorestWidow_45 rfl (L' := [some (.ref lp), some (.int (nI (c))), some (.int (nI (c)))]) rfl ?_
          refine G_iincN (a := c) (s := c + 1) dX0_poorestWidow_46 rfl (by omega) (L' := [some (.ref lp), some (.int (nI (c))), some (.int (nI (c + 1)))]) rfl ?_
          refine G_goto 4 dX0_poorestWidow_49 (by decide) ?_
          exact lp_poor hΩ d (c + 1) (nI c) (Or.inr ⟨c, by omega, rfl⟩) (by omega) (by rw [hr, itr_s]; congr 1; simp [c17, c22])
        · obtain ⟨v, hv, ea⟩ := ha.resolve_left c22
          subst ea
          refine G_aload_n dX0_poorestWidow_25 rfl ?_
          refine G_bipush (v := 15) dX0_poorestWidow_26 (by decide) ?_
          refine G_iload_n dX0_poorestWidow_28 rfl ?_
          refine G_iaddN (a := 15) (c := c) (s := 15 + c) dX0_poorestWidow_29 (by omega) ?_
          refine G_callVi dX0_poorestWidow_30 kX0_poorestWidow_X0_at ⟨rfl, rfl⟩ ⟨Nat.zero_le _, Nat.zero_le _⟩ (c_atL hΩ (j := 15 + c) (by omega)) rfl rfl ((hΩ _).1) rfl rfl ?_
          refine G_aload_n dX0_poorestWidow_33 rfl ?_
          refine G_bipush (v := 15) dX0_poorestWidow_34 (by decide) ?_
          refine G_iload_n dX0_poorestWidow_36 rfl ?_
          refine G_iaddN (a := 15) (c := v) (s := 15 + v) dX0_poorestWidow_37 (by omega) ?_
          refine G_callVi dX0_poorestWidow_38 kX0_poorestWidow_X0_at ⟨rfl, rfl⟩ ⟨Nat.zero_le _, Nat.zero_le _⟩ (c_atL hΩ (j := 15 + v) (by omega)) rfl rfl ((hΩ _).1) rfl rfl ?_
          refine G_icmp_ge 46 dX0_poorestWidow_41 (by decide) (fun c41 => ?_) (fun c41 => ?_)
          · refine G_iincN (a := c) (s := c + 1) dX0_poorestWidow_46 rfl (by omega) (L' := [some (.ref lp), some (.int (nI (v))), some (.int (nI (c + 1)))]) rfl ?_
            refine G_goto 4 dX0_poorestWidow_49 (by decide) ?_
            exact lp_poor hΩ d (c + 1) (nI v) (Or.inr ⟨v, hv, rfl⟩) (by omega) (by rw [hr, itr_s]; congr 1; rw [nI_clamp (show v < 2 ^ 31 by omega)]; simp [c17, c22, Int32.not_lt.mpr c41])
          · refine G_iload_n dX0_poorestWidow_44 rfl ?_
            refine G_istore_n dX0_poorestWidow_45 rfl (L' := [some (.ref lp), some (.int (nI (c))), some (.int (nI (c)))]) rfl ?_
            refine G_iincN (a := c) (s := c + 1) dX0_poorestWidow_46 rfl (by omega) (L' := [some (.ref lp), some (.int (nI (c))), some (.int (nI (c + 1)))]) rfl ?_
            refine G_goto 4 dX0_poorestWidow_49 (by decide) ?_
            exact lp_poor hΩ d (c + 1) (nI c) (Or.inr ⟨c, by omega, rfl⟩) (by omega) (by rw [hr, itr_s]; congr 1; rw [nI_clamp (show v < 2 ^ 31 by omega)]; simp [c17, c22, Int32.not_le.mp c41])
theorem c_poorestWidow (hΩ : LV lp ap Ω) {q f : mj_S} : MC l yX0_poorestWidow wsX0_poorestWidow rmX0_poorestWidow false [.ref lp] (Ω (row q f)) (some (.int (s_poor f))) (Ω (row q f)) := by
  refine mj_MC (cc := cX0_poorestWidow) (nl := 3) (ret := (some .int)) (plainFor_of_name (by decide)) rfl (⟨_, rfl, rfl⟩) (Nat.le_of_ble_eq_true rfl) ?_
  show GG l cX0_poorestWidow MX0_poorestWidow false (.inl ((some (.int (s_poor f))), Ω (row q f))) 0 [some (.ref lp), none, none] [] (Ω (row q f)) 0 0
  refine G_iconst (v := (-1)) dX0_poorestWidow_0 (by decide) ?_
  refine G_istore_n dX0_poorestWidow_1 rfl (L' := [some (.ref lp), some (.int (-1)), none]) rfl ?_
  refine G_iconst (v := 0) dX0_poorestWidow_2 (by decide) ?_
  refine G_istore_n dX0_poorestWidow_3 rfl (L' := [some (.ref lp), some (.int (-1)), some (.int 0)]) rfl ?_
  exact lp_poor hΩ 5 0 (-1) (Or.inl rfl) (by omega) rfl
theorem lp_cutTurves (hΩ : LV lp ap Ω) {q res : mj_S} {D : Nat} : ∀ (d c : Nat) (f : mj_S) (y2 y3 y4 : Option Value) (ho : oA f D), c + d = 6 → res = itr s_cut d c f → GG l cX0_cutTurves MX0_cutTurves false (.inl (none, Ω (row q res))) 2 [some (.ref lp), some (.int (nI (c))), y2, y3, y4] [] (Ω (row q f)) 0 0
  | 0, c, f, y2, y3, y4, ho, hc, hr => by
    refine G_iload_n dX0_cutTurves_2 rfl ?_
    refine G_bipush (v := 6) dX0_cutTurves_3 (by decide) ?_
    refine G_icmp_geN (a := c) (c := 6) 112 dX0_cutTurves_5 (by decide) (by omega) (fun c5 => ?_) (fun c5 => ?_)
    · exact G_vret dX0_cutTurves_112 ⟨Nat.zero_le _, Nat.zero_le _⟩ (by rw [hr, itr_0])
    · exact (show False by omega).elim
  | d + 1, c, f, y2, y3, y4, ho, hc, hr => by
    refine G_iload_n dX0_cutTurves_2 rfl ?_
    refine G_bipush (v := 6) dX0_cutTurves_3 (by decide) ?_
    refine G_icmp_geN (a := c) (c := 6) 112 dX0_cutTurves_5 (by decide) (by omega) (fun c5 => ?_) (fun c5 => ?_)
    · exact (show False by omega).elim
    · rcases ho.2.2.2.2.2.2.2.2 c (by omega) with ⟨e1, e2⟩ | ⟨h, b, hh, hb, e1, e2⟩
      · refine G_aload_n dX0_cutTurves_8 rfl ?_
        refine G_sipush (v := 143) dX0_cutTurves_9 (by decide) ?_
        refine G_iload_n dX0_cutTurves_12 rfl ?_
        refine G_iaddN (a := 143) (c := c) (s := 143 + c) dX0_cutTurves_13 (by omega) ?_
        refine G_callVi dX0_cutTurves_14 kX0_cutTurves_X0_at ⟨rfl, rfl⟩ ⟨Nat.zero_le _, Nat.zero_le _⟩ (c_atH hΩ (j := 143 + c) (j' := 139 + c) (by omega) (by omega)) rfl rfl ((hΩ _).1) rfl rfl ?_
        refine G_eqi e1 ?_
        refine G_istore_n dX0_cutTurves_17 rfl (L' := [some (.ref lp), some (.int (nI (c))), some (.int (-1)), y3, y4]) rfl ?_
        refine G_aload_n dX0_cutTurves_18 rfl ?_
        refine G_sipush (v := 149) dX0_cutTurves_19 (by decide) ?_
        refine G_iload_n dX0_cutTurves_22 rfl ?_
        refine G_iaddN (a := 149) (c := c) (s := 149 + c) dX0_cutTurves_23 (by omega) ?_
        refine G_callVi dX0_cutTurves_24 kX0_cutTurves_X0_at ⟨rfl, rfl⟩ ⟨Nat.zero_le _, Nat.zero_le _⟩ (c_atH hΩ (j := 149 + c) (j' := 145 + c) (by omega) (by omega)) rfl rfl ((hΩ _).1) rfl rfl ?_
        refine G_eqi e2 ?_
        refine G_istore_n dX0_cutTurves_27 rfl (L' := [some (.ref lp), some (.int (nI (c))), some (.int (-1)), some (.int (-1)), y4]) rfl ?_
        refine G_iload_n dX0_cutTurves_28 rfl ?_
        refine G_iconst (v := (-1)) dX0_cutTurves_29 (by decide) ?_
        refine G_icmp_eq 106 dX0_cutTurves_30 (by decide) (fun c30 => ?_) (fun c30 => ?_)
        · refine G_iincN (a := c) (s := c + 1) dX0_cutTurves_106 rfl (by omega) (L' := [some (.ref lp), some (.int (nI (c + 1))), some (.int (-1)), some (.int (-1)), y4]) rfl ?_
          refine G_goto 2 dX0_cutTurves_109 (by decide) ?_
          have ecut : s_cut c f = f := by rw [s_cut, if_pos e1]
          refine lp_cutTurves hΩ d (c + 1) f _ _ _ ho (by omega) (by rw [hr, itr_s, ecut])
        · exact absurd rfl c30
      · refine G_aload_n dX0_cutTurves_8 rfl ?_
        refine G_sipush (v := 143) dX0_cutTurves_9 (by decide) ?_
        refine G_iload_n dX0_cutTurves_12 rfl ?_
        refine G_iaddN (a := 143) (c := c) (s := 143 + c) dX0_cutTurves_13 (by omega) ?_
        refine G_callVi dX0_cutTurves_14 kX0_cutTurves_X0_at ⟨rfl, rfl⟩ ⟨Nat.zero_le _, Nat.zero_le _⟩ (c_atH hΩ (j := 143 + c) (j' := 139 + c) (by omega) (by omega)) rfl rfl ((hΩ _).1) rfl rfl ?_
        refine G_eqi e1 ?_
        refine G_istore_n dX0_cutTurves_17 rfl (L' := [some (.ref lp), some (.int (nI (c))), some (.int (nI (h))), y3, y4]) rfl ?_
        refine G_aload_n dX0_cutTurves_18 rfl ?_
        refine G_sipush (v := 149) dX0_cutTurves_19 (by decide) ?_
        refine G_iload_n dX0_cutTurves_22 rfl ?_
        refine G_iaddN (a := 149) (c := c) (s := 149 + c) dX0_cutTurves_23 (by omega) ?_
        refine G_callVi dX0_cutTurves_24 kX0_cutTurves_X0_at ⟨rfl, rfl⟩ ⟨Nat.zero_le _, Nat.zero_le _⟩ (c_atH hΩ (j := 149 + c) (j' := 145 + c) (by omega) (by omega)) rfl rfl ((hΩ _).1) rfl rfl ?_
        refine G_eqi e2 ?_
        refine G_istore_n dX0_cutTurves_27 rfl (L' := [some (.ref lp), some (.int (nI (c))), some (.int (nI (h))), some (.int (nI (b))), y4]) rfl ?_
        refine G_iload_n dX0_cutTurves_28 rfl ?_
        refine G_iconst (v := (-1)) dX0_cutTurves_29 (by decide) ?_
        refine G_icmp_eq 106 dX0_cutTurves_30 (by decide) (fun c30 => ?_) (fun c30 => ?_)
        · exact absurd c30 (nI_m1 (by omega))
        · refine G_iload_n dX0_cutTurves_33 rfl ?_
          refine G_iconst (v := (-1)) dX0_cutTurves_34 (by decide) ?_
          refine G_icmp_eq 106 dX0_cutTurves_35 (by decide) (fun c35 => ?_) (fun c35 => ?_)
          · exact absurd c35 (nI_m1 (by omega))
          · refine G_aload_n dX0_cutTurves_38 rfl ?_
            refine G_sipush (v := 137) dX0_cutTurves_39 (by decide) ?_
            refine G_iload_n dX0_cutTurves_42 rfl ?_
            refine G_iaddN (a := 137) (c := c) (s := 137 + c) dX0_cutTurves_43 (by omega) ?_
            refine G_callVi dX0_cutTurves_44 kX0_cutTurves_X0_at ⟨rfl, rfl⟩ ⟨Nat.zero_le _, Nat.zero_le _⟩ (c_atH hΩ (j := 137 + c) (j' := 133 + c) (by omega) (by omega)) rfl rfl ((hΩ _).1) rfl rfl ?_
            refine G_aload_n dX0_cutTurves_47 rfl ?_
            refine G_bipush (v := 45) dX0_cutTurves_48 (by decide) ?_
            refine G_iload_n dX0_cutTurves_50 rfl ?_
            refine G_iaddN (a := 45) (c := b) (s := 45 + b) dX0_cutTurves_51 (by omega) ?_
            refine G_callVi dX0_cutTurves_52 kX0_cutTurves_X0_at ⟨rfl, rfl⟩ ⟨Nat.zero_le _, Nat.zero_le _⟩ (c_atL hΩ (j := 45 + b) (by omega)) rfl rfl ((hΩ _).1) rfl rfl ?_
            refine G_min dX0_cutTurves_55 kX0_cutTurves_Mmin (by decide) ⟨Nat.zero_le _, Nat.zero_le _⟩ (Nat.le_of_ble_eq_true rfl) ?_
            refine G_istore dX0_cutTurves_58 rfl (L' := [some (.ref lp), some (.int (nI (c))), some (.int (nI (h))), some (.int (nI (b))), some (.int (mn (f (133 + c)) (f (45 + b))))]) rfl ?_
            refine G_aload_n dX0_cutTurves_60 rfl ?_
            refine G_bipush (v := 45) dX0_cutTurves_61 (by decide) ?_
            refine G_iload_n dX0_cutTurves_63 rfl ?_
            refine G_iaddN (a := 45) (c := b) (s := 45 + b) dX0_cutTurves_64 (by omega) ?_
            refine G_iload dX0_cutTurves_65 rfl ?_
            refine G_ineg dX0_cutTurves_67 ?_
            obtain ⟨f1, ef1⟩ : ∃ z : mj_S, z = upd f (45 + b) (f (45 + b) + (-(mn (f (133 + c)) (f (45 + b))))) := ⟨_, rfl⟩
            refine G_callVv dX0_cutTurves_68 kX0_cutTurves_X0_add ⟨rfl, rfl⟩ ⟨Nat.zero_le _, Nat.zero_le _⟩ (c_addL hΩ (j := 45 + b) (by omega) ef1) rfl rfl ((hΩ _).1) rfl rfl ?_
            refine G_aload_n dX0_cutTurves_71 rfl ?_
            refine G_bipush (v := 77) dX0_cutTurves_72 (by decide) ?_
            refine G_iload_n dX0_cutTurves_74 rfl ?_
            refine G_iload_n dX0_cutTurves_75 rfl ?_
            refine G_callSi dX0_cutTurves_76 kX0_cutTurves_X0_plotOf ⟨rfl, rfl⟩ ⟨Nat.zero_le _, Nat.zero_le _⟩ (c_plotOfN (h := h) (b := b) (s := b + 4 * h) (by omega)) rfl rfl rfl ?_
            refine G_iaddN (a := 77) (c := b + 4 * h) (s := 77 + b + 4 * h) dX0_cutTurves_79 (by omega) ?_
            refine G_iload dX0_cutTurves_80 rfl ?_
            obtain ⟨f2, ef2⟩ : ∃ z : mj_S, z = upd f1 (73 + b + 4 * h) (f1 (73 + b + 4 * h) + (mn (f (133 + c)) (f (45 + b)))) := ⟨_, rfl⟩
            refine G_callVv dX0_cutTurves_82 kX0_cutTurves_X0_add ⟨rfl, rfl⟩ ⟨Nat.zero_le _, Nat.zero_le _⟩ (c_addH hΩ (j := 77 + b + 4 * h) (j' := 73 + b + 4 * h) (by omega) (by omega) ef2) rfl rfl ((hΩ _).1) rfl rfl ?_
            refine G_aload_n dX0_cutTurves_85 rfl ?_
            refine G_bipush (v := 20) dX0_cutTurves_86 (by decide) ?_
            refine G_iload_n dX0_cutTurves_88 rfl ?_
            refine G_iaddN (a := 20) (c := h) (s := 20 + h) dX0_cutTurves_89 (by omega) ?_
            refine G_iload dX0_cutTurves_90 rfl ?_
            obtain ⟨f3, ef3⟩ : ∃ z : mj_S, z = upd f2 (20 + h) (f2 (20 + h) + (mn (f (133 + c)) (f (45 + b)))) := ⟨_, rfl⟩
            refine G_callVv dX0_cutTurves_92 kX0_cutTurves_X0_add ⟨rfl, rfl⟩ ⟨Nat.zero_le _, Nat.zero_le _⟩ (c_addL hΩ (j := 20 + h) (by omega) ef3) rfl rfl ((hΩ _).1) rfl rfl ?_
            refine G_aload_n dX0_cutTurves_95 rfl ?_
            refine G_sipush (v := 155) dX0_cutTurves_96 (by decide) ?_
            refine G_iload_n dX0_cutTurves_99 rfl ?_
            refine G_iaddN (a := 155) (c := c) (s := 155 + c) dX0_cutTurves_100 (by omega) ?_
            refine G_iload dX0_cutTurves_101 rfl ?_
            obtain ⟨f4, ef4⟩ : ∃ z : mj_S, z = upd f3 (151 + c) (f3 (151 + c) + (mn (f (133 + c)) (f (45 + b)))) := ⟨_, rfl⟩
            refine G_callVv dX0_cutTurves_103 kX0_cutTurves_X0_add ⟨rfl, rfl⟩ ⟨Nat.zero_le _, Nat.zero_le _⟩ (c_addH hΩ (j := 155 + c) (j' := 151 + c) (by omega) (by omega) ef4) rfl rfl ((hΩ _).1) rfl rfl ?_
            refine G_iincN (a := c) (s := c + 1) dX0_cutTurves_106 rfl (by omega) (L' := [some (.ref lp), some (.int (nI (c + 1))), some (.int (nI (h))), some (.int (nI (b))), some (.int (mn (f (133 + c)) (f (45 + b))))]) rfl ?_
            refine G_goto 2 dX0_cutTurves_109 (by decide) ?_
            have ecut : s_cut c f = f4 := by subst ef4; subst ef3; subst ef2; subst ef1; rw [s_cut, if_neg (by rw [e1]; exact nI_m1 (by omega))]; simp only [e1, e2, nI_clamp (show h < 2 ^ 31 by omega), nI_clamp (show b < 2 ^ 31 by omega), Int32.sub_eq_add_neg]
            rw [← ecut]
            exact lp_cutTurves hΩ d (c + 1) (s_cut c f) _ _ _ (oA_same (sA_cut ho (by omega)) ho) (by omega) hr
theorem c_cutTurves (hΩ : LV lp ap Ω) {q f : mj_S} {D : Nat} (ho : oA f D) : MC l yX0_cutTurves wsX0_cutTurves rmX0_cutTurves false [.ref lp] (Ω (row q f)) none (Ω (row q (s_cuts f))) := by
  refine mj_MC (cc := cX0_cutTurves) (nl := 5) (ret := none) (plainFor_of_name (by decide)) rfl (rfl) (Nat.le_of_ble_eq_true rfl) ?_
  show GG l cX0_cutTurves MX0_cutTurves false (.inl (none, Ω (row q (s_cuts f)))) 0 [some (.ref lp), none, none, none, none] [] (Ω (row q f)) 0 0
  refine G_iconst (v := 0) dX0_cutTurves_0 (by decide) ?_
  refine G_istore_n dX0_cutTurves_1 rfl (L' := [some (.ref lp), some (.int 0), none, none, none]) rfl ?_
  exact lp_cutTurves hΩ 6 0 f _ _ _ ho (by omega) rfl
theorem lp_weather (hΩ : LV lp ap Ω) {q res : mj_S} {r : Nat} (hr9 : r < 10) : ∀ (d c : Nat) (f : mj_S) (hv : vt f), c + d = 20 → res = itr (fun p a => if 6 < r then s_soak p a else s_dry p a) d c f → GG l cX0_weather MX0_weather false (.inl (none, Ω (row q res))) 14 [some (.ref lp), some (.int (nI (r))), some (.int (nI (c)))] [] (Ω (row q f)) 0 0
  | 0, c, f, hv, hc, hr => by
    refine G_iload_n dX0_weather_14 rfl ?_
    refine G_bipush (v := 20) dX0_weather_15 (by decide) ?_
    refine G_icmp_geN (a := c) (c := 20) 58 dX0_weather_17 (by decide) (by omega) (fun c17 => ?_) (fun c17 => ?_)
    · exact G_vret dX0_weather_58 ⟨Nat.zero_le _, Nat.zero_le _⟩ (by rw [hr, itr_0])
    · exact (show False by omega).elim
  | d + 1, c, f, hv, hc, hr => by
    refine G_iload_n dX0_weather_14 rfl ?_
    refine G_bipush (v := 20) dX0_weather_15 (by decide) ?_
    refine G_icmp_geN (a := c) (c := 20) 58 dX0_weather_17 (by decide) (by omega) (fun c17 => ?_) (fun c17 => ?_)
    · exact (show False by omega).elim
    · refine G_aload_n dX0_weather_20 rfl ?_
      refine G_iload_n dX0_weather_21 rfl ?_
      refine G_iconst (v := 1) dX0_weather_22 (by decide) ?_
      refine G_iconst (v := 1) dX0_weather_23 (by decide) ?_
      refine G_callVi dX0_weather_24 kX0_weather_X0_turvesOn ⟨rfl, rfl⟩ ⟨Nat.zero_le _, Nat.zero_le _⟩ (c_tv1 hΩ (p := c) (by omega)) rfl rfl ((hΩ _).1) rfl rfl ?_
      refine G_if_ne 33 dX0_weather_27 (by decide) (fun c27 => ?_) (fun c27 => ?_)
      · refine G_iload_n dX0_weather_33 rfl ?_
        refine G_bipush (v := 6) dX0_weather_34 (by decide) ?_
        refine G_icmp_leN (a := r) (c := 6) 47 dX0_weather_36 (by decide) (by omega) (fun c36 => ?_) (fun c36 => ?_)
        · refine G_aload_n dX0_weather_47 rfl ?_
          refine G_iload_n dX0_weather_48 rfl ?_
          refine G_callVv dX0_weather_49 kX0_weather_X0_dryOut ⟨rfl, rfl⟩ ⟨Nat.zero_le _, Nat.zero_le _⟩ (c_dryOut hΩ (p := c) (by omega)) rfl rfl ((hΩ _).1) rfl rfl ?_
          refine G_iincN (a := c) (s := c + 1) dX0_weather_52 rfl (by omega) (L' := [some (.ref lp), some (.int (nI (r))), some (.int (nI (c + 1)))]) rfl ?_
          refine G_goto 14 dX0_weather_55 (by decide) ?_
          exact lp_weather hΩ hr9 d (c + 1) _ (vt_dry (by omega) hv) (by omega) (by rw [hr, itr_s]; congr 1; exact if_neg (by omega))
        · refine G_aload_n dX0_weather_39 rfl ?_
          refine G_iload_n dX0_weather_40 rfl ?_
          refine G_callVv dX0_weather_41 kX0_weather_X0_wetAgain ⟨rfl, rfl⟩ ⟨Nat.zero_le _, Nat.zero_le _⟩ (c_wetAgain hΩ (p := c) (by omega)) rfl rfl ((hΩ _).1) rfl rfl ?_
          refine G_goto 52 dX0_weather_44 (by decide) ?_
          refine G_iincN (a := c) (s := c + 1) dX0_weather_52 rfl (by omega) (L' := [some (.ref lp), some (.int (nI (r))), some (.int (nI (c + 1)))]) rfl ?_
          refine G_goto 14 dX0_weather_55 (by decide) ?_
          exact lp_weather hΩ hr9 d (c + 1) _ (vt_soak (by omega) hv) (by omega) (by rw [hr, itr_s]; congr 1; exact if_pos (by omega))
      · refine G_goto 52 dX0_weather_30 (by decide) ?_
        refine G_iincN (a := c) (s := c + 1) dX0_weather_52 rfl (by omega) (L' := [some (.ref lp), some (.int (nI (r))), some (.int (nI (c + 1)))]) rfl ?_
        refine G_goto 14 dX0_weather_55 (by decide) ?_
        have e0 : (if 6 < r then s_soak c f else s_dry c f) = f := by split; exact soak_empty (by omega) hv c27; exact dry_empty (by omega) hv c27
        exact lp_weather hΩ hr9 d (c + 1) f hv (by omega) (by rw [hr, itr_s]; exact congrArg _ e0)
theorem c_weather (hΩ : LV lp ap Ω) {q f : mj_S} {r : Nat} (hr9 : r < 10) (hv : vt f) : MC l yX0_weather wsX0_weather rmX0_weather false [.ref lp, .int (nI (r))] (Ω (row q f)) none (Ω (row q (s_wth r f))) := by
  refine mj_MC (cc := cX0_weather) (nl := 3) (ret := none) (plainFor_of_name (by decide)) rfl (rfl) (Nat.le_of_ble_eq_true rfl) ?_
  show GG l cX0_weather MX0_weather false (.inl (none, Ω (row q (s_wth r f)))) 0 [some (.ref lp), some (.int (nI (r))), none] [] (Ω (row q f)) 0 0
  refine G_iload_n dX0_weather_0 rfl ?_
  refine G_iconst (v := 3) dX0_weather_1 (by decide) ?_
  refine G_icmp_leN (a := r) (c := 3) 12 dX0_weather_2 (by decide) (by omega) (fun c2 => ?_) (fun c2 => ?_)
  · refine G_iconst (v := 0) dX0_weather_12 (by decide) ?_
    refine G_istore_n dX0_weather_13 rfl (L' := [some (.ref lp), some (.int (nI (r))), some (.int 0)]) rfl ?_
    exact lp_weather hΩ hr9 20 0 f hv (by omega) (by rw [s_wth, if_neg (by omega), if_pos (by omega)]; exact itr_congr _ _ _ (fun k _ _ x => (if_neg (by omega)).symm))
  · refine G_iload_n dX0_weather_5 rfl ?_
    refine G_bipush (v := 6) dX0_weather_6 (by decide) ?_
    refine G_icmp_gtN (a := r) (c := 6) 12 dX0_weather_8 (by decide) (by omega) (fun c8 => ?_) (fun c8 => ?_)
    · refine G_iconst (v := 0) dX0_weather_12 (by decide) ?_
      refine G_istore_n dX0_weather_13 rfl (L' := [some (.ref lp), some (.int (nI (r))), some (.int 0)]) rfl ?_
      exact lp_weather hΩ hr9 20 0 f hv (by omega) (by rw [s_wth, if_pos c8]; exact itr_congr _ _ _ (fun k _ _ x => (if_pos c8).symm))
    · exact G_vret dX0_weather_11 ⟨Nat.zero_le _, Nat.zero_le _⟩ (by rw [s_wth, if_neg (by omega), if_neg (by omega)])
theorem c_cartHome (hΩ : LV lp ap Ω) {q f : mj_S} {h b : Nat} {lf : Int32} (hh : h < 5) (hb : b < 4) : MC l yX0_cartHome wsX0_cartHome rmX0_cartHome false [.ref lp, .int (nI (h)), .int (nI (b)), .int lf] (Ω (row q f)) (some (.int (mn (f (113 + b + 4 * h)) lf))) (Ω (row q (s_bring f h b (mn (f (113 + b + 4 * h)) lf)))) := by
  refine mj_MC (cc := cX0_cartHome) (nl := 7) (ret := (some .int)) (plainFor_of_name (by decide)) rfl (⟨_, rfl, rfl⟩) (Nat.le_of_ble_eq_true rfl) ?_
  show GG l cX0_cartHome MX0_cartHome false (.inl ((some (.int (mn (f (113 + b + 4 * h)) lf))), Ω (row q (s_bring f h b (mn (f (113 + b + 4 * h)) lf))))) 0 [some (.ref lp), some (.int (nI (h))), some (.int (nI (b))), some (.int lf), none, none, none] [] (Ω (row q f)) 0 0
  refine G_aload_n dX0_cartHome_0 rfl ?_
  refine G_bipush (v := 117) dX0_cartHome_1 (by decide) ?_
  refine G_iload_n dX0_cartHome_3 rfl ?_
  refine G_iload_n dX0_cartHome_4 rfl ?_
  refine G_callSi dX0_cartHome_5 kX0_cartHome_X0_plotOf ⟨rfl, rfl⟩ ⟨Nat.zero_le _, Nat.zero_le _⟩ (c_plotOfN (h := h) (b := b) (s := b + 4 * h) (by omega)) rfl rfl rfl ?_
  refine G_iaddN (a := 117) (c := b + 4 * h) (s := 117 + b + 4 * h) dX0_cartHome_8 (by omega) ?_
  refine G_callVi dX0_cartHome_9 kX0_cartHome_X0_at ⟨rfl, rfl⟩ ⟨Nat.zero_le _, Nat.zero_le _⟩ (c_atH hΩ (j := 117 + b + 4 * h) (j' := 113 + b + 4 * h) (by omega) (by omega)) rfl rfl ((hΩ _).1) rfl rfl ?_
  refine G_iload_n dX0_cartHome_12 rfl ?_
  refine G_min dX0_cartHome_13 kX0_cartHome_Mmin (by decide) ⟨Nat.zero_le _, Nat.zero_le _⟩ (Nat.le_of_ble_eq_true rfl) ?_
  obtain ⟨z1, ez1⟩ : ∃ z : Int32, z = (mn (f (113 + b + 4 * h)) lf) := ⟨_, rfl⟩
  rw [← ez1]
  refine G_eqi ez1.symm ?_
  refine G_istore dX0_cartHome_16 rfl (L' := [some (.ref lp), some (.int (nI (h))), some (.int (nI (b))), some (.int lf), some (.int z1), none, none]) rfl ?_
  refine G_iload dX0_cartHome_18 rfl ?_
  refine G_if_ne 25 dX0_cartHome_20 (by decide) (fun c20 => ?_) (fun c20 => ?_)
  · refine G_aload_n dX0_cartHome_25 rfl ?_
    refine G_bipush (v := 117) dX0_cartHome_26 (by decide) ?_
    refine G_iload_n dX0_cartHome_28 rfl ?_
    refine G_iload_n dX0_cartHome_29 rfl ?_
    refine G_callSi dX0_cartHome_30 kX0_cartHome_X0_plotOf ⟨rfl, rfl⟩ ⟨Nat.zero_le _, Nat.zero_le _⟩ (c_plotOfN (h := h) (b := b) (s := b + 4 * h) (by omega)) rfl rfl rfl ?_
    refine G_iaddN (a := 117) (c := b + 4 * h) (s := 117 + b + 4 * h) dX0_cartHome_33 (by omega) ?_
    refine G_iload dX0_cartHome_34 rfl ?_
    refine G_ineg dX0_cartHome_36 ?_
    obtain ⟨f1, ef1⟩ : ∃ z : mj_S, z = upd f (113 + b + 4 * h) (f (113 + b + 4 * h) + (-z1)) := ⟨_, rfl⟩
    refine G_callVv dX0_cartHome_37 kX0_cartHome_X0_add ⟨rfl, rfl⟩ ⟨Nat.zero_le _, Nat.zero_le _⟩ (c_addH hΩ (j := 117 + b + 4 * h) (j' := 113 + b + 4 * h) (by omega) (by omega) ef1) rfl rfl ((hΩ _).1) rfl rfl ?_
    refine G_aload_n dX0_cartHome_40 rfl ?_
    refine G_bipush (v := 15) dX0_cartHome_41 (by decide) ?_
    refine G_iload_n dX0_cartHome_43 rfl ?_
    refine G_iaddN (a := 15) (c := h) (s := 15 + h) dX0_cartHome_44 (by omega) ?_
    refine G_iload dX0_cartHome_45 rfl ?_
    obtain ⟨f2, ef2⟩ : ∃ z : mj_S, z = upd f1 (15 + h) (f1 (15 + h) + z1) := ⟨_, rfl⟩
    refine G_callVv dX0_cartHome_47 kX0_cartHome_X0_add ⟨rfl, rfl⟩ ⟨Nat.zero_le _, Nat.zero_le _⟩ (c_addL hΩ (j := 15 + h) (by omega) ef2) rfl rfl ((hΩ _).1) rfl rfl ?_
    refine G_aload_n dX0_cartHome_50 rfl ?_
    refine G_iconst (v := 5) dX0_cartHome_51 (by decide) ?_
    refine G_iload_n dX0_cartHome_52 rfl ?_
    refine G_iaddN (a := 5) (c := h) (s := 5 + h) dX0_cartHome_53 (by omega) ?_
    refine G_callVi dX0_cartHome_54 kX0_cartHome_X0_at ⟨rfl, rfl⟩ ⟨Nat.zero_le _, Nat.zero_le _⟩ (c_atL hΩ (j := 5 + h) (by omega)) rfl rfl ((hΩ _).1) rfl rfl ?_
    refine G_iconst (v := 1) dX0_cartHome_57 (by decide) ?_
    refine G_icmp_ne 65 dX0_cartHome_58 (by decide) (fun c58 => ?_) (fun c58 => ?_)
    · refine G_aload_n dX0_cartHome_65 rfl ?_
      refine G_callVi dX0_cartHome_66 kX0_cartHome_X0_poorestWidow ⟨rfl, rfl⟩ ⟨Nat.zero_le _, Nat.zero_le _⟩ (c_poorestWidow hΩ) rfl rfl ((hΩ _).1) rfl rfl ?_
      refine G_istore dX0_cartHome_69 rfl (L' := [some (.ref lp), some (.int (nI (h))), some (.int (nI (b))), some (.int lf), some (.int z1), some (.int (s_poor f2)), none]) rfl ?_
      refine G_iload dX0_cartHome_71 rfl ?_
      refine G_iconst (v := (-1)) dX0_cartHome_73 (by decide) ?_
      refine G_icmp_eq 133 dX0_cartHome_74 (by decide) (fun c74 => ?_) (fun c74 => ?_)
      · refine G_iload dX0_cartHome_133 rfl ?_
        refine G_iret dX0_cartHome_135 ⟨Nat.zero_le _, Nat.zero_le _⟩ ?_
        refine X_iw rfl (congrArg (fun z => Ω (row q z)) ?_)
        unfold s_bring
        simp only [Int32.sub_eq_add_neg, ← ef1, ← ef2]
        rw [if_neg c58, if_pos c74]
      · obtain ⟨v, hv, ev⟩ := (poor_in f2).resolve_left c74
        rw [ev]
        refine G_iload dX0_cartHome_77 rfl ?_
        refine G_aload_n dX0_cartHome_79 rfl ?_
        refine G_iconst (v := 3) dX0_cartHome_80 (by decide) ?_
        refine G_callVi dX0_cartHome_81 kX0_cartHome_X0_at ⟨rfl, rfl⟩ ⟨Nat.zero_le _, Nat.zero_le _⟩ (c_atL hΩ (j := 3) (by omega)) rfl rfl ((hΩ _).1) rfl rfl ?_
        refine G_imul dX0_cartHome_84 ?_
        refine G_bipush (v := 100) dX0_cartHome_85 (by decide) ?_
        refine G_idiv dX0_cartHome_87 (by decide) ?_
        obtain ⟨z2, ez2⟩ : ∃ z : Int32, z = ((z1 * (f2 (3))) / 100) := ⟨_, rfl⟩
        refine G_eqi ez2.symm ?_
        refine G_istore dX0_cartHome_88 rfl (L' := [some (.ref lp), some (.int (nI (h))), some (.int (nI (b))), some (.int lf), some (.int z1), some (.int (nI (v))), some (.int z2)]) rfl ?_
        refine G_aload_n dX0_cartHome_90 rfl ?_
        refine G_bipush (v := 15) dX0_cartHome_91 (by decide) ?_
        refine G_iload_n dX0_cartHome_93 rfl ?_
        refine G_iaddN (a := 15) (c := h) (s := 15 + h) dX0_cartHome_94 (by omega) ?_
        refine G_iload dX0_cartHome_95 rfl ?_
        refine G_ineg dX0_cartHome_97 ?_
        obtain ⟨f3, ef3⟩ : ∃ z : mj_S, z = upd f2 (15 + h) (f2 (15 + h) + (-z2)) := ⟨_, rfl⟩
        refine G_callVv dX0_cartHome_98 kX0_cartHome_X0_add ⟨rfl, rfl⟩ ⟨Nat.zero_le _, Nat.zero_le _⟩ (c_addL hΩ (j := 15 + h) (by omega) ef3) rfl rfl ((hΩ _).1) rfl rfl ?_
        refine G_aload_n dX0_cartHome_101 rfl ?_
        refine G_bipush (v := 30) dX0_cartHome_102 (by decide) ?_
        refine G_iload_n dX0_cartHome_104 rfl ?_
        refine G_iaddN (a := 30) (c := h) (s := 30 + h) dX0_cartHome_105 (by omega) ?_
        refine G_iload dX0_cartHome_106 rfl ?_
        obtain ⟨f4, ef4⟩ : ∃ z : mj_S, z = upd f3 (30 + h) (f3 (30 + h) + z2) := ⟨_, rfl⟩
        refine G_callVv dX0_cartHome_108 kX0_cartHome_X0_add ⟨rfl, rfl⟩ ⟨Nat.zero_le _, Nat.zero_le _⟩ (c_addL hΩ (j := 30 + h) (by omega) ef4) rfl rfl ((hΩ _).1) rfl rfl ?_
        refine G_aload_n dX0_cartHome_111 rfl ?_
        refine G_bipush (v := 15) dX0_cartHome_112 (by decide) ?_
        refine G_iload dX0_cartHome_114 rfl ?_
        refine G_iaddN (a := 15) (c := v) (s := 15 + v) dX0_cartHome_116 (by omega) ?_
        refine G_iload dX0_cartHome_117 rfl ?_
        obtain ⟨f5, ef5⟩ : ∃ z : mj_S, z = upd f4 (15 + v) (f4 (15 + v) + z2) := ⟨_, rfl⟩
        refine G_callVv dX0_cartHome_119 kX0_cartHome_X0_add ⟨rfl, rfl⟩ ⟨Nat.zero_le _, Nat.zero_le _⟩ (c_addL hΩ (j := 15 + v) (by omega) ef5) rfl rfl ((hΩ _).1) rfl rfl ?_
        refine G_aload_n dX0_cartHome_122 rfl ?_
        refine G_bipush (v := 25) dX0_cartHome_123 (by decide) ?_
        refine G_iload dX0_cartHome_125 rfl ?_
        refine G_iaddN (a := 25) (c := v) (s := 25 + v) dX0_cartHome_127 (by omega) ?_
        refine G_iload dX0_cartHome_128 rfl ?_
        obtain ⟨f6, ef6⟩ : ∃ z : mj_S, z = upd f5 (25 + v) (f5 (25 + v) + z2) := ⟨_, rfl⟩
        refine G_callVv dX0_cartHome_130 kX0_cartHome_X0_add ⟨rfl, rfl⟩ ⟨Nat.zero_le _, Nat.zero_le _⟩ (c_addL hΩ (j := 25 + v) (by omega) ef6) rfl rfl ((hΩ _).1) rfl rfl ?_
        refine G_iload dX0_cartHome_133 rfl ?_
        refine G_iret dX0_cartHome_135 ⟨Nat.zero_le _, Nat.zero_le _⟩ ?_
        refine X_iw rfl (congrArg (fun z => Ω (row q z)) ?_)
        unfold s_bring
        simp only [Int32.sub_eq_add_neg, ← ef1, ← ef2]
        rw [if_neg c58, if_neg c74, ev, nI_clamp (show v < 2 ^ 31 by omega), ← ez2, ← ef3, ← ef4, ← ef5, ← ef6]
    · refine G_iconst (v := (-1)) dX0_cartHome_61 (by decide) ?_
      refine G_goto 69 dX0_cartHome_62 (by decide) ?_
      refine G_istore dX0_cartHome_69 rfl (L' := [some (.ref lp), some (.int (nI (h))), some (.int (nI (b))), some (.int lf), some (.int z1), some (.int (-1)), none]) rfl ?_
      refine G_iload dX0_cartHome_71 rfl ?_
      refine G_iconst (v := (-1)) dX0_cartHome_73 (by decide) ?_
      refine G_icmp_eq 133 dX0_cartHome_74 (by decide) (fun c74 => ?_) (fun c74 => ?_)
      · refine G_iload dX0_cartHome_133 rfl ?_
        refine G_iret dX0_cartHome_135 ⟨Nat.zero_le _, Nat.zero_le _⟩ ?_
        refine X_iw rfl (congrArg (fun z => Ω (row q z)) ?_)
        unfold s_bring
        simp only [Int32.sub_eq_add_neg, ← ef1, ← ef2]
        rw [if_pos c58]
      · exact absurd rfl c74
  · refine G_iconst (v := 0) dX0_cartHome_23 (by decide) ?_
    refine G_iret dX0_cartHome_24 ⟨Nat.zero_le _, Nat.zero_le _⟩ ?_
    have e0 : z1 = 0 := c20
    rw [e0, bring_zero]
theorem lp_cart (hΩ : LV lp ap Ω) {q F : mj_S} {X : mj_R} {D b : Nat} {lf hm1 : Int32} (hb : b < 4) (K : ∀ (y5 y6 : Option Value), GG l cX0_goCarts MX0_goCarts false X 71 [some (.ref lp), some (.int (nI (D % 5))), some (.int hm1), some (.int (nI b)), some (.int lf), y5, y6] [] (Ω (row q F)) 0 0) : ∀ (d c : Nat) (f : mj_S) (l1 x : Int32) (y6 : Option Value), c + d = 5 → (F, lf) = itr (s_cart1 D b) d c (f, l1) → hm1 = x + (l1 - lf) → GG l cX0_goCarts MX0_goCarts false X 32 [some (.ref lp), some (.int (nI (D % 5))), some (.int x), some (.int (nI b)), some (.int l1), some (.int (nI c)), y6] [] (Ω (row q f)) 0 0
  | 0, c, f, l1, x, y6, hc, hr, hm => by
    refine G_iload dX0_goCarts_32 rfl ?_
    refine G_iconst (v := 5) dX0_goCarts_34 (by decide) ?_
    refine G_icmp_geN (a := c) (c := 5) 71 dX0_goCarts_35 (by decide) (by omega) (fun c35 => ?_) (fun c35 => ?_)
    · cases hr
      have e : hm1 = x := by rw [hm]; grind
      subst e
      exact K _ _
    · exact (show False by omega).elim
  | d + 1, c, f, l1, x, y6, hc, hr, hm => by
    refine G_iload dX0_goCarts_32 rfl ?_
    refine G_iconst (v := 5) dX0_goCarts_34 (by decide) ?_
    refine G_icmp_geN (a := c) (c := 5) 71 dX0_goCarts_35 (by decide) (by omega) (fun c35 => ?_) (fun c35 => ?_)
    · exact (show False by omega).elim
    · refine G_aload_n dX0_goCarts_38 rfl ?_
      refine G_iload_n dX0_goCarts_39 rfl ?_
      refine G_iload dX0_goCarts_40 rfl ?_
      refine G_iaddN (a := (D % 5)) (c := c) (s := (D % 5) + c) dX0_goCarts_42 (by omega) ?_
      refine G_iconst (v := 5) dX0_goCarts_43 (by decide) ?_
      refine G_iremN (a := (D % 5) + c) (c := 5) (s := (((D % 5) + c) % 5)) dX0_goCarts_44 (by omega) (by omega) ?_
      rw [show ((D % 5) + c) % 5 = (D + c) % 5 by omega]
      refine G_iload_n dX0_goCarts_45 rfl ?_
      refine G_iload dX0_goCarts_46 rfl ?_
      refine G_callVi dX0_goCarts_48 kX0_goCarts_X0_cartHome ⟨rfl, rfl⟩ ⟨Nat.zero_le _, Nat.zero_le _⟩ (c_cartHome hΩ (h := ((D + c) % 5)) (b := b) (by omega) (by omega)) rfl rfl ((hΩ _).1) rfl rfl ?_
      refine G_istore dX0_goCarts_51 rfl (L' := [some (.ref lp), some (.int (nI ((D % 5)))), some (.int x), some (.int (nI (b))), some (.int l1), some (.int (nI (c))), some (.int (mn (f (113 + b + 4 * ((D + c) % 5))) l1))]) rfl ?_
      refine G_iload dX0_goCarts_53 rfl ?_
      refine G_iload dX0_goCarts_55 rfl ?_
      refine G_isub dX0_goCarts_57 ?_
      refine G_istore dX0_goCarts_58 rfl (L' := [some (.ref lp), some (.int (nI ((D % 5)))), some (.int x), some (.int (nI (b))), some (.int (l1 - (mn (f (113 + b + 4 * ((D + c) % 5))) l1))), some (.int (nI (c))), some (.int (mn (f (113 + b + 4 * ((D + c) % 5))) l1))]) rfl ?_
      refine G_iload_n dX0_goCarts_60 rfl ?_
      refine G_iload dX0_goCarts_61 rfl ?_
      refine G_iadd dX0_goCarts_63 ?_
      refine G_istore_n dX0_goCarts_64 rfl (L' := [some (.ref lp), some (.int (nI ((D % 5)))), some (.int (x + (mn (f (113 + b + 4 * ((D + c) % 5))) l1))), some (.int (nI (b))), some (.int (l1 - (mn (f (113 + b + 4 * ((D + c) % 5))) l1))), some (.int (nI (c))), some (.int (mn (f (113 + b + 4 * ((D + c) % 5))) l1))]) rfl ?_
      refine G_iincN (a := c) (s := c + 1) dX0_goCarts_65 rfl (by omega) (L' := [some (.ref lp), some (.int (nI ((D % 5)))), some (.int (x + (mn (f (113 + b + 4 * ((D + c) % 5))) l1))), some (.int (nI (b))), some (.int (l1 - (mn (f (113 + b + 4 * ((D + c) % 5))) l1))), some (.int (nI (c + 1))), some (.int (mn (f (113 + b + 4 * ((D + c) % 5))) l1))]) rfl ?_
      refine G_goto 32 dX0_goCarts_68 (by decide) ?_
      exact lp_cart hΩ hb K d (c + 1) _ _ _ _ (by omega) hr (by rw [hm]; grind)
theorem lp_carts (hΩ : LV lp ap Ω) {q : mj_S} {D : Nat} {res : mj_S × Int32} : ∀ (d c : Nat) (f : mj_S) (x : Int32) (y4 y5 y6 : Option Value), c + d = 4 → res = itr (s_carts1 D) d c (f, x) → GG l cX0_goCarts MX0_goCarts false (.inl (some (.int res.2), Ω (row q res.1))) 14 [some (.ref lp), some (.int (nI (D % 5))), some (.int x), some (.int (nI c)), y4, y5, y6] [] (Ω (row q f)) 0 0
  | 0, c, f, x, y4, y5, y6, hc, hr => by
    refine G_iload_n dX0_goCarts_14 rfl ?_
    refine G_iconst (v := 4) dX0_goCarts_15 (by decide) ?_
    refine G_icmp_geN (a := c) (c := 4) 77 dX0_goCarts_16 (by decide) (by omega) (fun c16 => ?_) (fun c16 => ?_)
    · refine G_iload_n dX0_goCarts_77 rfl ?_
      exact G_iret dX0_goCarts_78 ⟨Nat.zero_le _, Nat.zero_le _⟩ (by rw [hr, itr_0])
    · exact (show False by omega).elim
  | d + 1, c, f, x, y4, y5, y6, hc, hr => by
    refine G_iload_n dX0_goCarts_14 rfl ?_
    refine G_iconst (v := 4) dX0_goCarts_15 (by decide) ?_
    refine G_icmp_geN (a := c) (c := 4) 77 dX0_goCarts_16 (by decide) (by omega) (fun c16 => ?_) (fun c16 => ?_)
    · exact (show False by omega).elim
    · refine G_aload_n dX0_goCarts_19 rfl ?_
      refine G_bipush (v := 49) dX0_goCarts_20 (by decide) ?_
      refine G_iload_n dX0_goCarts_22 rfl ?_
      refine G_iaddN (a := 49) (c := c) (s := 49 + c) dX0_goCarts_23 (by omega) ?_
      refine G_callVi dX0_goCarts_24 kX0_goCarts_X0_at ⟨rfl, rfl⟩ ⟨Nat.zero_le _, Nat.zero_le _⟩ (c_atL hΩ (j := 49 + c) (by omega)) rfl rfl ((hΩ _).1) rfl rfl ?_
      refine G_istore dX0_goCarts_27 rfl (L' := [some (.ref lp), some (.int (nI ((D % 5)))), some (.int x), some (.int (nI (c))), some (.int (f (49 + c))), y5, y6]) rfl ?_
      refine G_iconst (v := 0) dX0_goCarts_29 (by decide) ?_
      refine G_istore dX0_goCarts_30 rfl (L' := [some (.ref lp), some (.int (nI ((D % 5)))), some (.int x), some (.int (nI (c))), some (.int (f (49 + c))), some (.int 0), y6]) rfl ?_
      refine lp_cart hΩ (F := (s_cart D c f).1) (lf := (s_cart D c f).2) (hm1 := x + (f (49 + c) - (s_cart D c f).2)) (by omega) (fun y5 y6 => ?_) 5 0 f _ _ _ (by omega) rfl rfl
      refine G_iincN (a := c) (s := c + 1) dX0_goCarts_71 rfl (by omega) (L' := [some (.ref lp), some (.int (nI ((D % 5)))), some (.int (x + (f (49 + c) - (s_cart D c f).2))), some (.int (nI (c + 1))), some (.int (s_cart D c f).2), y5, y6]) rfl ?_
      refine G_goto 14 dX0_goCarts_74 (by decide) ?_
      exact lp_carts hΩ d (c + 1) _ _ _ _ _ (by omega) hr
theorem c_goCarts (hΩ : LV lp ap Ω) {q f : mj_S} {D : Nat} (hD : f 0 = nI D) (hD2 : D < 2147483648) : MC l yX0_goCarts wsX0_goCarts rmX0_goCarts false [.ref lp] (Ω (row q f)) (some (.int (s_carts D f).2)) (Ω (row q ((s_carts D f).1))) := by
  refine mj_MC (cc := cX0_goCarts) (nl := 7) (ret := (some .int)) (plainFor_of_name (by decide)) rfl (⟨_, rfl, rfl⟩) (Nat.le_of_ble_eq_true rfl) ?_
  show GG l cX0_goCarts MX0_goCarts false (.inl ((some (.int (s_carts D f).2)), Ω (row q ((s_carts D f).1)))) 0 [some (.ref lp), none, none, none, none, none, none] [] (Ω (row q f)) 0 0
  refine G_aload_n dX0_goCarts_0 rfl ?_
  refine G_iconst (v := 0) dX0_goCarts_1 (by decide) ?_
  refine G_callVi dX0_goCarts_2 kX0_goCarts_X0_at ⟨rfl, rfl⟩ ⟨Nat.zero_le _, Nat.zero_le _⟩ (c_atL hΩ (j := 0) (by omega)) rfl rfl ((hΩ _).1) rfl rfl ?_
  refine G_eqi hD ?_
  refine G_iconst (v := 5) dX0_goCarts_5 (by decide) ?_
  refine G_callSi dX0_goCarts_6 kX0_goCarts_J9_floorMod_7cf53 ⟨rfl, rfl⟩ ⟨Nat.zero_le _, Nat.zero_le _⟩ (c_fmod (a := D) (c := 5) (by omega) (by omega)) rfl rfl rfl ?_
  refine G_istore_n dX0_goCarts_9 rfl (L' := [some (.ref lp), some (.int (nI (((D) % 5)))), none, none, none, none, none]) rfl ?_
  refine G_iconst (v := 0) dX0_goCarts_10 (by decide) ?_
  refine G_istore_n dX0_goCarts_11 rfl (L' := [some (.ref lp), some (.int (nI (((D) % 5)))), some (.int 0), none, none, none, none]) rfl ?_
  refine G_iconst (v := 0) dX0_goCarts_12 (by decide) ?_
  refine G_istore_n dX0_goCarts_13 rfl (L' := [some (.ref lp), some (.int (nI (((D) % 5)))), some (.int 0), some (.int 0), none, none, none]) rfl ?_
  exact lp_carts hΩ 4 0 f 0 _ _ _ (by omega) rfl
theorem lp_passDays (hΩ : LV lp ap Ω) {q : mj_S} {n : Nat} {res : mj_S × Int32} : ∀ (d c D : Nat) (f : mj_S) (x : Int32), oA f D → vt f → D + d < 2147483647 ∧ n < 2147483648 → c + d = n → res = itr s_days1 d c (f, x) → GG l cX0_passDays MX0_passDays false (.inl (some (.int res.2), Ω (row q res.1))) 4 [some (.ref lp), some (.int (nI n)), some (.int x), some (.int (nI c))] [] (Ω (row q f)) 0 0
  | 0, c, D, f, x, ho, hv, hn, hc, hr => by
    refine G_iload_n dX0_passDays_4 rfl ?_
    refine G_iload_n dX0_passDays_5 rfl ?_
    refine G_icmp_geN (a := c) (c := n) 66 dX0_passDays_6 (by decide) (by omega) (fun c6 => ?_) (fun c6 => ?_)
    · refine G_iload_n dX0_passDays_66 rfl ?_
      exact G_iret dX0_passDays_67 ⟨Nat.zero_le _, Nat.zero_le _⟩ (by rw [hr, itr_0])
    · exact (show False by omega).elim
  | d + 1, c, D, f, x, ho, hv, hn, hc, hr => by
    refine G_iload_n dX0_passDays_4 rfl ?_
    refine G_iload_n dX0_passDays_5 rfl ?_
    refine G_icmp_geN (a := c) (c := n) 66 dX0_passDays_6 (by decide) (by omega) (fun c6 => ?_) (fun c6 => ?_)
    · exact (show False by omega).elim
    · refine G_aload_n dX0_passDays_9 rfl ?_
      refine G_iconst (v := 0) dX0_passDays_10 (by decide) ?_
      refine G_iconst (v := 1) dX0_passDays_11 (by decide) ?_
      obtain ⟨f1, ef1⟩ : ∃ z : mj_S, z = upd f (0) (f (0) + 1) := ⟨_, rfl⟩
      refine G_callVv dX0_passDays_12 kX0_passDays_X0_add ⟨rfl, rfl⟩ ⟨Nat.zero_le _, Nat.zero_le _⟩ (c_addL hΩ (j := 0) (by omega) ef1) rfl rfl ((hΩ _).1) rfl rfl ?_
      have hof1 : oA f1 (D + 1) := by rw [ef1]; exact oA_day ho
      have hvf1 : vt f1 := by rw [ef1]; exact vt_same (sT_upd (sT_rf f) (by unfold inT; omega)) hv
      refine G_aload_n dX0_passDays_15 rfl ?_
      refine G_iconst (v := 1) dX0_passDays_16 (by decide) ?_
      refine G_callVi dX0_passDays_17 kX0_passDays_X0_at ⟨rfl, rfl⟩ ⟨Nat.zero_le _, Nat.zero_le _⟩ (c_atL hΩ (j := 1) (by omega)) rfl rfl ((hΩ _).1) rfl rfl ?_
      refine G_iconst (v := 1) dX0_passDays_20 (by decide) ?_
      refine G_icmp_ne 36 dX0_passDays_21 (by decide) (fun c21 => ?_) (fun c21 => ?_)
      · refine G_aload_n dX0_passDays_36 rfl ?_
        obtain ⟨g1, eg1⟩ : ∃ z : mj_S, z = s_cuts f1 := ⟨_, rfl⟩
        refine G_callVv dX0_passDays_37 kX0_passDays_X0_cutTurves ⟨rfl, rfl⟩ ⟨Nat.zero_le _, Nat.zero_le _⟩ (MC_nf eg1 (c_cutTurves hΩ hof1)) rfl rfl ((hΩ _).1) rfl rfl ?_
        obtain ⟨hsg1, hvg1⟩ := cuts_ok (f := f1) 6 0 f1 (by omega) (sA_rf _) hof1 hvf1
        rw [show itr s_cut 6 0 f1 = g1 from eg1.symm] at hsg1 hvg1
        have hog1 := oA_same hsg1 hof1
        obtain ⟨sg, hs9, hs⟩ := hog1.2.2.1
        refine G_aload_n dX0_passDays_40 rfl ?_
        refine G_aload_n dX0_passDays_41 rfl ?_
        refine G_aload_n dX0_passDays_42 rfl ?_
        refine G_iconst (v := 0) dX0_passDays_43 (by decide) ?_
        refine G_callVi dX0_passDays_44 kX0_passDays_X0_at ⟨rfl, rfl⟩ ⟨Nat.zero_le _, Nat.zero_le _⟩ (c_atL hΩ (j := 0) (by omega)) rfl rfl ((hΩ _).1) rfl rfl ?_
        refine G_eqi hog1.1 ?_
        refine G_callVi dX0_passDays_47 kX0_passDays_X0_rainOf ⟨rfl, rfl⟩ ⟨Nat.zero_le _, Nat.zero_le _⟩ (c_rainOf hΩ (d := D + 1) (sg := sg) (by omega) hs hs9) rfl rfl ((hΩ _).1) rfl rfl ?_
        obtain ⟨g2, eg2⟩ : ∃ z : mj_S, z = s_wth (s_rain g1 (D + 1)) g1 := ⟨_, rfl⟩
        refine G_callVv dX0_passDays_50 kX0_passDays_X0_weather ⟨rfl, rfl⟩ ⟨Nat.zero_le _, Nat.zero_le _⟩ (MC_nf eg2 (c_weather hΩ (r := (s_rain g1 (D + 1))) (by exact Nat.mod_lt _ (by omega)) hvg1)) rfl rfl ((hΩ _).1) rfl rfl ?_
        have hog2 : oA g2 (D + 1) := by rw [eg2]; exact oA_same sA_wth hog1
        have hDg2 := hog2.1
        refine G_iload_n dX0_passDays_53 rfl ?_
        refine G_aload_n dX0_passDays_54 rfl ?_
        refine G_callVi dX0_passDays_55 kX0_passDays_X0_goCarts ⟨rfl, rfl⟩ ⟨Nat.zero_le _, Nat.zero_le _⟩ (c_goCarts hΩ hDg2 (by omega)) rfl rfl ((hΩ _).1) rfl rfl ?_
        refine G_iadd dX0_passDays_58 ?_
        refine G_istore_n dX0_passDays_59 rfl (L' := [some (.ref lp), some (.int (nI (n))), some (.int (x + (s_carts (D + 1) g2).2)), some (.int (nI (c)))]) rfl ?_
        refine G_iincN (a := c) (s := c + 1) dX0_passDays_60 rfl (by omega) (L' := [some (.ref lp), some (.int (nI (n))), some (.int (x + (s_carts (D + 1) g2).2)), some (.int (nI (c + 1)))]) rfl ?_
        refine G_goto 4 dX0_passDays_63 (by decide) ?_
        have ed : s_day f = s_carts (D + 1) g2 := by
          have q1 : ¬ f 1 = 1 := by rw [ef1, upd_n (by omega)] at c21; exact c21
          have q2 : s_rain g1 (D + 1) = s_rain f1 (D + 1) := by rw [s_rain, s_rain, hsg1 2 (Or.inl (by omega))]
          rw [s_day, if_neg q1, ← ef1, hof1.1, nI_clamp (by omega), ← eg1, ← q2, ← eg2]
        obtain ⟨k1, k2, -⟩ := day_ok ho hv
        rw [ed] at k1 k2
        exact lp_passDays hΩ d (c + 1) (D + 1) _ _ k1 k2 (by omega) (by omega) (by rw [hr, itr_s, s_days1]; dsimp only; rw [ed])
      · refine G_aload_n dX0_passDays_24 rfl ?_
        refine G_iconst (v := 0) dX0_passDays_25 (by decide) ?_
        obtain ⟨g3, eg3⟩ : ∃ z : mj_S, z = s_wth 0 f1 := ⟨_, rfl⟩
        refine G_callVv dX0_passDays_26 kX0_passDays_X0_weather ⟨rfl, rfl⟩ ⟨Nat.zero_le _, Nat.zero_le _⟩ (MC_nf eg3 (c_weather hΩ (r := 0) (by omega) hvf1)) rfl rfl ((hΩ _).1) rfl rfl ?_
        refine G_aload_n dX0_passDays_29 rfl ?_
        obtain ⟨g4, eg4⟩ : ∃ z : mj_S, z = s_burn g3 := ⟨_, rfl⟩
        refine G_callVv dX0_passDays_30 kX0_passDays_X0_burn ⟨rfl, rfl⟩ ⟨Nat.zero_le _, Nat.zero_le _⟩ (MC_nf eg4 (c_burn hΩ)) rfl rfl ((hΩ _).1) rfl rfl ?_
        refine G_goto 60 dX0_passDays_33 (by decide) ?_
        refine G_iincN (a := c) (s := c + 1) dX0_passDays_60 rfl (by omega) (L' := [some (.ref lp), some (.int (nI (n))), some (.int x), some (.int (nI (c + 1)))]) rfl ?_
        refine G_goto 4 dX0_passDays_63 (by decide) ?_
        have ed : s_day f = (g4, 0) := by
          have q1 : f 1 = 1 := by rw [ef1, upd_n (by omega)] at c21; exact c21
          rw [s_day, if_pos q1, ← ef1, ← eg3, ← eg4]
        obtain ⟨k1, k2, -⟩ := day_ok ho hv
        rw [ed] at k1 k2
        exact lp_passDays hΩ d (c + 1) (D + 1) g4 x k1 k2 (by omega) (by omega) (by rw [hr, itr_s, s_days1]; dsimp only; rw [ed]; simp)
theorem c_passDays (hΩ : LV lp ap Ω) {q f : mj_S} {D n : Nat} (ho : oA f D) (hv : vt f) (hn : D + n < 2147483647) : MC l yX0_passDays wsX0_passDays rmX0_passDays false [.ref lp, .int (nI (n))] (Ω (row q f)) (some (.int (s_days n f).2)) (Ω (row q (s_days n f).1)) := by
  refine mj_MC (cc := cX0_passDays) (nl := 4) (ret := (some .int)) (plainFor_of_name (by decide)) rfl (⟨_, rfl, rfl⟩) (Nat.le_of_ble_eq_true rfl) ?_
  show GG l cX0_passDays MX0_passDays false (.inl ((some (.int (s_days n f).2)), Ω (row q (s_days n f).1))) 0 [some (.ref lp), some (.int (nI (n))), none, none] [] (Ω (row q f)) 0 0
  refine G_iconst (v := 0) dX0_passDays_0 (by decide) ?_
  refine G_istore_n dX0_passDays_1 rfl (L' := [some (.ref lp), some (.int (nI (n))), some (.int 0), none]) rfl ?_
  refine G_iconst (v := 0) dX0_passDays_2 (by decide) ?_
  refine G_istore_n dX0_passDays_3 rfl (L' := [some (.ref lp), some (.int (nI (n))), some (.int 0), some (.int 0)]) rfl ?_
  exact lp_passDays hΩ n 0 D f 0 ho hv (by omega) (by omega) rfl
theorem c_ofHearth_0 (hΩ : LV lp ap Ω) {q f : mj_S} {h : Nat} (hh : h < 5) : MC l yX0_ofHearth wsX0_ofHearth rmX0_ofHearth false [.ref lp, .int (nI (h)), .int 0] (Ω (row q f)) (some (.int (s_ofH f h 0))) (Ω (row q f)) := by
  refine mj_MC (cc := cX0_ofHearth) (nl := 3) (ret := (some .int)) (plainFor_of_name (by decide)) rfl (⟨_, rfl, rfl⟩) (Nat.le_of_ble_eq_true rfl) ?_
  show GG l cX0_ofHearth MX0_ofHearth false (.inl ((some (.int (s_ofH f h 0))), Ω (row q f))) 0 [some (.ref lp), some (.int (nI (h))), some (.int 0)] [] (Ω (row q f)) 0 0
  refine G_iload_n dX0_ofHearth_0 rfl ?_
  refine G_tabIn (off := 59) 60 dX0_ofHearth_1 (by decide) (by decide) (by decide) (by decide) ?_
  refine G_aload_n dX0_ofHearth_60 rfl ?_
  refine G_iconst (v := 5) dX0_ofHearth_61 (by decide) ?_
  refine G_iload_n dX0_ofHearth_62 rfl ?_
  refine G_iaddN (a := 5) (c := h) (s := 5 + h) dX0_ofHearth_63 (by omega) ?_
  refine G_callVi dX0_ofHearth_64 kX0_ofHearth_X0_at ⟨rfl, rfl⟩ ⟨Nat.zero_le _, Nat.zero_le _⟩ (c_atL hΩ (j := 5 + h) (by omega)) rfl rfl ((hΩ _).1) rfl rfl ?_
  exact G_iret dX0_ofHearth_67 ⟨Nat.zero_le _, Nat.zero_le _⟩ (rfl)
theorem c_ofHearth_1 (hΩ : LV lp ap Ω) {q f : mj_S} {h : Nat} (hh : h < 5) : MC l yX0_ofHearth wsX0_ofHearth rmX0_ofHearth false [.ref lp, .int (nI (h)), .int 1] (Ω (row q f)) (some (.int (s_ofH f h 1))) (Ω (row q f)) := by
  refine mj_MC (cc := cX0_ofHearth) (nl := 3) (ret := (some .int)) (plainFor_of_name (by decide)) rfl (⟨_, rfl, rfl⟩) (Nat.le_of_ble_eq_true rfl) ?_
  show GG l cX0_ofHearth MX0_ofHearth false (.inl ((some (.int (s_ofH f h 1))), Ω (row q f))) 0 [some (.ref lp), some (.int (nI (h))), some (.int 1)] [] (Ω (row q f)) 0 0
  refine G_iload_n dX0_ofHearth_0 rfl ?_
  refine G_tabIn (off := 67) 68 dX0_ofHearth_1 (by decide) (by decide) (by decide) (by decide) ?_
  refine G_aload_n dX0_ofHearth_68 rfl ?_
  refine G_bipush (v := 10) dX0_ofHearth_69 (by decide) ?_
  refine G_iload_n dX0_ofHearth_71 rfl ?_
  refine G_iaddN (a := 10) (c := h) (s := 10 + h) dX0_ofHearth_72 (by omega) ?_
  refine G_callVi dX0_ofHearth_73 kX0_ofHearth_X0_at ⟨rfl, rfl⟩ ⟨Nat.zero_le _, Nat.zero_le _⟩ (c_atL hΩ (j := 10 + h) (by omega)) rfl rfl ((hΩ _).1) rfl rfl ?_
  exact G_iret dX0_ofHearth_76 ⟨Nat.zero_le _, Nat.zero_le _⟩ (rfl)
theorem c_ofHearth_2 (hΩ : LV lp ap Ω) {q f : mj_S} {h : Nat} (hh : h < 5) : MC l yX0_ofHearth wsX0_ofHearth rmX0_ofHearth false [.ref lp, .int (nI (h)), .int 2] (Ω (row q f)) (some (.int (s_ofH f h 2))) (Ω (row q f)) := by
  refine mj_MC (cc := cX0_ofHearth) (nl := 3) (ret := (some .int)) (plainFor_of_name (by decide)) rfl (⟨_, rfl, rfl⟩) (Nat.le_of_ble_eq_true rfl) ?_
  show GG l cX0_ofHearth MX0_ofHearth false (.inl ((some (.int (s_ofH f h 2))), Ω (row q f))) 0 [some (.ref lp), some (.int (nI (h))), some (.int 2)] [] (Ω (row q f)) 0 0
  refine G_iload_n dX0_ofHearth_0 rfl ?_
  refine G_tabIn (off := 76) 77 dX0_ofHearth_1 (by decide) (by decide) (by decide) (by decide) ?_
  refine G_aload_n dX0_ofHearth_77 rfl ?_
  refine G_bipush (v := 15) dX0_ofHearth_78 (by decide) ?_
  refine G_iload_n dX0_ofHearth_80 rfl ?_
  refine G_iaddN (a := 15) (c := h) (s := 15 + h) dX0_ofHearth_81 (by omega) ?_
  refine G_callVi dX0_ofHearth_82 kX0_ofHearth_X0_at ⟨rfl, rfl⟩ ⟨Nat.zero_le _, Nat.zero_le _⟩ (c_atL hΩ (j := 15 + h) (by omega)) rfl rfl ((hΩ _).1) rfl rfl ?_
  exact G_iret dX0_ofHearth_85 ⟨Nat.zero_le _, Nat.zero_le _⟩ (rfl)
theorem c_ofHearth_3 (hΩ : LV lp ap Ω) {q f : mj_S} {h : Nat} (hh : h < 5) : MC l yX0_ofHearth wsX0_ofHearth rmX0_ofHearth false [.ref lp, .int (nI (h)), .int 3] (Ω (row q f)) (some (.int (s_ofH f h 3))) (Ω (row q f)) := by
  refine mj_MC (cc := cX0_ofHearth) (nl := 3) (ret := (some .int)) (plainFor_of_name (by decide)) rfl (⟨_, rfl, rfl⟩) (Nat.le_of_ble_eq_true rfl) ?_
  show GG l cX0_ofHearth MX0_ofHearth false (.inl ((some (.int (s_ofH f h 3))), Ω (row q f))) 0 [some (.ref lp), some (.int (nI (h))), some (.int 3)] [] (Ω (row q f)) 0 0
  refine G_iload_n dX0_ofHearth_0 rfl ?_
  refine G_tabIn (off := 85) 86 dX0_ofHearth_1 (by decide) (by decide) (by decide) (by decide) ?_
  refine G_aload_n dX0_ofHearth_86 rfl ?_
  refine G_iload_n dX0_ofHearth_87 rfl ?_
  refine G_iconst (v := 0) dX0_ofHearth_88 (by decide) ?_
  refine G_callSi dX0_ofHearth_89 kX0_ofHearth_X0_plotOf ⟨rfl, rfl⟩ ⟨Nat.zero_le _, Nat.zero_le _⟩ (c_plotOfN (h := h) (b := 0) (s := 4 * h) (by omega)) rfl rfl rfl ?_
  refine G_iconst (v := 1) dX0_ofHearth_92 (by decide) ?_
  refine G_iconst (v := 4) dX0_ofHearth_93 (by decide) ?_
  refine G_callVi dX0_ofHearth_94 kX0_ofHearth_X0_turvesOn ⟨rfl, rfl⟩ ⟨Nat.zero_le _, Nat.zero_le _⟩ (c_tvH hΩ (h := h) (by omega)) rfl rfl ((hΩ _).1) rfl rfl ?_
  exact G_iret dX0_ofHearth_97 ⟨Nat.zero_le _, Nat.zero_le _⟩ (rfl)
theorem c_ofHearth_4 (hΩ : LV lp ap Ω) {q f : mj_S} {h : Nat} (hh : h < 5) : MC l yX0_ofHearth wsX0_ofHearth rmX0_ofHearth false [.ref lp, .int (nI (h)), .int 4] (Ω (row q f)) (some (.int (s_ofH f h 4))) (Ω (row q f)) := by
  refine mj_MC (cc := cX0_ofHearth) (nl := 3) (ret := (some .int)) (plainFor_of_name (by decide)) rfl (⟨_, rfl, rfl⟩) (Nat.le_of_ble_eq_true rfl) ?_
  show GG l cX0_ofHearth MX0_ofHearth false (.inl ((some (.int (s_ofH f h 4))), Ω (row q f))) 0 [some (.ref lp), some (.int (nI (h))), some (.int 4)] [] (Ω (row q f)) 0 0
  refine G_iload_n dX0_ofHearth_0 rfl ?_
  refine G_tabIn (off := 97) 98 dX0_ofHearth_1 (by decide) (by decide) (by decide) (by decide) ?_
  refine G_aload_n dX0_ofHearth_98 rfl ?_
  refine G_iload_n dX0_ofHearth_99 rfl ?_
  refine G_callVi dX0_ofHearth_100 kX0_ofHearth_X0_shortBy ⟨rfl, rfl⟩ ⟨Nat.zero_le _, Nat.zero_le _⟩ (c_shortBy hΩ (h := h) (by omega)) rfl rfl ((hΩ _).1) rfl rfl ?_
  exact G_iret dX0_ofHearth_103 ⟨Nat.zero_le _, Nat.zero_le _⟩ (rfl)
theorem c_ofHearth_5 (hΩ : LV lp ap Ω) {q f : mj_S} {h : Nat} (hh : h < 5) : MC l yX0_ofHearth wsX0_ofHearth rmX0_ofHearth false [.ref lp, .int (nI (h)), .int 5] (Ω (row q f)) (some (.int (s_ofH f h 5))) (Ω (row q f)) := by
  refine mj_MC (cc := cX0_ofHearth) (nl := 3) (ret := (some .int)) (plainFor_of_name (by decide)) rfl (⟨_, rfl, rfl⟩) (Nat.le_of_ble_eq_true rfl) ?_
  show GG l cX0_ofHearth MX0_ofHearth false (.inl ((some (.int (s_ofH f h 5))), Ω (row q f))) 0 [some (.ref lp), some (.int (nI (h))), some (.int 5)] [] (Ω (row q f)) 0 0
  refine G_iload_n dX0_ofHearth_0 rfl ?_
  refine G_tabIn (off := 103) 104 dX0_ofHearth_1 (by decide) (by decide) (by decide) (by decide) ?_
  refine G_aload_n dX0_ofHearth_104 rfl ?_
  refine G_iload_n dX0_ofHearth_105 rfl ?_
  refine G_callVi dX0_ofHearth_106 kX0_ofHearth_X0_willBeShortBy ⟨rfl, rfl⟩ ⟨Nat.zero_le _, Nat.zero_le _⟩ (c_willBeShortBy hΩ (h := h) (by omega)) rfl rfl ((hΩ _).1) rfl rfl ?_
  exact G_iret dX0_ofHearth_109 ⟨Nat.zero_le _, Nat.zero_le _⟩ (rfl)
theorem c_ofHearth_6 (hΩ : LV lp ap Ω) {q f : mj_S} {h : Nat} (hh : h < 5) : MC l yX0_ofHearth wsX0_ofHearth rmX0_ofHearth false [.ref lp, .int (nI (h)), .int 6] (Ω (row q f)) (some (.int (s_ofH f h 6))) (Ω (row q f)) := by
  refine mj_MC (cc := cX0_ofHearth) (nl := 3) (ret := (some .int)) (plainFor_of_name (by decide)) rfl (⟨_, rfl, rfl⟩) (Nat.le_of_ble_eq_true rfl) ?_
  show GG l cX0_ofHearth MX0_ofHearth false (.inl ((some (.int (s_ofH f h 6))), Ω (row q f))) 0 [some (.ref lp), some (.int (nI (h))), some (.int 6)] [] (Ω (row q f)) 0 0
  refine G_iload_n dX0_ofHearth_0 rfl ?_
  refine G_tabIn (off := 109) 110 dX0_ofHearth_1 (by decide) (by decide) (by decide) (by decide) ?_
  refine G_aload_n dX0_ofHearth_110 rfl ?_
  refine G_iload_n dX0_ofHearth_111 rfl ?_
  refine G_callVi dX0_ofHearth_112 kX0_ofHearth_X0_willBeShortByTheBook ⟨rfl, rfl⟩ ⟨Nat.zero_le _, Nat.zero_le _⟩ (c_willBeShortByTheBook hΩ (h := h) (by omega)) rfl rfl ((hΩ _).1) rfl rfl ?_
  exact G_iret dX0_ofHearth_115 ⟨Nat.zero_le _, Nat.zero_le _⟩ (rfl)
theorem c_ofHearth_7 (hΩ : LV lp ap Ω) {q f : mj_S} {h : Nat} (hh : h < 5) : MC l yX0_ofHearth wsX0_ofHearth rmX0_ofHearth false [.ref lp, .int (nI (h)), .int 7] (Ω (row q f)) (some (.int (s_ofH f h 7))) (Ω (row q f)) := by
  refine mj_MC (cc := cX0_ofHearth) (nl := 3) (ret := (some .int)) (plainFor_of_name (by decide)) rfl (⟨_, rfl, rfl⟩) (Nat.le_of_ble_eq_true rfl) ?_
  show GG l cX0_ofHearth MX0_ofHearth false (.inl ((some (.int (s_ofH f h 7))), Ω (row q f))) 0 [some (.ref lp), some (.int (nI (h))), some (.int 7)] [] (Ω (row q f)) 0 0
  refine G_iload_n dX0_ofHearth_0 rfl ?_
  refine G_tabIn (off := 115) 116 dX0_ofHearth_1 (by decide) (by decide) (by decide) (by decide) ?_
  refine G_aload_n dX0_ofHearth_116 rfl ?_
  refine G_bipush (v := 20) dX0_ofHearth_117 (by decide) ?_
  refine G_iload_n dX0_ofHearth_119 rfl ?_
  refine G_iaddN (a := 20) (c := h) (s := 20 + h) dX0_ofHearth_120 (by omega) ?_
  refine G_callVi dX0_ofHearth_121 kX0_ofHearth_X0_at ⟨rfl, rfl⟩ ⟨Nat.zero_le _, Nat.zero_le _⟩ (c_atL hΩ (j := 20 + h) (by omega)) rfl rfl ((hΩ _).1) rfl rfl ?_
  exact G_iret dX0_ofHearth_124 ⟨Nat.zero_le _, Nat.zero_le _⟩ (rfl)
theorem c_ofHearth_8 (hΩ : LV lp ap Ω) {q f : mj_S} {h : Nat} (hh : h < 5) : MC l yX0_ofHearth wsX0_ofHearth rmX0_ofHearth false [.ref lp, .int (nI (h)), .int 8] (Ω (row q f)) (some (.int (s_ofH f h 8))) (Ω (row q f)) := by
  refine mj_MC (cc := cX0_ofHearth) (nl := 3) (ret := (some .int)) (plainFor_of_name (by decide)) rfl (⟨_, rfl, rfl⟩) (Nat.le_of_ble_eq_true rfl) ?_
  show GG l cX0_ofHearth MX0_ofHearth false (.inl ((some (.int (s_ofH f h 8))), Ω (row q f))) 0 [some (.ref lp), some (.int (nI (h))), some (.int 8)] [] (Ω (row q f)) 0 0
  refine G_iload_n dX0_ofHearth_0 rfl ?_
  refine G_tabIn (off := 124) 125 dX0_ofHearth_1 (by decide) (by decide) (by decide) (by decide) ?_
  refine G_aload_n dX0_ofHearth_125 rfl ?_
  refine G_bipush (v := 25) dX0_ofHearth_126 (by decide) ?_
  refine G_iload_n dX0_ofHearth_128 rfl ?_
  refine G_iaddN (a := 25) (c := h) (s := 25 + h) dX0_ofHearth_129 (by omega) ?_
  refine G_callVi dX0_ofHearth_130 kX0_ofHearth_X0_at ⟨rfl, rfl⟩ ⟨Nat.zero_le _, Nat.zero_le _⟩ (c_atL hΩ (j := 25 + h) (by omega)) rfl rfl ((hΩ _).1) rfl rfl ?_
  exact G_iret dX0_ofHearth_133 ⟨Nat.zero_le _, Nat.zero_le _⟩ (rfl)
theorem c_ofHearth_9 (hΩ : LV lp ap Ω) {q f : mj_S} {h : Nat} (hh : h < 5) : MC l yX0_ofHearth wsX0_ofHearth rmX0_ofHearth false [.ref lp, .int (nI (h)), .int 9] (Ω (row q f)) (some (.int (s_ofH f h 9))) (Ω (row q f)) := by
  refine mj_MC (cc := cX0_ofHearth) (nl := 3) (ret := (some .int)) (plainFor_of_name (by decide)) rfl (⟨_, rfl, rfl⟩) (Nat.le_of_ble_eq_true rfl) ?_
  show GG l cX0_ofHearth MX0_ofHearth false (.inl ((some (.int (s_ofH f h 9))), Ω (row q f))) 0 [some (.ref lp), some (.int (nI (h))), some (.int 9)] [] (Ω (row q f)) 0 0
  refine G_iload_n dX0_ofHearth_0 rfl ?_
  refine G_tabIn (off := 133) 134 dX0_ofHearth_1 (by decide) (by decide) (by decide) (by decide) ?_
  refine G_aload_n dX0_ofHearth_134 rfl ?_
  refine G_bipush (v := 30) dX0_ofHearth_135 (by decide) ?_
  refine G_iload_n dX0_ofHearth_137 rfl ?_
  refine G_iaddN (a := 30) (c := h) (s := 30 + h) dX0_ofHearth_138 (by omega) ?_
  refine G_callVi dX0_ofHearth_139 kX0_ofHearth_X0_at ⟨rfl, rfl⟩ ⟨Nat.zero_le _, Nat.zero_le _⟩ (c_atL hΩ (j := 30 + h) (by omega)) rfl rfl ((hΩ _).1) rfl rfl ?_
  exact G_iret dX0_ofHearth_142 ⟨Nat.zero_le _, Nat.zero_le _⟩ (rfl)
theorem c_ofHearth_10 (hΩ : LV lp ap Ω) {q f : mj_S} {h : Nat} (hh : h < 5) : MC l yX0_ofHearth wsX0_ofHearth rmX0_ofHearth false [.ref lp, .int (nI (h)), .int 10] (Ω (row q f)) (some (.int (s_ofH f h 10))) (Ω (row q f)) := by
  refine mj_MC (cc := cX0_ofHearth) (nl := 3) (ret := (some .int)) (plainFor_of_name (by decide)) rfl (⟨_, rfl, rfl⟩) (Nat.le_of_ble_eq_true rfl) ?_
  show GG l cX0_ofHearth MX0_ofHearth false (.inl ((some (.int (s_ofH f h 10))), Ω (row q f))) 0 [some (.ref lp), some (.int (nI (h))), some (.int 10)] [] (Ω (row q f)) 0 0
  refine G_iload_n dX0_ofHearth_0 rfl ?_
  refine G_tabIn (off := 142) 143 dX0_ofHearth_1 (by decide) (by decide) (by decide) (by decide) ?_
  refine G_aload_n dX0_ofHearth_143 rfl ?_
  refine G_bipush (v := 35) dX0_ofHearth_144 (by decide) ?_
  refine G_iload_n dX0_ofHearth_146 rfl ?_
  refine G_iaddN (a := 35) (c := h) (s := 35 + h) dX0_ofHearth_147 (by omega) ?_
  refine G_callVi dX0_ofHearth_148 kX0_ofHearth_X0_at ⟨rfl, rfl⟩ ⟨Nat.zero_le _, Nat.zero_le _⟩ (c_atL hΩ (j := 35 + h) (by omega)) rfl rfl ((hΩ _).1) rfl rfl ?_
  exact G_iret dX0_ofHearth_151 ⟨Nat.zero_le _, Nat.zero_le _⟩ (rfl)
theorem c_ofHearth_11 (hΩ : LV lp ap Ω) {q f : mj_S} {h : Nat} (hh : h < 5) : MC l yX0_ofHearth wsX0_ofHearth rmX0_ofHearth false [.ref lp, .int (nI (h)), .int 11] (Ω (row q f)) (some (.int (s_ofH f h 11))) (Ω (row q f)) := by
  refine mj_MC (cc := cX0_ofHearth) (nl := 3) (ret := (some .int)) (plainFor_of_name (by decide)) rfl (⟨_, rfl, rfl⟩) (Nat.le_of_ble_eq_true rfl) ?_
  show GG l cX0_ofHearth MX0_ofHearth false (.inl ((some (.int (s_ofH f h 11))), Ω (row q f))) 0 [some (.ref lp), some (.int (nI (h))), some (.int 11)] [] (Ω (row q f)) 0 0
  refine G_iload_n dX0_ofHearth_0 rfl ?_
  refine G_tabOut 152 dX0_ofHearth_1 (by decide) (by decide) ?_
  refine G_aload_n dX0_ofHearth_152 rfl ?_
  refine G_bipush (v := 40) dX0_ofHearth_153 (by decide) ?_
  refine G_iload_n dX0_ofHearth_155 rfl ?_
  refine G_iaddN (a := 40) (c := h) (s := 40 + h) dX0_ofHearth_156 (by omega) ?_
  refine G_callVi dX0_ofHearth_157 kX0_ofHearth_X0_at ⟨rfl, rfl⟩ ⟨Nat.zero_le _, Nat.zero_le _⟩ (c_atL hΩ (j := 40 + h) (by omega)) rfl rfl ((hΩ _).1) rfl rfl ?_
  exact G_iret dX0_ofHearth_160 ⟨Nat.zero_le _, Nat.zero_le _⟩ (rfl)
theorem c_ofHearth (hΩ : LV lp ap Ω) {q f : mj_S} {h : Nat} (hh : h < 5) {w : Nat} (hw : w < 12) : MC l yX0_ofHearth wsX0_ofHearth rmX0_ofHearth false [.ref lp, .int (nI (h)), .int (nI (w))] (Ω (row q f)) (some (.int (s_ofH f h w))) (Ω (row q f)) := by
  rcases (show w = 0 ∨ w = 1 ∨ w = 2 ∨ w = 3 ∨ w = 4 ∨ w = 5 ∨ w = 6 ∨ w = 7 ∨ w = 8 ∨ w = 9 ∨ w = 10 ∨ w = 11 by omega) with rfl | rfl | rfl | rfl | rfl | rfl | rfl | rfl | rfl | rfl | rfl | rfl
  · exact c_ofHearth_0 hΩ hh
  · exact c_ofHearth_1 hΩ hh
  · exact c_ofHearth_2 hΩ hh
  · exact c_ofHearth_3 hΩ hh
  · exact c_ofHearth_4 hΩ hh
  · exact c_ofHearth_5 hΩ hh
  · exact c_ofHearth_6 hΩ hh
  · exact c_ofHearth_7 hΩ hh
  · exact c_ofHearth_8 hΩ hh
  · exact c_ofHearth_9 hΩ hh
  · exact c_ofHearth_10 hΩ hh
  · exact c_ofHearth_11 hΩ hh
theorem c_ofBank_0 (hΩ : LV lp ap Ω) {q f : mj_S} {b : Nat} (hb : b < 4) : MC l yX0_ofBank wsX0_ofBank rmX0_ofBank false [.ref lp, .int (nI (b)), .int 0] (Ω (row q f)) (some (.int (s_ofB q f b 0))) (Ω (row q f)) := by
  refine mj_MC (cc := cX0_ofBank) (nl := 3) (ret := (some .int)) (plainFor_of_name (by decide)) rfl (⟨_, rfl, rfl⟩) (Nat.le_of_ble_eq_true rfl) ?_
  show GG l cX0_ofBank MX0_ofBank false (.inl ((some (.int (s_ofB q f b 0))), Ω (row q f))) 0 [some (.ref lp), some (.int (nI (b))), some (.int 0)] [] (Ω (row q f)) 0 0
  refine G_iload_n dX0_ofBank_0 rfl ?_
  refine G_tabIn (off := 31) 32 dX0_ofBank_1 (by decide) (by decide) (by decide) (by decide) ?_
  refine G_aload_n dX0_ofBank_32 rfl ?_
  refine G_bipush (v := 45) dX0_ofBank_33 (by decide) ?_
  refine G_iload_n dX0_ofBank_35 rfl ?_
  refine G_iaddN (a := 45) (c := b) (s := 45 + b) dX0_ofBank_36 (by omega) ?_
  refine G_callVi dX0_ofBank_37 kX0_ofBank_X0_at ⟨rfl, rfl⟩ ⟨Nat.zero_le _, Nat.zero_le _⟩ (c_atL hΩ (j := 45 + b) (by omega)) rfl rfl ((hΩ _).1) rfl rfl ?_
  exact G_iret dX0_ofBank_40 ⟨Nat.zero_le _, Nat.zero_le _⟩ (rfl)
theorem c_ofBank_1 (hΩ : LV lp ap Ω) {q f : mj_S} {b : Nat} (hb : b < 4) : MC l yX0_ofBank wsX0_ofBank rmX0_ofBank false [.ref lp, .int (nI (b)), .int 1] (Ω (row q f)) (some (.int (s_ofB q f b 1))) (Ω (row q f)) := by
  refine mj_MC (cc := cX0_ofBank) (nl := 3) (ret := (some .int)) (plainFor_of_name (by decide)) rfl (⟨_, rfl, rfl⟩) (Nat.le_of_ble_eq_true rfl) ?_
  show GG l cX0_ofBank MX0_ofBank false (.inl ((some (.int (s_ofB q f b 1))), Ω (row q f))) 0 [some (.ref lp), some (.int (nI (b))), some (.int 1)] [] (Ω (row q f)) 0 0
  refine G_iload_n dX0_ofBank_0 rfl ?_
  refine G_tabIn (off := 40) 41 dX0_ofBank_1 (by decide) (by decide) (by decide) (by decide) ?_
  refine G_aload_n dX0_ofBank_41 rfl ?_
  refine G_bipush (v := 49) dX0_ofBank_42 (by decide) ?_
  refine G_iload_n dX0_ofBank_44 rfl ?_
  refine G_iaddN (a := 49) (c := b) (s := 49 + b) dX0_ofBank_45 (by omega) ?_
  refine G_callVi dX0_ofBank_46 kX0_ofBank_X0_at ⟨rfl, rfl⟩ ⟨Nat.zero_le _, Nat.zero_le _⟩ (c_atL hΩ (j := 49 + b) (by omega)) rfl rfl ((hΩ _).1) rfl rfl ?_
  exact G_iret dX0_ofBank_49 ⟨Nat.zero_le _, Nat.zero_le _⟩ (rfl)
theorem c_ofBank_2 (hΩ : LV lp ap Ω) {q f : mj_S} {b : Nat} (hb : b < 4) : MC l yX0_ofBank wsX0_ofBank rmX0_ofBank false [.ref lp, .int (nI (b)), .int 2] (Ω (row q f)) (some (.int (s_ofB q f b 2))) (Ω (row q f)) := by
  refine mj_MC (cc := cX0_ofBank) (nl := 3) (ret := (some .int)) (plainFor_of_name (by decide)) rfl (⟨_, rfl, rfl⟩) (Nat.le_of_ble_eq_true rfl) ?_
  show GG l cX0_ofBank MX0_ofBank false (.inl ((some (.int (s_ofB q f b 2))), Ω (row q f))) 0 [some (.ref lp), some (.int (nI (b))), some (.int 2)] [] (Ω (row q f)) 0 0
  refine G_iload_n dX0_ofBank_0 rfl ?_
  refine G_tabIn (off := 49) 50 dX0_ofBank_1 (by decide) (by decide) (by decide) (by decide) ?_
  refine G_aload_n dX0_ofBank_50 rfl ?_
  refine G_bipush (v := 53) dX0_ofBank_51 (by decide) ?_
  refine G_iload_n dX0_ofBank_53 rfl ?_
  refine G_iaddN (a := 53) (c := b) (s := 53 + b) dX0_ofBank_54 (by omega) ?_
  refine G_callVi dX0_ofBank_55 kX0_ofBank_X0_at ⟨rfl, rfl⟩ ⟨Nat.zero_le _, Nat.zero_le _⟩ (c_atQ hΩ (j := 53 + b) (i := b) (by omega) (by omega)) rfl rfl ((hΩ _).1) rfl rfl ?_
  exact G_iret dX0_ofBank_58 ⟨Nat.zero_le _, Nat.zero_le _⟩ (rfl)
theorem c_ofBank_3 (hΩ : LV lp ap Ω) {q f : mj_S} {b : Nat} (hb : b < 4) : MC l yX0_ofBank wsX0_ofBank rmX0_ofBank false [.ref lp, .int (nI (b)), .int 3] (Ω (row q f)) (some (.int (s_ofB q f b 3))) (Ω (row q f)) := by
  refine mj_MC (cc := cX0_ofBank) (nl := 3) (ret := (some .int)) (plainFor_of_name (by decide)) rfl (⟨_, rfl, rfl⟩) (Nat.le_of_ble_eq_true rfl) ?_
  show GG l cX0_ofBank MX0_ofBank false (.inl ((some (.int (s_ofB q f b 3))), Ω (row q f))) 0 [some (.ref lp), some (.int (nI (b))), some (.int 3)] [] (Ω (row q f)) 0 0
  refine G_iload_n dX0_ofBank_0 rfl ?_
  refine G_tabIn (off := 58) 59 dX0_ofBank_1 (by decide) (by decide) (by decide) (by decide) ?_
  refine G_aload_n dX0_ofBank_59 rfl ?_
  refine G_iload_n dX0_ofBank_60 rfl ?_
  refine G_callVi dX0_ofBank_61 kX0_ofBank_X0_cuttersOnBank ⟨rfl, rfl⟩ ⟨Nat.zero_le _, Nat.zero_le _⟩ (c_cuttersOnBank hΩ) rfl rfl ((hΩ _).1) rfl rfl ?_
  exact G_iret dX0_ofBank_64 ⟨Nat.zero_le _, Nat.zero_le _⟩ (rfl)
theorem c_ofBank_4 (hΩ : LV lp ap Ω) {q f : mj_S} {b : Nat} (hb : b < 4) : MC l yX0_ofBank wsX0_ofBank rmX0_ofBank false [.ref lp, .int (nI (b)), .int 4] (Ω (row q f)) (some (.int (s_ofB q f b 4))) (Ω (row q f)) := by
  refine mj_MC (cc := cX0_ofBank) (nl := 3) (ret := (some .int)) (plainFor_of_name (by decide)) rfl (⟨_, rfl, rfl⟩) (Nat.le_of_ble_eq_true rfl) ?_
  show GG l cX0_ofBank MX0_ofBank false (.inl ((some (.int (s_ofB q f b 4))), Ω (row q f))) 0 [some (.ref lp), some (.int (nI (b))), some (.int 4)] [] (Ω (row q f)) 0 0
  refine G_iload_n dX0_ofBank_0 rfl ?_
  refine G_tabOut 65 dX0_ofBank_1 (by decide) (by decide) ?_
  refine G_aload_n dX0_ofBank_65 rfl ?_
  refine G_iconst (v := 0) dX0_ofBank_66 (by decide) ?_
  refine G_iload_n dX0_ofBank_67 rfl ?_
  refine G_callSi dX0_ofBank_68 kX0_ofBank_X0_plotOf ⟨rfl, rfl⟩ ⟨Nat.zero_le _, Nat.zero_le _⟩ (c_plotOfN (h := 0) (b := b) (s := b) (by omega)) rfl rfl rfl ?_
  refine G_iconst (v := 4) dX0_ofBank_71 (by decide) ?_
  refine G_iconst (v := 5) dX0_ofBank_72 (by decide) ?_
  refine G_callVi dX0_ofBank_73 kX0_ofBank_X0_turvesOn ⟨rfl, rfl⟩ ⟨Nat.zero_le _, Nat.zero_le _⟩ (c_tvB hΩ (b := b) (by omega)) rfl rfl ((hΩ _).1) rfl rfl ?_
  exact G_iret dX0_ofBank_76 ⟨Nat.zero_le _, Nat.zero_le _⟩ (rfl)
theorem c_ofBank (hΩ : LV lp ap Ω) {q f : mj_S} {b : Nat} (hb : b < 4) {w : Nat} (hw : w < 5) : MC l yX0_ofBank wsX0_ofBank rmX0_ofBank false [.ref lp, .int (nI (b)), .int (nI (w))] (Ω (row q f)) (some (.int (s_ofB q f b w))) (Ω (row q f)) := by
  rcases (show w = 0 ∨ w = 1 ∨ w = 2 ∨ w = 3 ∨ w = 4 by omega) with rfl | rfl | rfl | rfl | rfl
  · exact c_ofBank_0 hΩ hb
  · exact c_ofBank_1 hΩ hb
  · exact c_ofBank_2 hΩ hb
  · exact c_ofBank_3 hΩ hb
  · exact c_ofBank_4 hΩ hb
theorem c_ofPlot_0 (hΩ : LV lp ap Ω) {q f : mj_S} {h b : Nat} (hh : h < 5) (hb : b < 4) : MC l yX0_ofPlot wsX0_ofPlot rmX0_ofPlot false [.ref lp, .int (nI (h)), .int (nI (b)), .int 0] (Ω (row q f)) (some (.int (s_ofP f h b 0))) (Ω (row q f)) := by
  refine mj_MC (cc := cX0_ofPlot) (nl := 5) (ret := (some .int)) (plainFor_of_name (by decide)) rfl (⟨_, rfl, rfl⟩) (Nat.le_of_ble_eq_true rfl) ?_
  show GG l cX0_ofPlot MX0_ofPlot false (.inl ((some (.int (s_ofP f h b 0))), Ω (row q f))) 0 [some (.ref lp), some (.int (nI (h))), some (.int (nI (b))), some (.int 0), none] [] (Ω (row q f)) 0 0
  refine G_iload_n dX0_ofPlot_0 rfl ?_
  refine G_iload_n dX0_ofPlot_1 rfl ?_
  refine G_callSi dX0_ofPlot_2 kX0_ofPlot_X0_plotOf ⟨rfl, rfl⟩ ⟨Nat.zero_le _, Nat.zero_le _⟩ (c_plotOfN (h := h) (b := b) (s := b + 4 * h) (by omega)) rfl rfl rfl ?_
  refine G_istore dX0_ofPlot_5 rfl (L' := [some (.ref lp), some (.int (nI (h))), some (.int (nI (b))), some (.int 0), some (.int (nI (b + 4 * h)))]) rfl ?_
  refine G_iload_n dX0_ofPlot_7 rfl ?_
  refine G_tabIn (off := 32) 40 dX0_ofPlot_8 (by decide) (by decide) (by decide) (by decide) ?_
  refine G_aload_n dX0_ofPlot_40 rfl ?_
  refine G_bipush (v := 57) dX0_ofPlot_41 (by decide) ?_
  refine G_iload dX0_ofPlot_43 rfl ?_
  refine G_iaddN (a := 57) (c := b + 4 * h) (s := 57 + b + 4 * h) dX0_ofPlot_45 (by omega) ?_
  refine G_callVi dX0_ofPlot_46 kX0_ofPlot_X0_at ⟨rfl, rfl⟩ ⟨Nat.zero_le _, Nat.zero_le _⟩ (c_atH hΩ (j := 57 + b + 4 * h) (j' := 53 + b + 4 * h) (by omega) (by omega)) rfl rfl ((hΩ _).1) rfl rfl ?_
  exact G_iret dX0_ofPlot_49 ⟨Nat.zero_le _, Nat.zero_le _⟩ (rfl)
theorem c_ofPlot_1 (hΩ : LV lp ap Ω) {q f : mj_S} {h b : Nat} (hh : h < 5) (hb : b < 4) : MC l yX0_ofPlot wsX0_ofPlot rmX0_ofPlot false [.ref lp, .int (nI (h)), .int (nI (b)), .int 1] (Ω (row q f)) (some (.int (s_ofP f h b 1))) (Ω (row q f)) := by
  refine mj_MC (cc := cX0_ofPlot) (nl := 5) (ret := (some .int)) (plainFor_of_name (by decide)) rfl (⟨_, rfl, rfl⟩) (Nat.le_of_ble_eq_true rfl) ?_
  show GG l cX0_ofPlot MX0_ofPlot false (.inl ((some (.int (s_ofP f h b 1))), Ω (row q f))) 0 [some (.ref lp), some (.int (nI (h))), some (.int (nI (b))), some (.int 1), none] [] (Ω (row q f)) 0 0
  refine G_iload_n dX0_ofPlot_0 rfl ?_
  refine G_iload_n dX0_ofPlot_1 rfl ?_
  refine G_callSi dX0_ofPlot_2 kX0_ofPlot_X0_plotOf ⟨rfl, rfl⟩ ⟨Nat.zero_le _, Nat.zero_le _⟩ (c_plotOfN (h := h) (b := b) (s := b + 4 * h) (by omega)) rfl rfl rfl ?_
  refine G_istore dX0_ofPlot_5 rfl (L' := [some (.ref lp), some (.int (nI (h))), some (.int (nI (b))), some (.int 1), some (.int (nI (b + 4 * h)))]) rfl ?_
  refine G_iload_n dX0_ofPlot_7 rfl ?_
  refine G_tabIn (off := 42) 50 dX0_ofPlot_8 (by decide) (by decide) (by decide) (by decide) ?_
  refine G_aload_n dX0_ofPlot_50 rfl ?_
  refine G_bipush (v := 77) dX0_ofPlot_51 (by decide) ?_
  refine G_iload dX0_ofPlot_53 rfl ?_
  refine G_iaddN (a := 77) (c := b + 4 * h) (s := 77 + b + 4 * h) dX0_ofPlot_55 (by omega) ?_
  refine G_callVi dX0_ofPlot_56 kX0_ofPlot_X0_at ⟨rfl, rfl⟩ ⟨Nat.zero_le _, Nat.zero_le _⟩ (c_atH hΩ (j := 77 + b + 4 * h) (j' := 73 + b + 4 * h) (by omega) (by omega)) rfl rfl ((hΩ _).1) rfl rfl ?_
  exact G_iret dX0_ofPlot_59 ⟨Nat.zero_le _, Nat.zero_le _⟩ (rfl)
theorem c_ofPlot_2 (hΩ : LV lp ap Ω) {q f : mj_S} {h b : Nat} (hh : h < 5) (hb : b < 4) : MC l yX0_ofPlot wsX0_ofPlot rmX0_ofPlot false [.ref lp, .int (nI (h)), .int (nI (b)), .int 2] (Ω (row q f)) (some (.int (s_ofP f h b 2))) (Ω (row q f)) := by
  refine mj_MC (cc := cX0_ofPlot) (nl := 5) (ret := (some .int)) (plainFor_of_name (by decide)) rfl (⟨_, rfl, rfl⟩) (Nat.le_of_ble_eq_true rfl) ?_
  show GG l cX0_ofPlot MX0_ofPlot false (.inl ((some (.int (s_ofP f h b 2))), Ω (row q f))) 0 [some (.ref lp), some (.int (nI (h))), some (.int (nI (b))), some (.int 2), none] [] (Ω (row q f)) 0 0
  refine G_iload_n dX0_ofPlot_0 rfl ?_
  refine G_iload_n dX0_ofPlot_1 rfl ?_
  refine G_callSi dX0_ofPlot_2 kX0_ofPlot_X0_plotOf ⟨rfl, rfl⟩ ⟨Nat.zero_le _, Nat.zero_le _⟩ (c_plotOfN (h := h) (b := b) (s := b + 4 * h) (by omega)) rfl rfl rfl ?_
  refine G_istore dX0_ofPlot_5 rfl (L' := [some (.ref lp), some (.int (nI (h))), some (.int (nI (b))), some (.int 2), some (.int (nI (b + 4 * h)))]) rfl ?_
  refine G_iload_n dX0_ofPlot_7 rfl ?_
  refine G_tabIn (off := 52) 60 dX0_ofPlot_8 (by decide) (by decide) (by decide) (by decide) ?_
  refine G_aload_n dX0_ofPlot_60 rfl ?_
  refine G_bipush (v := 97) dX0_ofPlot_61 (by decide) ?_
  refine G_iload dX0_ofPlot_63 rfl ?_
  refine G_iaddN (a := 97) (c := b + 4 * h) (s := 97 + b + 4 * h) dX0_ofPlot_65 (by omega) ?_
  refine G_callVi dX0_ofPlot_66 kX0_ofPlot_X0_at ⟨rfl, rfl⟩ ⟨Nat.zero_le _, Nat.zero_le _⟩ (c_atH hΩ (j := 97 + b + 4 * h) (j' := 93 + b + 4 * h) (by omega) (by omega)) rfl rfl ((hΩ _).1) rfl rfl ?_
  exact G_iret dX0_ofPlot_69 ⟨Nat.zero_le _, Nat.zero_le _⟩ (rfl)
theorem c_ofPlot_3 (hΩ : LV lp ap Ω) {q f : mj_S} {h b : Nat} (hh : h < 5) (hb : b < 4) : MC l yX0_ofPlot wsX0_ofPlot rmX0_ofPlot false [.ref lp, .int (nI (h)), .int (nI (b)), .int 3] (Ω (row q f)) (some (.int (s_ofP f h b 3))) (Ω (row q f)) := by
  refine mj_MC (cc := cX0_ofPlot) (nl := 5) (ret := (some .int)) (plainFor_of_name (by decide)) rfl (⟨_, rfl, rfl⟩) (Nat.le_of_ble_eq_true rfl) ?_
  show GG l cX0_ofPlot MX0_ofPlot false (.inl ((some (.int (s_ofP f h b 3))), Ω (row q f))) 0 [some (.ref lp), some (.int (nI (h))), some (.int (nI (b))), some (.int 3), none] [] (Ω (row q f)) 0 0
  refine G_iload_n dX0_ofPlot_0 rfl ?_
  refine G_iload_n dX0_ofPlot_1 rfl ?_
  refine G_callSi dX0_ofPlot_2 kX0_ofPlot_X0_plotOf ⟨rfl, rfl⟩ ⟨Nat.zero_le _, Nat.zero_le _⟩ (c_plotOfN (h := h) (b := b) (s := b + 4 * h) (by omega)) rfl rfl rfl ?_
  refine G_istore dX0_ofPlot_5 rfl (L' := [some (.ref lp), some (.int (nI (h))), some (.int (nI (b))), some (.int 3), some (.int (nI (b + 4 * h)))]) rfl ?_
  refine G_iload_n dX0_ofPlot_7 rfl ?_
  refine G_tabIn (off := 62) 70 dX0_ofPlot_8 (by decide) (by decide) (by decide) (by decide) ?_
  refine G_aload_n dX0_ofPlot_70 rfl ?_
  refine G_bipush (v := 117) dX0_ofPlot_71 (by decide) ?_
  refine G_iload dX0_ofPlot_73 rfl ?_
  refine G_iaddN (a := 117) (c := b + 4 * h) (s := 117 + b + 4 * h) dX0_ofPlot_75 (by omega) ?_
  refine G_callVi dX0_ofPlot_76 kX0_ofPlot_X0_at ⟨rfl, rfl⟩ ⟨Nat.zero_le _, Nat.zero_le _⟩ (c_atH hΩ (j := 117 + b + 4 * h) (j' := 113 + b + 4 * h) (by omega) (by omega)) rfl rfl ((hΩ _).1) rfl rfl ?_
  exact G_iret dX0_ofPlot_79 ⟨Nat.zero_le _, Nat.zero_le _⟩ (rfl)
theorem c_ofPlot_4 (hΩ : LV lp ap Ω) {q f : mj_S} {h b : Nat} (hh : h < 5) (hb : b < 4) : MC l yX0_ofPlot wsX0_ofPlot rmX0_ofPlot false [.ref lp, .int (nI (h)), .int (nI (b)), .int 4] (Ω (row q f)) (some (.int (s_ofP f h b 4))) (Ω (row q f)) := by
  refine mj_MC (cc := cX0_ofPlot) (nl := 5) (ret := (some .int)) (plainFor_of_name (by decide)) rfl (⟨_, rfl, rfl⟩) (Nat.le_of_ble_eq_true rfl) ?_
  show GG l cX0_ofPlot MX0_ofPlot false (.inl ((some (.int (s_ofP f h b 4))), Ω (row q f))) 0 [some (.ref lp), some (.int (nI (h))), some (.int (nI (b))), some (.int 4), none] [] (Ω (row q f)) 0 0
  refine G_iload_n dX0_ofPlot_0 rfl ?_
  refine G_iload_n dX0_ofPlot_1 rfl ?_
  refine G_callSi dX0_ofPlot_2 kX0_ofPlot_X0_plotOf ⟨rfl, rfl⟩ ⟨Nat.zero_le _, Nat.zero_le _⟩ (c_plotOfN (h := h) (b := b) (s := b + 4 * h) (by omega)) rfl rfl rfl ?_
  refine G_istore dX0_ofPlot_5 rfl (L' := [some (.ref lp), some (.int (nI (h))), some (.int (nI (b))), some (.int 4), some (.int (nI (b + 4 * h)))]) rfl ?_
  refine G_iload_n dX0_ofPlot_7 rfl ?_
  refine G_tabOut 80 dX0_ofPlot_8 (by decide) (by decide) ?_
  refine G_aload_n dX0_ofPlot_80 rfl ?_
  refine G_iload_n dX0_ofPlot_81 rfl ?_
  refine G_iload_n dX0_ofPlot_82 rfl ?_
  refine G_callVi dX0_ofPlot_83 kX0_ofPlot_X0_cuttersAt ⟨rfl, rfl⟩ ⟨Nat.zero_le _, Nat.zero_le _⟩ (c_cuttersAt hΩ) rfl rfl ((hΩ _).1) rfl rfl ?_
  exact G_iret dX0_ofPlot_86 ⟨Nat.zero_le _, Nat.zero_le _⟩ (rfl)
theorem c_ofPlot (hΩ : LV lp ap Ω) {q f : mj_S} {h b : Nat} (hh : h < 5) (hb : b < 4) {w : Nat} (hw : w < 5) : MC l yX0_ofPlot wsX0_ofPlot rmX0_ofPlot false [.ref lp, .int (nI (h)), .int (nI (b)), .int (nI (w))] (Ω (row q f)) (some (.int (s_ofP f h b w))) (Ω (row q f)) := by
  rcases (show w = 0 ∨ w = 1 ∨ w = 2 ∨ w = 3 ∨ w = 4 by omega) with rfl | rfl | rfl | rfl | rfl
  · exact c_ofPlot_0 hΩ hh hb
  · exact c_ofPlot_1 hΩ hh hb
  · exact c_ofPlot_2 hΩ hh hb
  · exact c_ofPlot_3 hΩ hh hb
  · exact c_ofPlot_4 hΩ hh hb
theorem c_ofCutter_0 (hΩ : LV lp ap Ω) {q f : mj_S} {c : Nat} (hc : c < 6) : MC l yX0_ofCutter wsX0_ofCutter rmX0_ofCutter false [.ref lp, .int (nI (c)), .int 0] (Ω (row q f)) (some (.int (f (133 + c)))) (Ω (row q f)) := by
  refine mj_MC (cc := cX0_ofCutter) (nl := 3) (ret := (some .int)) (plainFor_of_name (by decide)) rfl (⟨_, rfl, rfl⟩) (Nat.le_of_ble_eq_true rfl) ?_
  show GG l cX0_ofCutter MX0_ofCutter false (.inl ((some (.int (f (133 + c)))), Ω (row q f))) 0 [some (.ref lp), some (.int (nI (c))), some (.int 0)] [] (Ω (row q f)) 0 0
  refine G_iload_n dX0_ofCutter_0 rfl ?_
  refine G_tabIn (off := 27) 28 dX0_ofCutter_1 (by decide) (by decide) (by decide) (by decide) ?_
  refine G_aload_n dX0_ofCutter_28 rfl ?_
  refine G_sipush (v := 137) dX0_ofCutter_29 (by decide) ?_
  refine G_iload_n dX0_ofCutter_32 rfl ?_
  refine G_iaddN (a := 137) (c := c) (s := 137 + c) dX0_ofCutter_33 (by omega) ?_
  refine G_callVi dX0_ofCutter_34 kX0_ofCutter_X0_at ⟨rfl, rfl⟩ ⟨Nat.zero_le _, Nat.zero_le _⟩ (c_atH hΩ (j := 137 + c) (j' := 133 + c) (by omega) (by omega)) rfl rfl ((hΩ _).1) rfl rfl ?_
  exact G_iret dX0_ofCutter_37 ⟨Nat.zero_le _, Nat.zero_le _⟩ (rfl)
theorem c_ofCutter_1 (hΩ : LV lp ap Ω) {q f : mj_S} {c : Nat} (hc : c < 6) : MC l yX0_ofCutter wsX0_ofCutter rmX0_ofCutter false [.ref lp, .int (nI (c)), .int 1] (Ω (row q f)) (some (.int (f (139 + c)))) (Ω (row q f)) := by
  refine mj_MC (cc := cX0_ofCutter) (nl := 3) (ret := (some .int)) (plainFor_of_name (by decide)) rfl (⟨_, rfl, rfl⟩) (Nat.le_of_ble_eq_true rfl) ?_
  show GG l cX0_ofCutter MX0_ofCutter false (.inl ((some (.int (f (139 + c)))), Ω (row q f))) 0 [some (.ref lp), some (.int (nI (c))), some (.int 1)] [] (Ω (row q f)) 0 0
  refine G_iload_n dX0_ofCutter_0 rfl ?_
  refine G_tabIn (off := 37) 38 dX0_ofCutter_1 (by decide) (by decide) (by decide) (by decide) ?_
  refine G_aload_n dX0_ofCutter_38 rfl ?_
  refine G_sipush (v := 143) dX0_ofCutter_39 (by decide) ?_
  refine G_iload_n dX0_ofCutter_42 rfl ?_
  refine G_iaddN (a := 143) (c := c) (s := 143 + c) dX0_ofCutter_43 (by omega) ?_
  refine G_callVi dX0_ofCutter_44 kX0_ofCutter_X0_at ⟨rfl, rfl⟩ ⟨Nat.zero_le _, Nat.zero_le _⟩ (c_atH hΩ (j := 143 + c) (j' := 139 + c) (by omega) (by omega)) rfl rfl ((hΩ _).1) rfl rfl ?_
  exact G_iret dX0_ofCutter_47 ⟨Nat.zero_le _, Nat.zero_le _⟩ (rfl)
theorem c_ofCutter_2 (hΩ : LV lp ap Ω) {q f : mj_S} {c : Nat} (hc : c < 6) : MC l yX0_ofCutter wsX0_ofCutter rmX0_ofCutter false [.ref lp, .int (nI (c)), .int 2] (Ω (row q f)) (some (.int (f (145 + c)))) (Ω (row q f)) := by
  refine mj_MC (cc := cX0_ofCutter) (nl := 3) (ret := (some .int)) (plainFor_of_name (by decide)) rfl (⟨_, rfl, rfl⟩) (Nat.le_of_ble_eq_true rfl) ?_
  show GG l cX0_ofCutter MX0_ofCutter false (.inl ((some (.int (f (145 + c)))), Ω (row q f))) 0 [some (.ref lp), some (.int (nI (c))), some (.int 2)] [] (Ω (row q f)) 0 0
  refine G_iload_n dX0_ofCutter_0 rfl ?_
  refine G_tabIn (off := 47) 48 dX0_ofCutter_1 (by decide) (by decide) (by decide) (by decide) ?_
  refine G_aload_n dX0_ofCutter_48 rfl ?_
  refine G_sipush (v := 149) dX0_ofCutter_49 (by decide) ?_
  refine G_iload_n dX0_ofCutter_52 rfl ?_
  refine G_iaddN (a := 149) (c := c) (s := 149 + c) dX0_ofCutter_53 (by omega) ?_
  refine G_callVi dX0_ofCutter_54 kX0_ofCutter_X0_at ⟨rfl, rfl⟩ ⟨Nat.zero_le _, Nat.zero_le _⟩ (c_atH hΩ (j := 149 + c) (j' := 145 + c) (by omega) (by omega)) rfl rfl ((hΩ _).1) rfl rfl ?_
  exact G_iret dX0_ofCutter_57 ⟨Nat.zero_le _, Nat.zero_le _⟩ (rfl)
theorem c_ofCutter_3 (hΩ : LV lp ap Ω) {q f : mj_S} {c : Nat} (hc : c < 6) : MC l yX0_ofCutter wsX0_ofCutter rmX0_ofCutter false [.ref lp, .int (nI (c)), .int 3] (Ω (row q f)) (some (.int (f (151 + c)))) (Ω (row q f)) := by
  refine mj_MC (cc := cX0_ofCutter) (nl := 3) (ret := (some .int)) (plainFor_of_name (by decide)) rfl (⟨_, rfl, rfl⟩) (Nat.le_of_ble_eq_true rfl) ?_
  show GG l cX0_ofCutter MX0_ofCutter false (.inl ((some (.int (f (151 + c)))), Ω (row q f))) 0 [some (.ref lp), some (.int (nI (c))), some (.int 3)] [] (Ω (row q f)) 0 0
  refine G_iload_n dX0_ofCutter_0 rfl ?_
  refine G_tabOut 58 dX0_ofCutter_1 (by decide) (by decide) ?_
  refine G_aload_n dX0_ofCutter_58 rfl ?_
  refine G_sipush (v := 155) dX0_ofCutter_59 (by decide) ?_
  refine G_iload_n dX0_ofCutter_62 rfl ?_
  refine G_iaddN (a := 155) (c := c) (s := 155 + c) dX0_ofCutter_63 (by omega) ?_
  refine G_callVi dX0_ofCutter_64 kX0_ofCutter_X0_at ⟨rfl, rfl⟩ ⟨Nat.zero_le _, Nat.zero_le _⟩ (c_atH hΩ (j := 155 + c) (j' := 151 + c) (by omega) (by omega)) rfl rfl ((hΩ _).1) rfl rfl ?_
  exact G_iret dX0_ofCutter_67 ⟨Nat.zero_le _, Nat.zero_le _⟩ (rfl)
theorem c_ofCutter (hΩ : LV lp ap Ω) {q f : mj_S} {c : Nat} (hc : c < 6) {w : Nat} (hw : w < 4) : MC l yX0_ofCutter wsX0_ofCutter rmX0_ofCutter false [.ref lp, .int (nI (c)), .int (nI (w))] (Ω (row q f)) (some (.int (f (133 + 6 * w + c)))) (Ω (row q f)) := by
  rcases (show w = 0 ∨ w = 1 ∨ w = 2 ∨ w = 3 by omega) with rfl | rfl | rfl | rfl
  · exact c_ofCutter_0 hΩ hc
  · exact c_ofCutter_1 hΩ hc
  · exact c_ofCutter_2 hΩ hc
  · exact c_ofCutter_3 hΩ hc
theorem c_ofAll_0 (hΩ : LV lp ap Ω) {q f : mj_S} : MC l yX0_ofAll wsX0_ofAll rmX0_ofAll false [.ref lp, .int 0] (Ω (row q f)) (some (.int (s_ofA f 0))) (Ω (row q f)) := by
  refine mj_MC (cc := cX0_ofAll) (nl := 2) (ret := (some .int)) (plainFor_of_name (by decide)) rfl (⟨_, rfl, rfl⟩) (Nat.le_of_ble_eq_true rfl) ?_
  show GG l cX0_ofAll MX0_ofAll false (.inl ((some (.int (s_ofA f 0))), Ω (row q f))) 0 [some (.ref lp), some (.int 0)] [] (Ω (row q f)) 0 0
  refine G_iload_n dX0_ofAll_0 rfl ?_
  refine G_tabIn (off := 59) 60 dX0_ofAll_1 (by decide) (by decide) (by decide) (by decide) ?_
  refine G_aload_n dX0_ofAll_60 rfl ?_
  refine G_iconst (v := 0) dX0_ofAll_61 (by decide) ?_
  refine G_callVi dX0_ofAll_62 kX0_ofAll_X0_at ⟨rfl, rfl⟩ ⟨Nat.zero_le _, Nat.zero_le _⟩ (c_atL hΩ (j := 0) (by omega)) rfl rfl ((hΩ _).1) rfl rfl ?_
  exact G_iret dX0_ofAll_65 ⟨Nat.zero_le _, Nat.zero_le _⟩ (rfl)
theorem c_ofAll_1 (hΩ : LV lp ap Ω) {q f : mj_S} : MC l yX0_ofAll wsX0_ofAll rmX0_ofAll false [.ref lp, .int 1] (Ω (row q f)) (some (.int (s_ofA f 1))) (Ω (row q f)) := by
  refine mj_MC (cc := cX0_ofAll) (nl := 2) (ret := (some .int)) (plainFor_of_name (by decide)) rfl (⟨_, rfl, rfl⟩) (Nat.le_of_ble_eq_true rfl) ?_
  show GG l cX0_ofAll MX0_ofAll false (.inl ((some (.int (s_ofA f 1))), Ω (row q f))) 0 [some (.ref lp), some (.int 1)] [] (Ω (row q f)) 0 0
  refine G_iload_n dX0_ofAll_0 rfl ?_
  refine G_tabIn (off := 65) 66 dX0_ofAll_1 (by decide) (by decide) (by decide) (by decide) ?_
  refine G_aload_n dX0_ofAll_66 rfl ?_
  refine G_iconst (v := 1) dX0_ofAll_67 (by decide) ?_
  refine G_callVi dX0_ofAll_68 kX0_ofAll_X0_at ⟨rfl, rfl⟩ ⟨Nat.zero_le _, Nat.zero_le _⟩ (c_atL hΩ (j := 1) (by omega)) rfl rfl ((hΩ _).1) rfl rfl ?_
  exact G_iret dX0_ofAll_71 ⟨Nat.zero_le _, Nat.zero_le _⟩ (rfl)
theorem c_ofAll_2 (hΩ : LV lp ap Ω) {q f : mj_S} : MC l yX0_ofAll wsX0_ofAll rmX0_ofAll false [.ref lp, .int 2] (Ω (row q f)) (some (.int (s_ofA f 2))) (Ω (row q f)) := by
  refine mj_MC (cc := cX0_ofAll) (nl := 2) (ret := (some .int)) (plainFor_of_name (by decide)) rfl (⟨_, rfl, rfl⟩) (Nat.le_of_ble_eq_true rfl) ?_
  show GG l cX0_ofAll MX0_ofAll false (.inl ((some (.int (s_ofA f 2))), Ω (row q f))) 0 [some (.ref lp), some (.int 2)] [] (Ω (row q f)) 0 0
  refine G_iload_n dX0_ofAll_0 rfl ?_
  refine G_tabIn (off := 71) 72 dX0_ofAll_1 (by decide) (by decide) (by decide) (by decide) ?_
  refine G_aload_n dX0_ofAll_72 rfl ?_
  refine G_callVi dX0_ofAll_73 kX0_ofAll_X0_cuttersAtWork ⟨rfl, rfl⟩ ⟨Nat.zero_le _, Nat.zero_le _⟩ (c_cuttersAtWork hΩ) rfl rfl ((hΩ _).1) rfl rfl ?_
  exact G_iret dX0_ofAll_76 ⟨Nat.zero_le _, Nat.zero_le _⟩ (rfl)
theorem c_ofAll_3 (hΩ : LV lp ap Ω) {q f : mj_S} : MC l yX0_ofAll wsX0_ofAll rmX0_ofAll false [.ref lp, .int 3] (Ω (row q f)) (some (.int (s_ofA f 3))) (Ω (row q f)) := by
  refine mj_MC (cc := cX0_ofAll) (nl := 2) (ret := (some .int)) (plainFor_of_name (by decide)) rfl (⟨_, rfl, rfl⟩) (Nat.le_of_ble_eq_true rfl) ?_
  show GG l cX0_ofAll MX0_ofAll false (.inl ((some (.int (s_ofA f 3))), Ω (row q f))) 0 [some (.ref lp), some (.int 3)] [] (Ω (row q f)) 0 0
  refine G_iload_n dX0_ofAll_0 rfl ?_
  refine G_tabIn (off := 76) 77 dX0_ofAll_1 (by decide) (by decide) (by decide) (by decide) ?_
  refine G_aload_n dX0_ofAll_77 rfl ?_
  refine G_bipush (v := 45) dX0_ofAll_78 (by decide) ?_
  refine G_iconst (v := 4) dX0_ofAll_80 (by decide) ?_
  refine G_callVi dX0_ofAll_81 kX0_ofAll_X0_sum ⟨rfl, rfl⟩ ⟨Nat.zero_le _, Nat.zero_le _⟩ (c_sumL hΩ (a := 45) (m := 4) (by omega)) rfl rfl ((hΩ _).1) rfl rfl ?_
  exact G_iret dX0_ofAll_84 ⟨Nat.zero_le _, Nat.zero_le _⟩ (rfl)
theorem c_ofAll_4 (hΩ : LV lp ap Ω) {q f : mj_S} : MC l yX0_ofAll wsX0_ofAll rmX0_ofAll false [.ref lp, .int 4] (Ω (row q f)) (some (.int (s_ofA f 4))) (Ω (row q f)) := by
  refine mj_MC (cc := cX0_ofAll) (nl := 2) (ret := (some .int)) (plainFor_of_name (by decide)) rfl (⟨_, rfl, rfl⟩) (Nat.le_of_ble_eq_true rfl) ?_
  show GG l cX0_ofAll MX0_ofAll false (.inl ((some (.int (s_ofA f 4))), Ω (row q f))) 0 [some (.ref lp), some (.int 4)] [] (Ω (row q f)) 0 0
  refine G_iload_n dX0_ofAll_0 rfl ?_
  refine G_tabIn (off := 84) 85 dX0_ofAll_1 (by decide) (by decide) (by decide) (by decide) ?_
  refine G_aload_n dX0_ofAll_85 rfl ?_
  refine G_callVi dX0_ofAll_86 kX0_ofAll_X0_turvesOnBanks ⟨rfl, rfl⟩ ⟨Nat.zero_le _, Nat.zero_le _⟩ (c_turvesOnBanks hΩ) rfl rfl ((hΩ _).1) rfl rfl ?_
  exact G_iret dX0_ofAll_89 ⟨Nat.zero_le _, Nat.zero_le _⟩ (rfl)
theorem c_ofAll_5 (hΩ : LV lp ap Ω) {q f : mj_S} : MC l yX0_ofAll wsX0_ofAll rmX0_ofAll false [.ref lp, .int 5] (Ω (row q f)) (some (.int (s_ofA f 5))) (Ω (row q f)) := by
  refine mj_MC (cc := cX0_ofAll) (nl := 2) (ret := (some .int)) (plainFor_of_name (by decide)) rfl (⟨_, rfl, rfl⟩) (Nat.le_of_ble_eq_true rfl) ?_
  show GG l cX0_ofAll MX0_ofAll false (.inl ((some (.int (s_ofA f 5))), Ω (row q f))) 0 [some (.ref lp), some (.int 5)] [] (Ω (row q f)) 0 0
  refine G_iload_n dX0_ofAll_0 rfl ?_
  refine G_tabIn (off := 89) 90 dX0_ofAll_1 (by decide) (by decide) (by decide) (by decide) ?_
  refine G_aload_n dX0_ofAll_90 rfl ?_
  refine G_bipush (v := 15) dX0_ofAll_91 (by decide) ?_
  refine G_iconst (v := 5) dX0_ofAll_93 (by decide) ?_
  refine G_callVi dX0_ofAll_94 kX0_ofAll_X0_sum ⟨rfl, rfl⟩ ⟨Nat.zero_le _, Nat.zero_le _⟩ (c_sumL hΩ (a := 15) (m := 5) (by omega)) rfl rfl ((hΩ _).1) rfl rfl ?_
  exact G_iret dX0_ofAll_97 ⟨Nat.zero_le _, Nat.zero_le _⟩ (rfl)
theorem c_ofAll_6 (hΩ : LV lp ap Ω) {q f : mj_S} : MC l yX0_ofAll wsX0_ofAll rmX0_ofAll false [.ref lp, .int 6] (Ω (row q f)) (some (.int (s_ofA f 6))) (Ω (row q f)) := by
  refine mj_MC (cc := cX0_ofAll) (nl := 2) (ret := (some .int)) (plainFor_of_name (by decide)) rfl (⟨_, rfl, rfl⟩) (Nat.le_of_ble_eq_true rfl) ?_
  show GG l cX0_ofAll MX0_ofAll false (.inl ((some (.int (s_ofA f 6))), Ω (row q f))) 0 [some (.ref lp), some (.int 6)] [] (Ω (row q f)) 0 0
  refine G_iload_n dX0_ofAll_0 rfl ?_
  refine G_tabIn (off := 97) 98 dX0_ofAll_1 (by decide) (by decide) (by decide) (by decide) ?_
  refine G_aload_n dX0_ofAll_98 rfl ?_
  refine G_bipush (v := 35) dX0_ofAll_99 (by decide) ?_
  refine G_iconst (v := 5) dX0_ofAll_101 (by decide) ?_
  refine G_callVi dX0_ofAll_102 kX0_ofAll_X0_sum ⟨rfl, rfl⟩ ⟨Nat.zero_le _, Nat.zero_le _⟩ (c_sumL hΩ (a := 35) (m := 5) (by omega)) rfl rfl ((hΩ _).1) rfl rfl ?_
  exact G_iret dX0_ofAll_105 ⟨Nat.zero_le _, Nat.zero_le _⟩ (rfl)
theorem c_ofAll_7 (hΩ : LV lp ap Ω) {q f : mj_S} : MC l yX0_ofAll wsX0_ofAll rmX0_ofAll false [.ref lp, .int 7] (Ω (row q f)) (some (.int (s_ofA f 7))) (Ω (row q f)) := by
  refine mj_MC (cc := cX0_ofAll) (nl := 2) (ret := (some .int)) (plainFor_of_name (by decide)) rfl (⟨_, rfl, rfl⟩) (Nat.le_of_ble_eq_true rfl) ?_
  show GG l cX0_ofAll MX0_ofAll false (.inl ((some (.int (s_ofA f 7))), Ω (row q f))) 0 [some (.ref lp), some (.int 7)] [] (Ω (row q f)) 0 0
  refine G_iload_n dX0_ofAll_0 rfl ?_
  refine G_tabIn (off := 105) 106 dX0_ofAll_1 (by decide) (by decide) (by decide) (by decide) ?_
  refine G_aload_n dX0_ofAll_106 rfl ?_
  refine G_callVi dX0_ofAll_107 kX0_ofAll_X0_hearthsShort ⟨rfl, rfl⟩ ⟨Nat.zero_le _, Nat.zero_le _⟩ (c_hearthsShort hΩ) rfl rfl ((hΩ _).1) rfl rfl ?_
  exact G_iret dX0_ofAll_110 ⟨Nat.zero_le _, Nat.zero_le _⟩ (rfl)
theorem c_ofAll_8 (hΩ : LV lp ap Ω) {q f : mj_S} : MC l yX0_ofAll wsX0_ofAll rmX0_ofAll false [.ref lp, .int 8] (Ω (row q f)) (some (.int (s_ofA f 8))) (Ω (row q f)) := by
  refine mj_MC (cc := cX0_ofAll) (nl := 2) (ret := (some .int)) (plainFor_of_name (by decide)) rfl (⟨_, rfl, rfl⟩) (Nat.le_of_ble_eq_true rfl) ?_
  show GG l cX0_ofAll MX0_ofAll false (.inl ((some (.int (s_ofA f 8))), Ω (row q f))) 0 [some (.ref lp), some (.int 8)] [] (Ω (row q f)) 0 0
  refine G_iload_n dX0_ofAll_0 rfl ?_
  refine G_tabIn (off := 110) 111 dX0_ofAll_1 (by decide) (by decide) (by decide) (by decide) ?_
  refine G_aload_n dX0_ofAll_111 rfl ?_
  refine G_callVi dX0_ofAll_112 kX0_ofAll_X0_hearthsThatWillBeShort ⟨rfl, rfl⟩ ⟨Nat.zero_le _, Nat.zero_le _⟩ (c_hearthsThatWillBeShort hΩ) rfl rfl ((hΩ _).1) rfl rfl ?_
  exact G_iret dX0_ofAll_115 ⟨Nat.zero_le _, Nat.zero_le _⟩ (rfl)
theorem c_ofAll_9 (hΩ : LV lp ap Ω) {q f : mj_S} : MC l yX0_ofAll wsX0_ofAll rmX0_ofAll false [.ref lp, .int 9] (Ω (row q f)) (some (.int (s_ofA f 9))) (Ω (row q f)) := by
  refine mj_MC (cc := cX0_ofAll) (nl := 2) (ret := (some .int)) (plainFor_of_name (by decide)) rfl (⟨_, rfl, rfl⟩) (Nat.le_of_ble_eq_true rfl) ?_
  show GG l cX0_ofAll MX0_ofAll false (.inl ((some (.int (s_ofA f 9))), Ω (row q f))) 0 [some (.ref lp), some (.int 9)] [] (Ω (row q f)) 0 0
  refine G_iload_n dX0_ofAll_0 rfl ?_
  refine G_tabIn (off := 115) 116 dX0_ofAll_1 (by decide) (by decide) (by decide) (by decide) ?_
  refine G_aload_n dX0_ofAll_116 rfl ?_
  refine G_iconst (v := 2) dX0_ofAll_117 (by decide) ?_
  refine G_callVi dX0_ofAll_118 kX0_ofAll_X0_at ⟨rfl, rfl⟩ ⟨Nat.zero_le _, Nat.zero_le _⟩ (c_atL hΩ (j := 2) (by omega)) rfl rfl ((hΩ _).1) rfl rfl ?_
  exact G_iret dX0_ofAll_121 ⟨Nat.zero_le _, Nat.zero_le _⟩ (rfl)
theorem c_ofAll_10 (hΩ : LV lp ap Ω) {q f : mj_S} : MC l yX0_ofAll wsX0_ofAll rmX0_ofAll false [.ref lp, .int 10] (Ω (row q f)) (some (.int (s_ofA f 10))) (Ω (row q f)) := by
  refine mj_MC (cc := cX0_ofAll) (nl := 2) (ret := (some .int)) (plainFor_of_name (by decide)) rfl (⟨_, rfl, rfl⟩) (Nat.le_of_ble_eq_true rfl) ?_
  show GG l cX0_ofAll MX0_ofAll false (.inl ((some (.int (s_ofA f 10))), Ω (row q f))) 0 [some (.ref lp), some (.int 10)] [] (Ω (row q f)) 0 0
  refine G_iload_n dX0_ofAll_0 rfl ?_
  refine G_tabIn (off := 121) 122 dX0_ofAll_1 (by decide) (by decide) (by decide) (by decide) ?_
  refine G_aload_n dX0_ofAll_122 rfl ?_
  refine G_iconst (v := 3) dX0_ofAll_123 (by decide) ?_
  refine G_callVi dX0_ofAll_124 kX0_ofAll_X0_at ⟨rfl, rfl⟩ ⟨Nat.zero_le _, Nat.zero_le _⟩ (c_atL hΩ (j := 3) (by omega)) rfl rfl ((hΩ _).1) rfl rfl ?_
  exact G_iret dX0_ofAll_127 ⟨Nat.zero_le _, Nat.zero_le _⟩ (rfl)
theorem c_ofAll_11 (hΩ : LV lp ap Ω) {q f : mj_S} : MC l yX0_ofAll wsX0_ofAll rmX0_ofAll false [.ref lp, .int 11] (Ω (row q f)) (some (.int (s_ofA f 11))) (Ω (row q f)) := by
  refine mj_MC (cc := cX0_ofAll) (nl := 2) (ret := (some .int)) (plainFor_of_name (by decide)) rfl (⟨_, rfl, rfl⟩) (Nat.le_of_ble_eq_true rfl) ?_
  show GG l cX0_ofAll MX0_ofAll false (.inl ((some (.int (s_ofA f 11))), Ω (row q f))) 0 [some (.ref lp), some (.int 11)] [] (Ω (row q f)) 0 0
  refine G_iload_n dX0_ofAll_0 rfl ?_
  refine G_tabOut 128 dX0_ofAll_1 (by decide) (by decide) ?_
  refine G_aload_n dX0_ofAll_128 rfl ?_
  refine G_iconst (v := 4) dX0_ofAll_129 (by decide) ?_
  refine G_callVi dX0_ofAll_130 kX0_ofAll_X0_at ⟨rfl, rfl⟩ ⟨Nat.zero_le _, Nat.zero_le _⟩ (c_atL hΩ (j := 4) (by omega)) rfl rfl ((hΩ _).1) rfl rfl ?_
  exact G_iret dX0_ofAll_133 ⟨Nat.zero_le _, Nat.zero_le _⟩ (rfl)
theorem c_ofAll (hΩ : LV lp ap Ω) {q f : mj_S}  {w : Nat} (hw : w < 12) : MC l yX0_ofAll wsX0_ofAll rmX0_ofAll false [.ref lp, .int (nI (w))] (Ω (row q f)) (some (.int (s_ofA f w))) (Ω (row q f)) := by
  rcases (show w = 0 ∨ w = 1 ∨ w = 2 ∨ w = 3 ∨ w = 4 ∨ w = 5 ∨ w = 6 ∨ w = 7 ∨ w = 8 ∨ w = 9 ∨ w = 10 ∨ w = 11 by omega) with rfl | rfl | rfl | rfl | rfl | rfl | rfl | rfl | rfl | rfl | rfl | rfl
  · exact c_ofAll_0 hΩ 
  · exact c_ofAll_1 hΩ 
  · exact c_ofAll_2 hΩ 
  · exact c_ofAll_3 hΩ 
  · exact c_ofAll_4 hΩ 
  · exact c_ofAll_5 hΩ 
  · exact c_ofAll_6 hΩ 
  · exact c_ofAll_7 hΩ 
  · exact c_ofAll_8 hΩ 
  · exact c_ofAll_9 hΩ 
  · exact c_ofAll_10 hΩ 
  · exact c_ofAll_11 hΩ 
end LC

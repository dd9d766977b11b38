section LF
variable {l : Launch} {Ψ : mj_S → mj_W}
abbrev rmL_isHearth : Room := { frames := 10, cells := 0, slots := 0, locals := 187 }
abbrev ML_isHearth : mj_M := (RL, 13, wsL_isHearth ++ ctN, rmL_isHearth, false, none)
theorem kL_isHearth_L_hearthOf : mj_cwSW ML_isHearth 97 yL_hearthOf [(0, 6, 7, 16), (0, 6, 11, 18)] wsL_hearthOf r0L_hearthOf 3 := ⟨_, _, _, _, fun w h => ⟨List.mem_append_left _ (gL_isHearth_L_hearthOf w h).1, (gL_isHearth_L_hearthOf w h).2⟩, rfl, by decide +kernel, by decide⟩
theorem lq_on (hΨ : HV Ψ) {X : mj_R} {f : mj_S} {k : Nat} (hk : k < 5) : ∀ (d b : Nat) (z : Int32), b + d = 4 → (∀ u7 : Option Value, GG l cL_isHearth ML_isHearth false X 51 [some (.ref 0), some (.int (nI (k))), some (.ref 12), some (.ref 14), some (.ref 15), some (.ref 16), some (.int (itr (fun b a => a + s_tv f (b + 4 * k)) d b z)), u7, none, none, none, none, none] [] (Ψ f) 0 0) → GG l cL_isHearth ML_isHearth false X 6 [some (.ref 0), some (.int (nI (k))), some (.ref 12), some (.ref 14), some (.ref 15), some (.ref 16), some (.int z), some (.int (nI (b))), none, none, none, none, none] [] (Ψ f) 0 0
  | 0, b, z, hb, K => by
    refine G_iload dL_isHearth_6 rfl ?_
    refine G_iconst (v := 4) dL_isHearth_8 (by decide) ?_
    refine G_icmp_geN (a := b) (c := 4) 51 dL_isHearth_9 (by decide) (by omega) (fun c9 => ?_) (fun c9 => ?_)
    · exact K _
    · exact (show False by omega).elim
  | d + 1, b, z, hb, K => by
    refine G_iload dL_isHearth_6 rfl ?_
    refine G_iconst (v := 4) dL_isHearth_8 (by decide) ?_
    refine G_icmp_geN (a := b) (c := 4) 51 dL_isHearth_9 (by decide) (by omega) (fun c9 => ?_) (fun c9 => ?_)
    · exact (show False by omega).elim
    · refine G_iload dL_isHearth_12 rfl ?_
      refine G_aload_n dL_isHearth_14 rfl ?_
      refine G_iconst (v := 4) dL_isHearth_15 (by decide) ?_
      refine G_iload_n dL_isHearth_16 rfl ?_
      refine G_imulN (a := 4) (c := k) (s := 4 * k) dL_isHearth_17 (by omega) ?_
      refine G_iload dL_isHearth_18 rfl ?_
      refine G_iaddN (a := 4 * k) (c := b) (s := b + 4 * k) dL_isHearth_20 (by omega) ?_
      refine G_ialdN (j := b + 4 * k) dL_isHearth_21 ((hΨ f).1.2.2.2.1) (by omega) ?_
      refine G_eqi (rdB (by omega) (by omega) : _ = f (73 + b + 4 * k)) ?_
      refine G_aload dL_isHearth_22 rfl ?_
      refine G_iconst (v := 4) dL_isHearth_24 (by decide) ?_
      refine G_iload_n dL_isHearth_25 rfl ?_
      refine G_imulN (a := 4) (c := k) (s := 4 * k) dL_isHearth_26 (by omega) ?_
      refine G_iload dL_isHearth_27 rfl ?_
      refine G_iaddN (a := 4 * k) (c := b) (s := b + 4 * k) dL_isHearth_29 (by omega) ?_
      refine G_ialdN (j := b + 4 * k) dL_isHearth_30 ((hΨ f).1.2.2.2.2.1) (by omega) ?_
      refine G_eqi (rdB (by omega) (by omega) : _ = f (93 + b + 4 * k)) ?_
      refine G_iadd dL_isHearth_31 ?_
      refine G_aload dL_isHearth_32 rfl ?_
      refine G_iconst (v := 4) dL_isHearth_34 (by decide) ?_
      refine G_iload_n dL_isHearth_35 rfl ?_
      refine G_imulN (a := 4) (c := k) (s := 4 * k) dL_isHearth_36 (by omega) ?_
      refine G_iload dL_isHearth_37 rfl ?_
      refine G_iaddN (a := 4 * k) (c := b) (s := b + 4 * k) dL_isHearth_39 (by omega) ?_
      refine G_ialdN (j := b + 4 * k) dL_isHearth_40 ((hΨ f).1.2.2.2.2.2.1) (by omega) ?_
      refine G_eqi (rdB (by omega) (by omega) : _ = f (113 + b + 4 * k)) ?_
      refine G_iadd dL_isHearth_41 ?_
      refine G_iadd dL_isHearth_42 ?_
      refine G_istore dL_isHearth_43 rfl (L' := [some (.ref 0), some (.int (nI (k))), some (.ref 12), some (.ref 14), some (.ref 15), some (.ref 16), some (.int (z + (((f (73 + b + 4 * k)) + (f (93 + b + 4 * k))) + (f (113 + b + 4 * k))))), some (.int (nI (b))), none, none, none, none, none]) rfl ?_
      refine G_iincN (a := b) (s := b + 1) dL_isHearth_45 rfl (by omega) (L' := [some (.ref 0), some (.int (nI (k))), some (.ref 12), some (.ref 14), some (.ref 15), some (.ref 16), some (.int (z + (((f (73 + b + 4 * k)) + (f (93 + b + 4 * k))) + (f (113 + b + 4 * k))))), some (.int (nI (b + 1))), none, none, none, none, none]) rfl ?_
      refine G_goto 6 dL_isHearth_48 (by decide) ?_
      refine lq_on hΨ hk d (b + 1) (z + (((f (73 + b + 4 * k)) + (f (93 + b + 4 * k))) + (f (113 + b + 4 * k)))) (by omega) (fun u7 => ?_)
      have K1 := K u7
      rw [itr_s] at K1
      try dsimp only at K1
      rw [s_tv, show 73 + (b + 4 * k) = 73 + b + 4 * k by omega, show 93 + (b + 4 * k) = 93 + b + 4 * k by omega, show 113 + (b + 4 * k) = 113 + b + 4 * k by omega] at K1
      exact K1
theorem lm_isHearth (hΨ : HV Ψ) {f : mj_S} (hK : LK l f (Ψ f)) (hv : vt f) {B : Nat} (hJ : okJ f B) (hB : B < 500000000) {k : Nat} (hk : k < 5) : MCE l yL_isHearth wsL_isHearth rmL_isHearth ctN false [.ref 0, .int (nI (k)), .ref 12, .ref 14, .ref 15, .ref 16] (Ψ f) (some (.int 1)) (Ψ f) := by
  obtain ⟨nd, hnd, end'⟩ := hJ.1 k hk
  obtain ⟨ho1, hho, eho⟩ := hJ.2.1 k hk
  obtain ⟨on, hon, eon⟩ := tvH_n hv hk
  have HB := bal_eq (hJ.2.2.2 k hk)
  have H36 := sh3_eq (hJ.2.2.2 k hk)
  have S1le : f (10 + k) ≤ f (15 + k) → (0 : Int32) = s_sh f k := fun q => by
    rw [end', eho] at q
    rw [s_sh, end', eho]
    exact (mx0_le (by omega) (by omega) ((nI_leI (by omega) (by omega)).mp q)).symm
  have S1gt : ¬ f (10 + k) ≤ f (15 + k) → f (10 + k) - f (15 + k) = s_sh f k := fun q => by
    rw [end', eho] at q
    rw [s_sh, end', eho]
    refine (mx0_gt (by omega) ?_).symm
    rcases Nat.le_total ho1 nd with z | z
    · exact z
    · exact absurd ((nI_leI (by omega) (by omega)).mpr z) q
  have S2e : s_sh2 f k = mx0 (nI nd - nI (ho1 + on)) := by
    rw [s_sh2, end', eho, eon, ← nI_add, sub3]
  have S2le : f (10 + k) ≤ f (15 + k) + s_tvH f k → (0 : Int32) = s_sh2 f k := fun q => by
    rw [end', eho, eon, nI_add] at q
    rw [S2e]
    exact (mx0_le (by omega) (by omega) ((nI_leI (by omega) (by omega)).mp q)).symm
  have S2gt : ¬ f (10 + k) ≤ f (15 + k) + s_tvH f k → f (10 + k) - f (15 + k) - s_tvH f k = s_sh2 f k := fun q => by
    rw [end', eho, eon, nI_add] at q
    have z0 : ho1 + on ≤ nd := by
      rcases Nat.le_total (ho1 + on) nd with z | z
      · exact z
      · exact absurd ((nI_leI (by omega) (by omega)).mpr z) q
    rw [S2e, mx0_gt (by omega) z0, end', eho, eon, ← nI_add, sub3]
  refine mj_MCE (cc := cL_isHearth) (nl := 13) (ret := (some .boolean)) ctN_vm (plainFor_of_name (by decide)) rfl (⟨_, rfl, rfl⟩) (Nat.le_of_ble_eq_true rfl) ?_
  show GG l cL_isHearth ML_isHearth false (.inl (some (.int 1), Ψ f)) 0 [some (.ref 0), some (.int (nI (k))), some (.ref 12), some (.ref 14), some (.ref 15), some (.ref 16), none, none, none, none, none, none, none] [] (Ψ f) 0 0
  obtain ⟨X, hX⟩ : ∃ X : mj_R, X = .inl (some (.int 1), Ψ f) := ⟨_, rfl⟩
  rw [← hX]
  refine G_iconst (v := 0) dL_isHearth_0 (by decide) ?_
  refine G_istore dL_isHearth_1 rfl (L' := [some (.ref 0), some (.int (nI (k))), some (.ref 12), some (.ref 14), some (.ref 15), some (.ref 16), some (.int 0), none, none, none, none, none, none]) rfl ?_
  refine G_iconst (v := 0) dL_isHearth_3 (by decide) ?_
  refine G_istore dL_isHearth_4 rfl (L' := [some (.ref 0), some (.int (nI (k))), some (.ref 12), some (.ref 14), some (.ref 15), some (.ref 16), some (.int 0), some (.int 0), none, none, none, none, none]) rfl ?_
  refine lq_on hΨ hk 4 0 0 rfl (fun u7 => ?_)
  show GG l cL_isHearth ML_isHearth false X 51 [some (.ref 0), some (.int (nI (k))), some (.ref 12), some (.ref 14), some (.ref 15), some (.ref 16), some (.int (s_tvH f k)), u7, none, none, none, none, none] [] (Ψ f) 0 0
  refine G_aload_n dL_isHearth_51 rfl ?_
  refine G_bipush (v := 8) dL_isHearth_52 (by decide) ?_
  refine G_iload_n dL_isHearth_54 rfl ?_
  refine G_imulN (a := 8) (c := k) (s := 8 * k) dL_isHearth_55 (by omega) ?_
  refine G_iconst (v := 1) dL_isHearth_56 (by decide) ?_
  refine G_iaddN (a := 8 * k) (c := 1) (s := 8 * k + 1) dL_isHearth_57 (by omega) ?_
  refine G_ialdN (j := 8 * k + 1) dL_isHearth_58 ((hΨ f).1.2.1) (by omega) ?_
  refine G_eqi (rdH (by omega) (by omega) : _ = f (10 + k)) ?_
  refine G_istore dL_isHearth_59 rfl (L' := [some (.ref 0), some (.int (nI (k))), some (.ref 12), some (.ref 14), some (.ref 15), some (.ref 16), some (.int (s_tvH f k)), some (.int (f (10 + k))), none, none, none, none, none]) rfl ?_
  refine G_aload_n dL_isHearth_61 rfl ?_
  refine G_bipush (v := 8) dL_isHearth_62 (by decide) ?_
  refine G_iload_n dL_isHearth_64 rfl ?_
  refine G_imulN (a := 8) (c := k) (s := 8 * k) dL_isHearth_65 (by omega) ?_
  refine G_iconst (v := 2) dL_isHearth_66 (by decide) ?_
  refine G_iaddN (a := 8 * k) (c := 2) (s := 2 + 8 * k) dL_isHearth_67 (by omega) ?_
  refine G_ialdN (j := 2 + 8 * k) dL_isHearth_68 ((hΨ f).1.2.1) (by omega) ?_
  refine G_eqi (rdH (by omega) (by omega) : _ = f (15 + k)) ?_
  refine G_istore dL_isHearth_69 rfl (L' := [some (.ref 0), some (.int (nI (k))), some (.ref 12), some (.ref 14), some (.ref 15), some (.ref 16), some (.int (s_tvH f k)), some (.int (f (10 + k))), some (.int (f (15 + k))), none, none, none, none]) rfl ?_
  have K87 : ∀ m1 : Int32, m1 = s_sh f k → GG l cL_isHearth ML_isHearth false X 87 [some (.ref 0), some (.int (nI (k))), some (.ref 12), some (.ref 14), some (.ref 15), some (.ref 16), some (.int (s_tvH f k)), some (.int (f (10 + k))), some (.int (f (15 + k))), none, none, none, none] [.int m1] (Ψ f) 0 0 := by
    intro m1 e1
    refine G_istore dL_isHearth_87 rfl (L' := [some (.ref 0), some (.int (nI (k))), some (.ref 12), some (.ref 14), some (.ref 15), some (.ref 16), some (.int (s_tvH f k)), some (.int (f (10 + k))), some (.int (f (15 + k))), some (.int m1), none, none, none]) rfl ?_
    have K111 : ∀ m2 : Int32, m2 = s_sh2 f k → GG l cL_isHearth ML_isHearth false X 111 [some (.ref 0), some (.int (nI (k))), some (.ref 12), some (.ref 14), some (.ref 15), some (.ref 16), some (.int (s_tvH f k)), some (.int (f (10 + k))), some (.int (f (15 + k))), some (.int m1), none, none, none] [.int m2] (Ψ f) 0 0 := by
      intro m2 e2
      subst e1
      subst e2
      refine G_istore dL_isHearth_111 rfl (L' := [some (.ref 0), some (.int (nI (k))), some (.ref 12), some (.ref 14), some (.ref 15), some (.ref 16), some (.int (s_tvH f k)), some (.int (f (10 + k))), some (.int (f (15 + k))), some (.int (s_sh f k)), some (.int (s_sh2 f k)), none, none]) rfl ?_
      refine G_iload dL_isHearth_113 rfl ?_
      refine G_iload dL_isHearth_115 rfl ?_
      refine G_iadd dL_isHearth_117 ?_
      refine G_aload_n dL_isHearth_118 rfl ?_
      refine G_bipush (v := 8) dL_isHearth_119 (by decide) ?_
      refine G_iload_n dL_isHearth_121 rfl ?_
      refine G_imulN (a := 8) (c := k) (s := 8 * k) dL_isHearth_122 (by omega) ?_
      refine G_iconst (v := 3) dL_isHearth_123 (by decide) ?_
      refine G_iaddN (a := 8 * k) (c := 3) (s := 3 + 8 * k) dL_isHearth_124 (by omega) ?_
      refine G_ialdN (j := 3 + 8 * k) dL_isHearth_125 ((hΨ f).1.2.1) (by omega) ?_
      refine G_eqi (rdH (by omega) (by omega) : _ = f (20 + k)) ?_
      refine G_aload_n dL_isHearth_126 rfl ?_
      refine G_bipush (v := 8) dL_isHearth_127 (by decide) ?_
      refine G_iload_n dL_isHearth_129 rfl ?_
      refine G_imulN (a := 8) (c := k) (s := 8 * k) dL_isHearth_130 (by omega) ?_
      refine G_iconst (v := 4) dL_isHearth_131 (by decide) ?_
      refine G_iaddN (a := 8 * k) (c := 4) (s := 4 + 8 * k) dL_isHearth_132 (by omega) ?_
      refine G_ialdN (j := 4 + 8 * k) dL_isHearth_133 ((hΨ f).1.2.1) (by omega) ?_
      refine G_eqi (rdH (by omega) (by omega) : _ = f (25 + k)) ?_
      refine G_iadd dL_isHearth_134 ?_
      refine G_aload_n dL_isHearth_135 rfl ?_
      refine G_bipush (v := 8) dL_isHearth_136 (by decide) ?_
      refine G_iload_n dL_isHearth_138 rfl ?_
      refine G_imulN (a := 8) (c := k) (s := 8 * k) dL_isHearth_139 (by omega) ?_
      refine G_iconst (v := 5) dL_isHearth_140 (by decide) ?_
      refine G_iaddN (a := 8 * k) (c := 5) (s := 5 + 8 * k) dL_isHearth_141 (by omega) ?_
      refine G_ialdN (j := 5 + 8 * k) dL_isHearth_142 ((hΨ f).1.2.1) (by omega) ?_
      refine G_eqi (rdH (by omega) (by omega) : _ = f (30 + k)) ?_
      refine G_isub dL_isHearth_143 ?_
      refine G_aload_n dL_isHearth_144 rfl ?_
      refine G_bipush (v := 8) dL_isHearth_145 (by decide) ?_
      refine G_iload_n dL_isHearth_147 rfl ?_
      refine G_imulN (a := 8) (c := k) (s := 8 * k) dL_isHearth_148 (by omega) ?_
      refine G_bipush (v := 6) dL_isHearth_149 (by decide) ?_
      refine G_iaddN (a := 8 * k) (c := 6) (s := 6 + 8 * k) dL_isHearth_151 (by omega) ?_
      refine G_ialdN (j := 6 + 8 * k) dL_isHearth_152 ((hΨ f).1.2.1) (by omega) ?_
      refine G_eqi (rdH (by omega) (by omega) : _ = f (35 + k)) ?_
      refine G_isub dL_isHearth_153 ?_
      refine G_icmp_ne 161 dL_isHearth_154 (by decide) (fun q => absurd HB q) (fun _ => ?_)
      refine G_iconst (v := 1) dL_isHearth_157 (by decide) ?_
      refine G_goto 162 dL_isHearth_158 (by decide) ?_
      refine G_istore dL_isHearth_162 rfl (L' := [some (.ref 0), some (.int (nI (k))), some (.ref 12), some (.ref 14), some (.ref 15), some (.ref 16), some (.int (s_tvH f k)), some (.int (f (10 + k))), some (.int (f (15 + k))), some (.int (s_sh f k)), some (.int (s_sh2 f k)), some (.int 1), none]) rfl ?_
      refine G_iload dL_isHearth_164 rfl ?_
      refine G_if_eqN (a := 1) 255 dL_isHearth_166 (by decide) (by omega) (fun c166 => (show False by omega).elim) (fun _ => ?_)
      refine G_aload_n dL_isHearth_169 rfl ?_
      refine G_iload_n dL_isHearth_170 rfl ?_
      refine G_iconst (v := 0) dL_isHearth_171 (by decide) ?_
      refine G_callSW0 (fun _ h => List.mem_append_right _ h) dL_isHearth_172 kL_isHearth_L_hearthOf ⟨rfl, rfl⟩ ⟨Nat.zero_le _, Nat.zero_le _⟩ (hK.2.1 (k) (0) (by omega) (by omega)) rfl rfl rfl ?_
      refine G_aload_n dL_isHearth_175 rfl ?_
      refine G_bipush (v := 8) dL_isHearth_176 (by decide) ?_
      refine G_iload_n dL_isHearth_178 rfl ?_
      refine G_imulN (a := 8) (c := k) (s := 8 * k) dL_isHearth_179 (by omega) ?_
      refine G_ialdN (j := 8 * k) dL_isHearth_180 ((hΨ f).1.2.1) (by omega) ?_
      refine G_eqi (rdH (by omega) (by omega) : _ = f (5 + k)) ?_
      refine G_icmp_ne 255 dL_isHearth_181 (by decide) (fun q => absurd rfl q) (fun _ => ?_)
      refine G_aload_n dL_isHearth_184 rfl ?_
      refine G_iload_n dL_isHearth_185 rfl ?_
      refine G_iconst (v := 1) dL_isHearth_186 (by decide) ?_
      refine G_callSW0 (fun _ h => List.mem_append_right _ h) dL_isHearth_187 kL_isHearth_L_hearthOf ⟨rfl, rfl⟩ ⟨Nat.zero_le _, Nat.zero_le _⟩ (hK.2.1 (k) (1) (by omega) (by omega)) rfl rfl rfl ?_
      refine G_iload dL_isHearth_190 rfl ?_
      refine G_icmp_ne 255 dL_isHearth_192 (by decide) (fun q => absurd rfl q) (fun _ => ?_)
      refine G_aload_n dL_isHearth_195 rfl ?_
      refine G_iload_n dL_isHearth_196 rfl ?_
      refine G_iconst (v := 2) dL_isHearth_197 (by decide) ?_
      refine G_callSW0 (fun _ h => List.mem_append_right _ h) dL_isHearth_198 kL_isHearth_L_hearthOf ⟨rfl, rfl⟩ ⟨Nat.zero_le _, Nat.zero_le _⟩ (hK.2.1 (k) (2) (by omega) (by omega)) rfl rfl rfl ?_
      refine G_iload dL_isHearth_201 rfl ?_
      refine G_icmp_ne 255 dL_isHearth_203 (by decide) (fun q => absurd rfl q) (fun _ => ?_)
      refine G_aload_n dL_isHearth_206 rfl ?_
      refine G_iload_n dL_isHearth_207 rfl ?_
      refine G_iconst (v := 3) dL_isHearth_208 (by decide) ?_
      refine G_callSW0 (fun _ h => List.mem_append_right _ h) dL_isHearth_209 kL_isHearth_L_hearthOf ⟨rfl, rfl⟩ ⟨Nat.zero_le _, Nat.zero_le _⟩ (hK.2.1 (k) (3) (by omega) (by omega)) rfl rfl rfl ?_
      refine G_iload dL_isHearth_212 rfl ?_
      refine G_icmp_ne 255 dL_isHearth_214 (by decide) (fun q => absurd rfl q) (fun _ => ?_)
      refine G_aload_n dL_isHearth_217 rfl ?_
      refine G_iload_n dL_isHearth_218 rfl ?_
      refine G_iconst (v := 4) dL_isHearth_219 (by decide) ?_
      refine G_callSW0 (fun _ h => List.mem_append_right _ h) dL_isHearth_220 kL_isHearth_L_hearthOf ⟨rfl, rfl⟩ ⟨Nat.zero_le _, Nat.zero_le _⟩ (hK.2.1 (k) (4) (by omega) (by omega)) rfl rfl rfl ?_
      refine G_iload dL_isHearth_223 rfl ?_
      refine G_icmp_ne 255 dL_isHearth_225 (by decide) (fun q => absurd rfl q) (fun _ => ?_)
      refine G_aload_n dL_isHearth_228 rfl ?_
      refine G_iload_n dL_isHearth_229 rfl ?_
      refine G_iconst (v := 5) dL_isHearth_230 (by decide) ?_
      refine G_callSW0 (fun _ h => List.mem_append_right _ h) dL_isHearth_231 kL_isHearth_L_hearthOf ⟨rfl, rfl⟩ ⟨Nat.zero_le _, Nat.zero_le _⟩ (hK.2.1 (k) (5) (by omega) (by omega)) rfl rfl rfl ?_
      refine G_iload dL_isHearth_234 rfl ?_
      refine G_icmp_ne 255 dL_isHearth_236 (by decide) (fun q => absurd rfl q) (fun _ => ?_)
      refine G_aload_n dL_isHearth_239 rfl ?_
      refine G_iload_n dL_isHearth_240 rfl ?_
      refine G_bipush (v := 6) dL_isHearth_241 (by decide) ?_
      refine G_callSW0 (fun _ h => List.mem_append_right _ h) dL_isHearth_243 kL_isHearth_L_hearthOf ⟨rfl, rfl⟩ ⟨Nat.zero_le _, Nat.zero_le _⟩ (hK.2.1 (k) (6) (by omega) (by omega)) rfl rfl rfl ?_
      refine G_iload dL_isHearth_246 rfl ?_
      refine G_icmp_ne 255 dL_isHearth_248 (by decide) (fun q => absurd H36 q) (fun _ => ?_)
      refine G_iconst (v := 1) dL_isHearth_251 (by decide) ?_
      refine G_goto 256 dL_isHearth_252 (by decide) ?_
      refine G_istore dL_isHearth_256 rfl (L' := [some (.ref 0), some (.int (nI (k))), some (.ref 12), some (.ref 14), some (.ref 15), some (.ref 16), some (.int (s_tvH f k)), some (.int (f (10 + k))), some (.int (f (15 + k))), some (.int (s_sh f k)), some (.int (s_sh2 f k)), some (.int 1), none]) rfl ?_
      refine G_bipush (v := 7) dL_isHearth_258 (by decide) ?_
      refine G_istore dL_isHearth_260 rfl (L' := [some (.ref 0), some (.int (nI (k))), some (.ref 12), some (.ref 14), some (.ref 15), some (.ref 16), some (.int (s_tvH f k)), some (.int (f (10 + k))), some (.int (f (15 + k))), some (.int (s_sh f k)), some (.int (s_sh2 f k)), some (.int 1), some (.int 7)]) rfl ?_
      refine G_iload dL_isHearth_262 rfl ?_
      refine G_bipush (v := 12) dL_isHearth_264 (by decide) ?_
      refine G_icmp_geN (a := 7) (c := 12) 308 dL_isHearth_266 (by decide) (by omega) (fun c266 => (show False by omega).elim) (fun _ => ?_)
      refine G_iload dL_isHearth_269 rfl ?_
      refine G_if_eqN (a := 1) 299 dL_isHearth_271 (by decide) (by omega) (fun c271 => (show False by omega).elim) (fun _ => ?_)
      refine G_aload_n dL_isHearth_274 rfl ?_
      refine G_iload_n dL_isHearth_275 rfl ?_
      refine G_iload dL_isHearth_276 rfl ?_
      refine G_callSW0 (fun _ h => List.mem_append_right _ h) dL_isHearth_278 kL_isHearth_L_hearthOf ⟨rfl, rfl⟩ ⟨Nat.zero_le _, Nat.zero_le _⟩ (hK.2.1 (k) (7) (by omega) (by omega)) rfl rfl rfl ?_
      refine G_aload_n dL_isHearth_281 rfl ?_
      refine G_bipush (v := 8) dL_isHearth_282 (by decide) ?_
      refine G_iload_n dL_isHearth_284 rfl ?_
      refine G_imulN (a := 8) (c := k) (s := 8 * k) dL_isHearth_285 (by omega) ?_
      refine G_iload dL_isHearth_286 rfl ?_
      refine G_iaddN (a := 8 * k) (c := 7) (s := 7 + 8 * k) dL_isHearth_288 (by omega) ?_
      refine G_iconst (v := 4) dL_isHearth_289 (by decide) ?_
      refine G_isubN (a := 7 + 8 * k) (c := 4) (s := 3 + 8 * k) dL_isHearth_290 (by omega) ?_
      refine G_ialdN (j := 3 + 8 * k) dL_isHearth_291 ((hΨ f).1.2.1) (by omega) ?_
      refine G_eqi (rdH (by omega) (by omega) : _ = f (20 + k)) ?_
      refine G_icmp_ne 299 dL_isHearth_292 (by decide) (fun q => absurd rfl q) (fun _ => ?_)
      refine G_iconst (v := 1) dL_isHearth_295 (by decide) ?_
      refine G_goto 300 dL_isHearth_296 (by decide) ?_
      refine G_istore dL_isHearth_300 rfl (L' := [some (.ref 0), some (.int (nI (k))), some (.ref 12), some (.ref 14), some (.ref 15), some (.ref 16), some (.int (s_tvH f k)), some (.int (f (10 + k))), some (.int (f (15 + k))), some (.int (s_sh f k)), some (.int (s_sh2 f k)), some (.int 1), some (.int 7)]) rfl ?_
      refine G_iincN (a := 7) (s := 8) dL_isHearth_302 rfl (by omega) (L' := [some (.ref 0), some (.int (nI (k))), some (.ref 12), some (.ref 14), some (.ref 15), some (.ref 16), some (.int (s_tvH f k)), some (.int (f (10 + k))), some (.int (f (15 + k))), some (.int (s_sh f k)), some (.int (s_sh2 f k)), some (.int 1), some (.int 8)]) rfl ?_
      refine G_goto 262 dL_isHearth_305 (by decide) ?_
      refine G_iload dL_isHearth_262 rfl ?_
      refine G_bipush (v := 12) dL_isHearth_264 (by decide) ?_
      refine G_icmp_geN (a := 8) (c := 12) 308 dL_isHearth_266 (by decide) (by omega) (fun c266 => (show False by omega).elim) (fun _ => ?_)
      refine G_iload dL_isHearth_269 rfl ?_
      refine G_if_eqN (a := 1) 299 dL_isHearth_271 (by decide) (by omega) (fun c271 => (show False by omega).elim) (fun _ => ?_)
      refine G_aload_n dL_isHearth_274 rfl ?_
      refine G_iload_n dL_isHearth_275 rfl ?_
      refine G_iload dL_isHearth_276 rfl ?_
      refine G_callSW0 (fun _ h => List.mem_append_right _ h) dL_isHearth_278 kL_isHearth_L_hearthOf ⟨rfl, rfl⟩ ⟨Nat.zero_le _, Nat.zero_le _⟩ (hK.2.1 (k) (8) (by omega) (by omega)) rfl rfl rfl ?_
      refine G_aload_n dL_isHearth_281 rfl ?_
      refine G_bipush (v := 8) dL_isHearth_282 (by decide) ?_
      refine G_iload_n dL_isHearth_284 rfl ?_
      refine G_imulN (a := 8) (c := k) (s := 8 * k) dL_isHearth_285 (by omega) ?_
      refine G_iload dL_isHearth_286 rfl ?_
      refine G_iaddN (a := 8 * k) (c := 8) (s := 8 + 8 * k) dL_isHearth_288 (by omega) ?_
      refine G_iconst (v := 4) dL_isHearth_289 (by decide) ?_
      refine G_isubN (a := 8 + 8 * k) (c := 4) (s := 4 + 8 * k) dL_isHearth_290 (by omega) ?_
      refine G_ialdN (j := 4 + 8 * k) dL_isHearth_291 ((hΨ f).1.2.1) (by omega) ?_
      refine G_eqi (rdH (by omega) (by omega) : _ = f (25 + k)) ?_
      refine G_icmp_ne 299 dL_isHearth_292 (by decide) (fun q => absurd rfl q) (fun _ => ?_)
      refine G_iconst (v := 1) dL_isHearth_295 (by decide) ?_
      refine G_goto 300 dL_isHearth_296 (by decide) ?_
      refine G_istore dL_isHearth_300 rfl (L' := [some (.ref 0), some (.int (nI (k))), some (.ref 12), some (.ref 14), some (.ref 15), some (.ref 16), some (.int (s_tvH f k)), some (.int (f (10 + k))), some (.int (f (15 + k))), some (.int (s_sh f k)), some (.int (s_sh2 f k)), some (.int 1), some (.int 8)]) rfl ?_
      refine G_iincN (a := 8) (s := 9) dL_isHearth_302 rfl (by omega) (L' := [some (.ref 0), some (.int (nI (k))), some (.ref 12), some (.ref 14), some (.ref 15), some (.ref 16), some (.int (s_tvH f k)), some (.int (f (10 + k))), some (.int (f (15 + k))), some (.int (s_sh f k)), some (.int (s_sh2 f k)), some (.int 1), some (.int 9)]) rfl ?_
      refine G_goto 262 dL_isHearth_305 (by decide) ?_
      refine G_iload dL_isHearth_262 rfl ?_
      refine G_bipush (v := 12) dL_isHearth_264 (by decide) ?_
      refine G_icmp_geN (a := 9) (c := 12) 308 dL_isHearth_266 (by decide) (by omega) (fun c266 => (show False by omega).elim) (fun _ => ?_)
      refine G_iload dL_isHearth_269 rfl ?_
      refine G_if_eqN (a := 1) 299 dL_isHearth_271 (by decide) (by omega) (fun c271 => (show False by omega).elim) (fun _ => ?_)
      refine G_aload_n dL_isHearth_274 rfl ?_
      refine G_iload_n dL_isHearth_275 rfl ?_
      refine G_iload dL_isHearth_276 rfl ?_
      refine G_callSW0 (fun _ h => List.mem_append_right _ h) dL_isHearth_278 kL_isHearth_L_hearthOf ⟨rfl, rfl⟩ ⟨Nat.zero_le _, Nat.zero_le _⟩ (hK.2.1 (k) (9) (by omega) (by omega)) rfl rfl rfl ?_
      refine G_aload_n dL_isHearth_281 rfl ?_
      refine G_bipush (v := 8) dL_isHearth_282 (by decide) ?_
      refine G_iload_n dL_isHearth_284 rfl ?_
      refine G_imulN (a := 8) (c := k) (s := 8 * k) dL_isHearth_285 (by omega) ?_
      refine G_iload dL_isHearth_286 rfl ?_
      refine G_iaddN (a := 8 * k) (c := 9) (s := 9 + 8 * k) dL_isHearth_288 (by omega) ?_
      refine G_iconst (v := 4) dL_isHearth_289 (by decide) ?_
      refine G_isubN (a := 9 + 8 * k) (c := 4) (s := 5 + 8 * k) dL_isHearth_290 (by omega) ?_
      refine G_ialdN (j := 5 + 8 * k) dL_isHearth_291 ((hΨ f).1.2.1) (by omega) ?_
      refine G_eqi (rdH (by omega) (by omega) : _ = f (30 + k)) ?_
      refine G_icmp_ne 299 dL_isHearth_292 (by decide) (fun q => absurd rfl q) (fun _ => ?_)
      refine G_iconst (v := 1) dL_isHearth_295 (by decide) ?_
      refine G_goto 300 dL_isHearth_296 (by decide) ?_
      refine G_istore dL_isHearth_300 rfl (L' := [some (.ref 0), some (.int (nI (k))), some (.ref 12), some (.ref 14), some (.ref 15), some (.ref 16), some (.int (s_tvH f k)), some (.int (f (10 + k))), some (.int (f (15 + k))), some (.int (s_sh f k)), some (.int (s_sh2 f k)), some (.int 1), some (.int 9)]) rfl ?_
      refine G_iincN (a := 9) (s := 10) dL_isHearth_302 rfl (by omega) (L' := [some (.ref 0), some (.int (nI (k))), some (.ref 12), some (.ref 14), some (.ref 15), some (.ref 16), some (.int (s_tvH f k)), some (.int (f (10 + k))), some (.int (f (15 + k))), some (.int (s_sh f k)), some (.int (s_sh2 f k)), some (.int 1), some (.int 10)]) rfl ?_
      refine G_goto 262 dL_isHearth_305 (by decide) ?_
      refine G_iload dL_isHearth_262 rfl ?_
      refine G_bipush (v := 12) dL_isHearth_264 (by decide) ?_
      refine G_icmp_geN (a := 10) (c := 12) 308 dL_isHearth_266 (by decide) (by omega) (fun c266 => (show False by omega).elim) (fun _ => ?_)
      refine G_iload dL_isHearth_269 rfl ?_
      refine G_if_eqN (a := 1) 299 dL_isHearth_271 (by decide) (by omega) (fun c271 => (show False by omega).elim) (fun _ => ?_)
      refine G_aload_n dL_isHearth_274 rfl ?_
      refine G_iload_n dL_isHearth_275 rfl ?_
      refine G_iload dL_isHearth_276 rfl ?_
      refine G_callSW0 (fun _ h => List.mem_append_right _ h) dL_isHearth_278 kL_isHearth_L_hearthOf ⟨rfl, rfl⟩ ⟨Nat.zero_le _, Nat.zero_le _⟩ (hK.2.1 (k) (10) (by omega) (by omega)) rfl rfl rfl ?_
      refine G_aload_n dL_isHearth_281 rfl ?_
      refine G_bipush (v := 8) dL_isHearth_282 (by decide) ?_
      refine G_iload_n dL_isHearth_284 rfl ?_
      refine G_imulN (a := 8) (c := k) (s := 8 * k) dL_isHearth_285 (by omega) ?_
      refine G_iload dL_isHearth_286 rfl ?_
      refine G_iaddN (a := 8 * k) (c := 10) (s := 10 + 8 * k) dL_isHearth_288 (by omega) ?_
      refine G_iconst (v := 4) dL_isHearth_289 (by decide) ?_
      refine G_isubN (a := 10 + 8 * k) (c := 4) (s := 6 + 8 * k) dL_isHearth_290 (by omega) ?_
      refine G_ialdN (j := 6 + 8 * k) dL_isHearth_291 ((hΨ f).1.2.1) (by omega) ?_
      refine G_eqi (rdH (by omega) (by omega) : _ = f (35 + k)) ?_
      refine G_icmp_ne 299 dL_isHearth_292 (by decide) (fun q => absurd rfl q) (fun _ => ?_)
      refine G_iconst (v := 1) dL_isHearth_295 (by decide) ?_
      refine G_goto 300 dL_isHearth_296 (by decide) ?_
      refine G_istore dL_isHearth_300 rfl (L' := [some (.ref 0), some (.int (nI (k))), some (.ref 12), some (.ref 14), some (.ref 15), some (.ref 16), some (.int (s_tvH f k)), some (.int (f (10 + k))), some (.int (f (15 + k))), some (.int (s_sh f k)), some (.int (s_sh2 f k)), some (.int 1), some (.int 10)]) rfl ?_
      refine G_iincN (a := 10) (s := 11) dL_isHearth_302 rfl (by omega) (L' := [some (.ref 0), some (.int (nI (k))), some (.ref 12), some (.ref 14), some (.ref 15), some (.ref 16), some (.int (s_tvH f k)), some (.int (f (10 + k))), some (.int (f (15 + k))), some (.int (s_sh f k)), some (.int (s_sh2 f k)), some (.int 1), some (.int 11)]) rfl ?_
      refine G_goto 262 dL_isHearth_305 (by decide) ?_
      refine G_iload dL_isHearth_262 rfl ?_
      refine G_bipush (v := 12) dL_isHearth_264 (by decide) ?_
      refine G_icmp_geN (a := 11) (c := 12) 308 dL_isHearth_266 (by decide) (by omega) (fun c266 => (show False by omega).elim) (fun _ => ?_)
      refine G_iload dL_isHearth_269 rfl ?_
      refine G_if_eqN (a := 1) 299 dL_isHearth_271 (by decide) (by omega) (fun c271 => (show False by omega).elim) (fun _ => ?_)
      refine G_aload_n dL_isHearth_274 rfl ?_
      refine G_iload_n dL_isHearth_275 rfl ?_
      refine G_iload dL_isHearth_276 rfl ?_
      refine G_callSW0 (fun _ h => List.mem_append_right _ h) dL_isHearth_278 kL_isHearth_L_hearthOf ⟨rfl, rfl⟩ ⟨Nat.zero_le _, Nat.zero_le _⟩ (hK.2.1 (k) (11) (by omega) (by omega)) rfl rfl rfl ?_
      refine G_aload_n dL_isHearth_281 rfl ?_
      refine G_bipush (v := 8) dL_isHearth_282 (by decide) ?_
      refine G_iload_n dL_isHearth_284 rfl ?_
      refine G_imulN (a := 8) (c := k) (s := 8 * k) dL_isHearth_285 (by omega) ?_
      refine G_iload dL_isHearth_286 rfl ?_
      refine G_iaddN (a := 8 * k) (c := 11) (s := 11 + 8 * k) dL_isHearth_288 (by omega) ?_
      refine G_iconst (v := 4) dL_isHearth_289 (by decide) ?_
      refine G_isubN (a := 11 + 8 * k) (c := 4) (s := 7 + 8 * k) dL_isHearth_290 (by omega) ?_
      refine G_ialdN (j := 7 + 8 * k) dL_isHearth_291 ((hΨ f).1.2.1) (by omega) ?_
      refine G_eqi (rdH (by omega) (by omega) : _ = f (40 + k)) ?_
      refine G_icmp_ne 299 dL_isHearth_292 (by decide) (fun q => absurd rfl q) (fun _ => ?_)
      refine G_iconst (v := 1) dL_isHearth_295 (by decide) ?_
      refine G_goto 300 dL_isHearth_296 (by decide) ?_
      refine G_istore dL_isHearth_300 rfl (L' := [some (.ref 0), some (.int (nI (k))), some (.ref 12), some (.ref 14), some (.ref 15), some (.ref 16), some (.int (s_tvH f k)), some (.int (f (10 + k))), some (.int (f (15 + k))), some (.int (s_sh f k)), some (.int (s_sh2 f k)), some (.int 1), some (.int 11)]) rfl ?_
      refine G_iincN (a := 11) (s := 12) dL_isHearth_302 rfl (by omega) (L' := [some (.ref 0), some (.int (nI (k))), some (.ref 12), some (.ref 14), some (.ref 15), some (.ref 16), some (.int (s_tvH f k)), some (.int (f (10 + k))), some (.int (f (15 + k))), some (.int (s_sh f k)), some (.int (s_sh2 f k)), some (.int 1), some (.int 12)]) rfl ?_
      refine G_goto 262 dL_isHearth_305 (by decide) ?_
      refine G_iload dL_isHearth_262 rfl ?_
      refine G_bipush (v := 12) dL_isHearth_264 (by decide) ?_
      refine G_icmp_geN (a := 12) (c := 12) 308 dL_isHearth_266 (by decide) (by omega) (fun _ => ?_) (fun c266 => (show False by omega).elim)
      refine G_iload dL_isHearth_308 rfl ?_
      exact G_iret dL_isHearth_310 ⟨Nat.zero_le _, Nat.zero_le _⟩ (hX)
    refine G_iload dL_isHearth_89 rfl ?_
    refine G_iload dL_isHearth_91 rfl ?_
    refine G_iload dL_isHearth_93 rfl ?_
    refine G_iadd dL_isHearth_95 ?_
    refine G_icmp_le 110 dL_isHearth_96 (by decide) (fun c96 => ?_) (fun c96 => ?_)
    · refine G_iconst (v := 0) dL_isHearth_110 (by decide) ?_
      exact K111 _ (S2le c96)
    · refine G_iload dL_isHearth_99 rfl ?_
      refine G_iload dL_isHearth_101 rfl ?_
      refine G_isub dL_isHearth_103 ?_
      refine G_iload dL_isHearth_104 rfl ?_
      refine G_isub dL_isHearth_106 ?_
      refine G_goto 111 dL_isHearth_107 (by decide) ?_
      exact K111 _ (S2gt c96)
  refine G_iload dL_isHearth_71 rfl ?_
  refine G_iload dL_isHearth_73 rfl ?_
  refine G_icmp_le 86 dL_isHearth_75 (by decide) (fun c75 => ?_) (fun c75 => ?_)
  · refine G_iconst (v := 0) dL_isHearth_86 (by decide) ?_
    exact K87 _ (S1le c75)
  · refine G_iload dL_isHearth_78 rfl ?_
    refine G_iload dL_isHearth_80 rfl ?_
    refine G_isub dL_isHearth_82 ?_
    refine G_goto 87 dL_isHearth_83 (by decide) ?_
    exact K87 _ (S1gt c75)
end LF

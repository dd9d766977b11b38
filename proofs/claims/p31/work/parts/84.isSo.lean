/-! WHAT THE LAW LOOKS AT: all of it -/
section LH
variable {l : Launch} {Ψ : mj_S → mj_W}
abbrev rmL_isSo : Room := { frames := 11, cells := 0, slots := 0, locals := 221 }
abbrev ML_isSo : mj_M := (RL, 15, wsL_isSo ++ ctN, rmL_isSo, false, none)
theorem kL_isSo_L_low : mj_cwS ML_isSo 107 yL_low wsL_low rmL_low 2 := ⟨_, _, _, _, fun w h => ⟨List.mem_append_left _ (gL_isSo_L_low w h).1, (gL_isSo_L_low w h).2⟩, rfl, by decide +kernel, by decide⟩
theorem kL_isSo_L_bankOf : mj_cwSW ML_isSo 110 yL_bankOf [(0, 6, 7, 16), (0, 6, 11, 18)] wsL_bankOf r0L_bankOf 3 := ⟨_, _, _, _, fun w h => ⟨List.mem_append_left _ (gL_isSo_L_bankOf w h).1, (gL_isSo_L_bankOf w h).2⟩, rfl, by decide +kernel, by decide⟩
theorem kL_isSo_L_commons : mj_cwS ML_isSo 93 yL_commons wsL_commons rmL_commons 2 := ⟨_, _, _, _, fun w h => ⟨List.mem_append_left _ (gL_isSo_L_commons w h).1, (gL_isSo_L_commons w h).2⟩, rfl, by decide +kernel, by decide⟩
theorem kL_isSo_L_workers : mj_cwS ML_isSo 89 yL_workers wsL_workers rmL_workers 3 := ⟨_, _, _, _, fun w h => ⟨List.mem_append_left _ (gL_isSo_L_workers w h).1, (gL_isSo_L_workers w h).2⟩, rfl, by decide +kernel, by decide⟩
theorem kL_isSo_L_plot : mj_cwSW ML_isSo 112 yL_plot [(0, 7, 8, 16), (0, 7, 13, 18)] wsL_plot r0L_plot 4 := ⟨_, _, _, _, fun w h => ⟨List.mem_append_left _ (gL_isSo_L_plot w h).1, (gL_isSo_L_plot w h).2⟩, rfl, by decide +kernel, by decide⟩
theorem kL_isSo_L_whyNot : mj_cwSW ML_isSo 115 yL_whyNot [(0, 7, 8, 16)] wsL_whyNot r0L_whyNot 4 := ⟨_, _, _, _, fun w h => ⟨List.mem_append_left _ (gL_isSo_L_whyNot w h).1, (gL_isSo_L_whyNot w h).2⟩, rfl, by decide +kernel, by decide⟩
theorem kL_isSo_L_why : mj_cwS ML_isSo 117 yL_why wsL_why rmL_why 5 := ⟨_, _, _, _, fun w h => ⟨List.mem_append_left _ (gL_isSo_L_why w h).1, (gL_isSo_L_why w h).2⟩, rfl, by decide +kernel, by decide⟩
theorem kL_isSo_L_cutter : mj_cwSW ML_isSo 121 yL_cutter [(0, 6, 7, 16), (0, 6, 11, 18)] wsL_cutter r0L_cutter 3 := ⟨_, _, _, _, fun w h => ⟨List.mem_append_left _ (gL_isSo_L_cutter w h).1, (gL_isSo_L_cutter w h).2⟩, rfl, by decide +kernel, by decide⟩
theorem kL_isSo_L_rain : mj_cwSW ML_isSo 123 yL_rain [(0, 5, 6, 18)] wsL_rain r0L_rain 2 := ⟨_, _, _, _, fun w h => ⟨List.mem_append_left _ (gL_isSo_L_rain w h).1, (gL_isSo_L_rain w h).2⟩, rfl, by decide +kernel, by decide⟩
theorem kL_isSo_L_isHearth : mj_cwS ML_isSo 125 yL_isHearth wsL_isHearth rmL_isHearth 6 := ⟨_, _, _, _, fun w h => ⟨List.mem_append_left _ (gL_isSo_L_isHearth w h).1, (gL_isSo_L_isHearth w h).2⟩, rfl, by decide +kernel, by decide⟩
theorem kL_isSo_L_areCounts : mj_cwS ML_isSo 129 yL_areCounts wsL_areCounts rmL_areCounts 7 := ⟨_, _, _, _, fun w h => ⟨List.mem_append_left _ (gL_isSo_L_areCounts w h).1, (gL_isSo_L_areCounts w h).2⟩, rfl, by decide +kernel, by decide⟩
theorem lq_lie (hΨ : HV Ψ) {X : mj_R} {f : mj_S} {x : Int32} {b k e : Nat} (hb : b < 4) : ∀ (d i : Nat) (z : Int32), i + d = 5 → (∀ u13 : Option Value, GG l cL_isSo ML_isSo false X 81 [some (.ref 0), some (.int x), some (.ref 11), some (.ref 12), some (.ref 13), some (.ref 14), some (.ref 15), some (.ref 16), some (.ref 17), some (.int (nI (b))), some (.int (nI (k))), some (.int (nI (e))), some (.int (itr (fun h a => a + s_tv f (b + 4 * h)) d i z)), u13, none] [] (Ψ f) 0 0) → GG l cL_isSo ML_isSo false X 32 [some (.ref 0), some (.int x), some (.ref 11), some (.ref 12), some (.ref 13), some (.ref 14), some (.ref 15), some (.ref 16), some (.ref 17), some (.int (nI (b))), some (.int (nI (k))), some (.int (nI (e))), some (.int z), some (.int (nI (i))), none] [] (Ψ f) 0 0
  | 0, i, z, hi, K => by
    refine G_iload dL_isSo_32 rfl ?_
    refine G_iconst (v := 5) dL_isSo_34 (by decide) ?_
    refine G_icmp_geN (a := i) (c := 5) 81 dL_isSo_35 (by decide) (by omega) (fun c35 => ?_) (fun c35 => ?_)
    · exact K _
    · exact (show False by omega).elim
  | d + 1, i, z, hi, K => by
    refine G_iload dL_isSo_32 rfl ?_
    refine G_iconst (v := 5) dL_isSo_34 (by decide) ?_
    refine G_icmp_geN (a := i) (c := 5) 81 dL_isSo_35 (by decide) (by omega) (fun c35 => ?_) (fun c35 => ?_)
    · exact (show False by omega).elim
    · refine G_iload dL_isSo_38 rfl ?_
      refine G_aload dL_isSo_40 rfl ?_
      refine G_iconst (v := 4) dL_isSo_42 (by decide) ?_
      refine G_iload dL_isSo_43 rfl ?_
      refine G_imulN (a := 4) (c := i) (s := 4 * i) dL_isSo_45 (by omega) ?_
      refine G_iload dL_isSo_46 rfl ?_
      refine G_iaddN (a := 4 * i) (c := b) (s := b + 4 * i) dL_isSo_48 (by omega) ?_
      refine G_ialdN (j := b + 4 * i) dL_isSo_49 ((hΨ f).1.2.2.2.1) (by omega) ?_
      refine G_eqi (rdB (by omega) (by omega) : _ = f (73 + b + 4 * i)) ?_
      refine G_aload dL_isSo_50 rfl ?_
      refine G_iconst (v := 4) dL_isSo_52 (by decide) ?_
      refine G_iload dL_isSo_53 rfl ?_
      refine G_imulN (a := 4) (c := i) (s := 4 * i) dL_isSo_55 (by omega) ?_
      refine G_iload dL_isSo_56 rfl ?_
      refine G_iaddN (a := 4 * i) (c := b) (s := b + 4 * i) dL_isSo_58 (by omega) ?_
      refine G_ialdN (j := b + 4 * i) dL_isSo_59 ((hΨ f).1.2.2.2.2.1) (by omega) ?_
      refine G_eqi (rdB (by omega) (by omega) : _ = f (93 + b + 4 * i)) ?_
      refine G_iadd dL_isSo_60 ?_
      refine G_aload dL_isSo_61 rfl ?_
      refine G_iconst (v := 4) dL_isSo_63 (by decide) ?_
      refine G_iload dL_isSo_64 rfl ?_
      refine G_imulN (a := 4) (c := i) (s := 4 * i) dL_isSo_66 (by omega) ?_
      refine G_iload dL_isSo_67 rfl ?_
      refine G_iaddN (a := 4 * i) (c := b) (s := b + 4 * i) dL_isSo_69 (by omega) ?_
      refine G_ialdN (j := b + 4 * i) dL_isSo_70 ((hΨ f).1.2.2.2.2.2.1) (by omega) ?_
      refine G_eqi (rdB (by omega) (by omega) : _ = f (113 + b + 4 * i)) ?_
      refine G_iadd dL_isSo_71 ?_
      refine G_iadd dL_isSo_72 ?_
      refine G_istore dL_isSo_73 rfl (L' := [some (.ref 0), some (.int x), some (.ref 11), some (.ref 12), some (.ref 13), some (.ref 14), some (.ref 15), some (.ref 16), some (.ref 17), some (.int (nI (b))), some (.int (nI (k))), some (.int (nI (e))), some (.int (z + (((f (73 + b + 4 * i)) + (f (93 + b + 4 * i))) + (f (113 + b + 4 * i))))), some (.int (nI (i))), none]) rfl ?_
      refine G_iincN (a := i) (s := i + 1) dL_isSo_75 rfl (by omega) (L' := [some (.ref 0), some (.int x), some (.ref 11), some (.ref 12), some (.ref 13), some (.ref 14), some (.ref 15), some (.ref 16), some (.ref 17), some (.int (nI (b))), some (.int (nI (k))), some (.int (nI (e))), some (.int (z + (((f (73 + b + 4 * i)) + (f (93 + b + 4 * i))) + (f (113 + b + 4 * i))))), some (.int (nI (i + 1))), none]) rfl ?_
      refine G_goto 32 dL_isSo_78 (by decide) ?_
      refine lq_lie hΨ hb d (i + 1) (z + (((f (73 + b + 4 * i)) + (f (93 + b + 4 * i))) + (f (113 + b + 4 * i)))) (by omega) (fun u13 => ?_)
      have K1 := K u13
      simp only [itr_s] at K1
      rw [s_tv, show 73 + (b + 4 * i) = 73 + b + 4 * i by omega, show 93 + (b + 4 * i) = 93 + b + 4 * i by omega, show 113 + (b + 4 * i) = 113 + b + 4 * i by omega] at K1
      exact K1
theorem lm_isSo (hΨ : HV Ψ) {f : mj_S} (hK : LK l f (Ψ f)) {D : Nat} (ho : oA f D) (hv : vt f) {B : Nat} (hJ : okJ f B) (hB : B < 500000000) {x : Int32} : MCE l yL_isSo wsL_isSo rmL_isSo ctN false [.ref 0, .int x, .ref 11, .ref 12, .ref 13, .ref 14, .ref 15, .ref 16, .ref 17] (Ψ f) (some (.int 1)) (Ψ f) := by
  obtain ⟨sg, hsg, esg⟩ := ho.2.2.1
  refine mj_MCE (cc := cL_isSo) (nl := 15) (ret := (some .boolean)) ctN_vm (plainFor_of_name (by decide)) rfl (⟨_, rfl, rfl⟩) (Nat.le_of_ble_eq_true rfl) ?_
  show GG l cL_isSo ML_isSo false (.inl (some (.int 1), Ψ f)) 0 [some (.ref 0), some (.int x), some (.ref 11), some (.ref 12), some (.ref 13), some (.ref 14), some (.ref 15), some (.ref 16), some (.ref 17), none, none, none, none, none, none] [] (Ψ f) 0 0
  obtain ⟨X, hX⟩ : ∃ X : mj_R, X = .inl (some (.int 1), Ψ f) := ⟨_, rfl⟩
  rw [← hX]
  refine G_iload_n dL_isSo_0 rfl ?_
  refine G_iconst (v := 4) dL_isSo_1 (by decide) ?_
  refine G_callSi dL_isSo_2 kL_isSo_L_low ⟨rfl, rfl⟩ ⟨Nat.zero_le _, Nat.zero_le _⟩ (lm_low (n := 4) (by omega)) rfl rfl rfl ?_
  obtain ⟨b, hb, eb⟩ : ∃ j, j < 4 ∧ lowN x 4 = j := ⟨_, lowN_lt _ (by decide), rfl⟩
  refine G_eqi (congrArg nI eb) ?_
  refine G_istore dL_isSo_5 rfl (L' := [some (.ref 0), some (.int x), some (.ref 11), some (.ref 12), some (.ref 13), some (.ref 14), some (.ref 15), some (.ref 16), some (.ref 17), some (.int (nI (b))), none, none, none, none, none]) rfl ?_
  refine G_iload_n dL_isSo_7 rfl ?_
  refine G_iconst (v := 2) dL_isSo_8 (by decide) ?_
  refine G_ishr dL_isSo_9 ?_
  refine G_iconst (v := 5) dL_isSo_10 (by decide) ?_
  refine G_callSi dL_isSo_11 kL_isSo_L_low ⟨rfl, rfl⟩ ⟨Nat.zero_le _, Nat.zero_le _⟩ (lm_low (n := 5) (by omega)) rfl rfl rfl ?_
  obtain ⟨k, hk, ek⟩ : ∃ j, j < 5 ∧ lowN (x >>> ((2 : Int32) &&& 31)) 5 = j := ⟨_, lowN_lt _ (by decide), rfl⟩
  refine G_eqi (congrArg nI ek) ?_
  refine G_istore dL_isSo_14 rfl (L' := [some (.ref 0), some (.int x), some (.ref 11), some (.ref 12), some (.ref 13), some (.ref 14), some (.ref 15), some (.ref 16), some (.ref 17), some (.int (nI (b))), some (.int (nI (k))), none, none, none, none]) rfl ?_
  refine G_iload_n dL_isSo_16 rfl ?_
  refine G_iconst (v := 5) dL_isSo_17 (by decide) ?_
  refine G_ishr dL_isSo_18 ?_
  refine G_bipush (v := 6) dL_isSo_19 (by decide) ?_
  refine G_callSi dL_isSo_21 kL_isSo_L_low ⟨rfl, rfl⟩ ⟨Nat.zero_le _, Nat.zero_le _⟩ (lm_low (n := 6) (by omega)) rfl rfl rfl ?_
  obtain ⟨e, he, ee⟩ : ∃ j, j < 6 ∧ lowN (x >>> ((5 : Int32) &&& 31)) 6 = j := ⟨_, lowN_lt _ (by decide), rfl⟩
  refine G_eqi (congrArg nI ee) ?_
  refine G_istore dL_isSo_24 rfl (L' := [some (.ref 0), some (.int x), some (.ref 11), some (.ref 12), some (.ref 13), some (.ref 14), some (.ref 15), some (.ref 16), some (.ref 17), some (.int (nI (b))), some (.int (nI (k))), some (.int (nI (e))), none, none, none]) rfl ?_
  refine G_iconst (v := 0) dL_isSo_26 (by decide) ?_
  refine G_istore dL_isSo_27 rfl (L' := [some (.ref 0), some (.int x), some (.ref 11), some (.ref 12), some (.ref 13), some (.ref 14), some (.ref 15), some (.ref 16), some (.ref 17), some (.int (nI (b))), some (.int (nI (k))), some (.int (nI (e))), some (.int 0), none, none]) rfl ?_
  refine G_iconst (v := 0) dL_isSo_29 (by decide) ?_
  refine G_istore dL_isSo_30 rfl (L' := [some (.ref 0), some (.int x), some (.ref 11), some (.ref 12), some (.ref 13), some (.ref 14), some (.ref 15), some (.ref 16), some (.ref 17), some (.int (nI (b))), some (.int (nI (k))), some (.int (nI (e))), some (.int 0), some (.int 0), none]) rfl ?_
  refine lq_lie hΨ hb 5 0 0 rfl (fun u13 => ?_)
  show GG l cL_isSo ML_isSo false X 81 [some (.ref 0), some (.int x), some (.ref 11), some (.ref 12), some (.ref 13), some (.ref 14), some (.ref 15), some (.ref 16), some (.ref 17), some (.int (nI (b))), some (.int (nI (k))), some (.int (nI (e))), some (.int (s_tvB f b)), u13, none] [] (Ψ f) 0 0
  refine G_aload_n dL_isSo_81 rfl ?_
  refine G_iload dL_isSo_82 rfl ?_
  refine G_iconst (v := 0) dL_isSo_84 (by decide) ?_
  refine G_callSW0 (fun _ h => List.mem_append_right _ h) dL_isSo_85 kL_isSo_L_bankOf ⟨rfl, rfl⟩ ⟨Nat.zero_le _, Nat.zero_le _⟩ (hK.2.2.1 (b) (0) (by omega) (by omega)) rfl rfl rfl ?_
  refine G_aload_n dL_isSo_88 rfl ?_
  refine G_iconst (v := 5) dL_isSo_89 (by decide) ?_
  refine G_iload dL_isSo_90 rfl ?_
  refine G_iaddN (a := 5) (c := b) (s := 5 + b) dL_isSo_92 (by omega) ?_
  refine G_ialdN (j := 5 + b) dL_isSo_93 ((hΨ f).1.1) (by omega) ?_
  refine G_eqi (rdQh (by omega) (by omega) : _ = f (45 + b)) ?_
  refine G_icmp_ne 165 dL_isSo_94 (by decide) (fun q => absurd rfl q) (fun _ => ?_)
  refine G_aload_n dL_isSo_97 rfl ?_
  refine G_iload dL_isSo_98 rfl ?_
  refine G_iconst (v := 1) dL_isSo_100 (by decide) ?_
  refine G_callSW0 (fun _ h => List.mem_append_right _ h) dL_isSo_101 kL_isSo_L_bankOf ⟨rfl, rfl⟩ ⟨Nat.zero_le _, Nat.zero_le _⟩ (hK.2.2.1 (b) (1) (by omega) (by omega)) rfl rfl rfl ?_
  refine G_aload_n dL_isSo_104 rfl ?_
  refine G_bipush (v := 9) dL_isSo_105 (by decide) ?_
  refine G_iload dL_isSo_107 rfl ?_
  refine G_iaddN (a := 9) (c := b) (s := 9 + b) dL_isSo_109 (by omega) ?_
  refine G_ialdN (j := 9 + b) dL_isSo_110 ((hΨ f).1.1) (by omega) ?_
  refine G_eqi (rdQh (by omega) (by omega) : _ = f (49 + b)) ?_
  refine G_icmp_ne 165 dL_isSo_111 (by decide) (fun q => absurd rfl q) (fun _ => ?_)
  refine G_aload_n dL_isSo_114 rfl ?_
  refine G_iload dL_isSo_115 rfl ?_
  refine G_iconst (v := 2) dL_isSo_117 (by decide) ?_
  refine G_callSW0 (fun _ h => List.mem_append_right _ h) dL_isSo_118 kL_isSo_L_bankOf ⟨rfl, rfl⟩ ⟨Nat.zero_le _, Nat.zero_le _⟩ (hK.2.2.1 (b) (2) (by omega) (by omega)) rfl rfl rfl ?_
  refine G_iload dL_isSo_121 rfl ?_
  refine G_aload dL_isSo_123 rfl ?_
  refine G_callSi dL_isSo_125 kL_isSo_L_commons ⟨rfl, rfl⟩ ⟨Nat.zero_le _, Nat.zero_le _⟩ (lm_commons hΨ (b := b) (by omega)) rfl rfl rfl ?_
  refine G_icmp_ne 165 dL_isSo_128 (by decide) (fun q => absurd rfl q) (fun _ => ?_)
  refine G_aload_n dL_isSo_131 rfl ?_
  refine G_iload dL_isSo_132 rfl ?_
  refine G_iconst (v := 3) dL_isSo_134 (by decide) ?_
  refine G_callSW0 (fun _ h => List.mem_append_right _ h) dL_isSo_135 kL_isSo_L_bankOf ⟨rfl, rfl⟩ ⟨Nat.zero_le _, Nat.zero_le _⟩ (hK.2.2.1 (b) (3) (by omega) (by omega)) rfl rfl rfl ?_
  refine G_iconst (v := (-1)) dL_isSo_138 (by decide) ?_
  refine G_iload dL_isSo_139 rfl ?_
  refine G_aload dL_isSo_141 rfl ?_
  refine G_callSi dL_isSo_143 kL_isSo_L_workers ⟨rfl, rfl⟩ ⟨Nat.zero_le _, Nat.zero_le _⟩ (lm_workers hΨ) rfl rfl rfl ?_
  refine G_icmp_ne 165 dL_isSo_146 (by decide) (fun q => absurd (wk_cntB ho hb).symm q) (fun _ => ?_)
  refine G_aload_n dL_isSo_149 rfl ?_
  refine G_iload dL_isSo_150 rfl ?_
  refine G_iconst (v := 4) dL_isSo_152 (by decide) ?_
  refine G_callSW0 (fun _ h => List.mem_append_right _ h) dL_isSo_153 kL_isSo_L_bankOf ⟨rfl, rfl⟩ ⟨Nat.zero_le _, Nat.zero_le _⟩ (hK.2.2.1 (b) (4) (by omega) (by omega)) rfl rfl rfl ?_
  refine G_iload dL_isSo_156 rfl ?_
  refine G_icmp_ne 165 dL_isSo_158 (by decide) (fun q => absurd rfl q) (fun _ => ?_)
  refine G_iconst (v := 1) dL_isSo_161 (by decide) ?_
  refine G_goto 166 dL_isSo_162 (by decide) ?_
  refine G_istore dL_isSo_166 rfl (L' := [some (.ref 0), some (.int x), some (.ref 11), some (.ref 12), some (.ref 13), some (.ref 14), some (.ref 15), some (.ref 16), some (.ref 17), some (.int (nI (b))), some (.int (nI (k))), some (.int (nI (e))), some (.int (s_tvB f b)), some (.int 1), none]) rfl ?_
  refine G_iload dL_isSo_168 rfl ?_
  refine G_if_eqN (a := 1) 311 dL_isSo_170 (by decide) (by omega) (fun c170 => (show False by omega).elim) (fun _ => ?_)
  refine G_aload_n dL_isSo_173 rfl ?_
  refine G_iload dL_isSo_174 rfl ?_
  refine G_iload dL_isSo_176 rfl ?_
  refine G_iconst (v := 0) dL_isSo_178 (by decide) ?_
  refine G_callSW0 (fun _ h => List.mem_append_right _ h) dL_isSo_179 kL_isSo_L_plot ⟨rfl, rfl⟩ ⟨Nat.zero_le _, Nat.zero_le _⟩ (hK.2.2.2.1 (k) (b) (0) (by omega) (by omega) (by omega)) rfl rfl rfl ?_
  refine G_aload dL_isSo_182 rfl ?_
  refine G_iconst (v := 4) dL_isSo_184 (by decide) ?_
  refine G_iload dL_isSo_185 rfl ?_
  refine G_imulN (a := 4) (c := k) (s := 4 * k) dL_isSo_187 (by omega) ?_
  refine G_iload dL_isSo_188 rfl ?_
  refine G_iaddN (a := 4 * k) (c := b) (s := b + 4 * k) dL_isSo_190 (by omega) ?_
  refine G_ialdN (j := b + 4 * k) dL_isSo_191 ((hΨ f).1.2.2.1) (by omega) ?_
  refine G_eqi (rdB (by omega) (by omega) : _ = f (53 + b + 4 * k)) ?_
  refine G_icmp_ne 311 dL_isSo_192 (by decide) (fun q => absurd rfl q) (fun _ => ?_)
  refine G_aload_n dL_isSo_195 rfl ?_
  refine G_iload dL_isSo_196 rfl ?_
  refine G_iload dL_isSo_198 rfl ?_
  refine G_iconst (v := 1) dL_isSo_200 (by decide) ?_
  refine G_callSW0 (fun _ h => List.mem_append_right _ h) dL_isSo_201 kL_isSo_L_plot ⟨rfl, rfl⟩ ⟨Nat.zero_le _, Nat.zero_le _⟩ (hK.2.2.2.1 (k) (b) (1) (by omega) (by omega) (by omega)) rfl rfl rfl ?_
  refine G_aload dL_isSo_204 rfl ?_
  refine G_iconst (v := 4) dL_isSo_206 (by decide) ?_
  refine G_iload dL_isSo_207 rfl ?_
  refine G_imulN (a := 4) (c := k) (s := 4 * k) dL_isSo_209 (by omega) ?_
  refine G_iload dL_isSo_210 rfl ?_
  refine G_iaddN (a := 4 * k) (c := b) (s := b + 4 * k) dL_isSo_212 (by omega) ?_
  refine G_ialdN (j := b + 4 * k) dL_isSo_213 ((hΨ f).1.2.2.2.1) (by omega) ?_
  refine G_eqi (rdB (by omega) (by omega) : _ = f (73 + b + 4 * k)) ?_
  refine G_icmp_ne 311 dL_isSo_214 (by decide) (fun q => absurd rfl q) (fun _ => ?_)
  refine G_aload_n dL_isSo_217 rfl ?_
  refine G_iload dL_isSo_218 rfl ?_
  refine G_iload dL_isSo_220 rfl ?_
  refine G_iconst (v := 2) dL_isSo_222 (by decide) ?_
  refine G_callSW0 (fun _ h => List.mem_append_right _ h) dL_isSo_223 kL_isSo_L_plot ⟨rfl, rfl⟩ ⟨Nat.zero_le _, Nat.zero_le _⟩ (hK.2.2.2.1 (k) (b) (2) (by omega) (by omega) (by omega)) rfl rfl rfl ?_
  refine G_aload dL_isSo_226 rfl ?_
  refine G_iconst (v := 4) dL_isSo_228 (by decide) ?_
  refine G_iload dL_isSo_229 rfl ?_
  refine G_imulN (a := 4) (c := k) (s := 4 * k) dL_isSo_231 (by omega) ?_
  refine G_iload dL_isSo_232 rfl ?_
  refine G_iaddN (a := 4 * k) (c := b) (s := b + 4 * k) dL_isSo_234 (by omega) ?_
  refine G_ialdN (j := b + 4 * k) dL_isSo_235 ((hΨ f).1.2.2.2.2.1) (by omega) ?_
  refine G_eqi (rdB (by omega) (by omega) : _ = f (93 + b + 4 * k)) ?_
  refine G_icmp_ne 311 dL_isSo_236 (by decide) (fun q => absurd rfl q) (fun _ => ?_)
  refine G_aload_n dL_isSo_239 rfl ?_
  refine G_iload dL_isSo_240 rfl ?_
  refine G_iload dL_isSo_242 rfl ?_
  refine G_iconst (v := 3) dL_isSo_244 (by decide) ?_
  refine G_callSW0 (fun _ h => List.mem_append_right _ h) dL_isSo_245 kL_isSo_L_plot ⟨rfl, rfl⟩ ⟨Nat.zero_le _, Nat.zero_le _⟩ (hK.2.2.2.1 (k) (b) (3) (by omega) (by omega) (by omega)) rfl rfl rfl ?_
  refine G_aload dL_isSo_248 rfl ?_
  refine G_iconst (v := 4) dL_isSo_250 (by decide) ?_
  refine G_iload dL_isSo_251 rfl ?_
  refine G_imulN (a := 4) (c := k) (s := 4 * k) dL_isSo_253 (by omega) ?_
  refine G_iload dL_isSo_254 rfl ?_
  refine G_iaddN (a := 4 * k) (c := b) (s := b + 4 * k) dL_isSo_256 (by omega) ?_
  refine G_ialdN (j := b + 4 * k) dL_isSo_257 ((hΨ f).1.2.2.2.2.2.1) (by omega) ?_
  refine G_eqi (rdB (by omega) (by omega) : _ = f (113 + b + 4 * k)) ?_
  refine G_icmp_ne 311 dL_isSo_258 (by decide) (fun q => absurd rfl q) (fun _ => ?_)
  refine G_aload_n dL_isSo_261 rfl ?_
  refine G_iload dL_isSo_262 rfl ?_
  refine G_iload dL_isSo_264 rfl ?_
  refine G_iconst (v := 4) dL_isSo_266 (by decide) ?_
  refine G_callSW0 (fun _ h => List.mem_append_right _ h) dL_isSo_267 kL_isSo_L_plot ⟨rfl, rfl⟩ ⟨Nat.zero_le _, Nat.zero_le _⟩ (hK.2.2.2.1 (k) (b) (4) (by omega) (by omega) (by omega)) rfl rfl rfl ?_
  refine G_iload dL_isSo_270 rfl ?_
  refine G_iload dL_isSo_272 rfl ?_
  refine G_aload dL_isSo_274 rfl ?_
  refine G_callSi dL_isSo_276 kL_isSo_L_workers ⟨rfl, rfl⟩ ⟨Nat.zero_le _, Nat.zero_le _⟩ (lm_workers hΨ) rfl rfl rfl ?_
  refine G_icmp_ne 311 dL_isSo_279 (by decide) (fun q => absurd (wk_cnt hk hb).symm q) (fun _ => ?_)
  refine G_aload_n dL_isSo_282 rfl ?_
  refine G_iload dL_isSo_283 rfl ?_
  refine G_iload dL_isSo_285 rfl ?_
  refine G_iload dL_isSo_287 rfl ?_
  refine G_callSW0 (fun _ h => List.mem_append_right _ h) dL_isSo_289 kL_isSo_L_whyNot ⟨rfl, rfl⟩ ⟨Nat.zero_le _, Nat.zero_le _⟩ (hK.2.2.2.2.2.2.1 (e) (k) (b) (by omega) (by omega) (by omega)) rfl rfl rfl ?_
  refine G_iload dL_isSo_292 rfl ?_
  refine G_iload dL_isSo_294 rfl ?_
  refine G_aload_n dL_isSo_296 rfl ?_
  refine G_aload dL_isSo_297 rfl ?_
  refine G_aload dL_isSo_299 rfl ?_
  refine G_callSi dL_isSo_301 kL_isSo_L_why ⟨rfl, rfl⟩ ⟨Nat.zero_le _, Nat.zero_le _⟩ (lm_why hΨ (h := k) (b := b) ⟨by omega, by omega⟩ (wk_cnt (by omega) (by omega))) rfl rfl rfl ?_
  refine G_icmp_ne 311 dL_isSo_304 (by decide) (fun q => absurd rfl q) (fun _ => ?_)
  refine G_iconst (v := 1) dL_isSo_307 (by decide) ?_
  refine G_goto 312 dL_isSo_308 (by decide) ?_
  refine G_istore dL_isSo_312 rfl (L' := [some (.ref 0), some (.int x), some (.ref 11), some (.ref 12), some (.ref 13), some (.ref 14), some (.ref 15), some (.ref 16), some (.ref 17), some (.int (nI (b))), some (.int (nI (k))), some (.int (nI (e))), some (.int (s_tvB f b)), some (.int 1), none]) rfl ?_
  refine G_iconst (v := 0) dL_isSo_314 (by decide) ?_
  refine G_istore dL_isSo_315 rfl (L' := [some (.ref 0), some (.int x), some (.ref 11), some (.ref 12), some (.ref 13), some (.ref 14), some (.ref 15), some (.ref 16), some (.ref 17), some (.int (nI (b))), some (.int (nI (k))), some (.int (nI (e))), some (.int (s_tvB f b)), some (.int 1), some (.int 0)]) rfl ?_
  refine G_iload dL_isSo_317 rfl ?_
  refine G_iconst (v := 4) dL_isSo_319 (by decide) ?_
  refine G_icmp_geN (a := 0) (c := 4) 362 dL_isSo_320 (by decide) (by omega) (fun c320 => (show False by omega).elim) (fun _ => ?_)
  refine G_iload dL_isSo_323 rfl ?_
  refine G_if_eqN (a := 1) 353 dL_isSo_325 (by decide) (by omega) (fun c325 => (show False by omega).elim) (fun _ => ?_)
  refine G_aload_n dL_isSo_328 rfl ?_
  refine G_iload dL_isSo_329 rfl ?_
  refine G_iload dL_isSo_331 rfl ?_
  refine G_callSW0 (fun _ h => List.mem_append_right _ h) dL_isSo_333 kL_isSo_L_cutter ⟨rfl, rfl⟩ ⟨Nat.zero_le _, Nat.zero_le _⟩ (hK.2.2.2.2.1 (e) (0) (by omega) (by omega)) rfl rfl rfl ?_
  refine G_aload dL_isSo_336 rfl ?_
  refine G_iconst (v := 4) dL_isSo_338 (by decide) ?_
  refine G_iload dL_isSo_339 rfl ?_
  refine G_imulN (a := 4) (c := e) (s := 4 * e) dL_isSo_341 (by omega) ?_
  refine G_iload dL_isSo_342 rfl ?_
  refine G_iaddN (a := 4 * e) (c := 0) (s := 4 * e) dL_isSo_344 (by omega) ?_
  refine G_ialdN (j := 4 * e) dL_isSo_345 ((hΨ f).1.2.2.2.2.2.2) (by omega) ?_
  refine G_eqi (rdC (by omega) (by omega) : _ = f (133 + e)) ?_
  refine G_icmp_ne 353 dL_isSo_346 (by decide) (fun q => absurd rfl q) (fun _ => ?_)
  refine G_iconst (v := 1) dL_isSo_349 (by decide) ?_
  refine G_goto 354 dL_isSo_350 (by decide) ?_
  refine G_istore dL_isSo_354 rfl (L' := [some (.ref 0), some (.int x), some (.ref 11), some (.ref 12), some (.ref 13), some (.ref 14), some (.ref 15), some (.ref 16), some (.ref 17), some (.int (nI (b))), some (.int (nI (k))), some (.int (nI (e))), some (.int (s_tvB f b)), some (.int 1), some (.int 0)]) rfl ?_
  refine G_iincN (a := 0) (s := 1) dL_isSo_356 rfl (by omega) (L' := [some (.ref 0), some (.int x), some (.ref 11), some (.ref 12), some (.ref 13), some (.ref 14), some (.ref 15), some (.ref 16), some (.ref 17), some (.int (nI (b))), some (.int (nI (k))), some (.int (nI (e))), some (.int (s_tvB f b)), some (.int 1), some (.int 1)]) rfl ?_
  refine G_goto 317 dL_isSo_359 (by decide) ?_
  refine G_iload dL_isSo_317 rfl ?_
  refine G_iconst (v := 4) dL_isSo_319 (by decide) ?_
  refine G_icmp_geN (a := 1) (c := 4) 362 dL_isSo_320 (by decide) (by omega) (fun c320 => (show False by omega).elim) (fun _ => ?_)
  refine G_iload dL_isSo_323 rfl ?_
  refine G_if_eqN (a := 1) 353 dL_isSo_325 (by decide) (by omega) (fun c325 => (show False by omega).elim) (fun _ => ?_)
  refine G_aload_n dL_isSo_328 rfl ?_
  refine G_iload dL_isSo_329 rfl ?_
  refine G_iload dL_isSo_331 rfl ?_
  refine G_callSW0 (fun _ h => List.mem_append_right _ h) dL_isSo_333 kL_isSo_L_cutter ⟨rfl, rfl⟩ ⟨Nat.zero_le _, Nat.zero_le _⟩ (hK.2.2.2.2.1 (e) (1) (by omega) (by omega)) rfl rfl rfl ?_
  refine G_aload dL_isSo_336 rfl ?_
  refine G_iconst (v := 4) dL_isSo_338 (by decide) ?_
  refine G_iload dL_isSo_339 rfl ?_
  refine G_imulN (a := 4) (c := e) (s := 4 * e) dL_isSo_341 (by omega) ?_
  refine G_iload dL_isSo_342 rfl ?_
  refine G_iaddN (a := 4 * e) (c := 1) (s := 4 * e + 1) dL_isSo_344 (by omega) ?_
  refine G_ialdN (j := 4 * e + 1) dL_isSo_345 ((hΨ f).1.2.2.2.2.2.2) (by omega) ?_
  refine G_eqi (rdC (by omega) (by omega) : _ = f (139 + e)) ?_
  refine G_icmp_ne 353 dL_isSo_346 (by decide) (fun q => absurd rfl q) (fun _ => ?_)
  refine G_iconst (v := 1) dL_isSo_349 (by decide) ?_
  refine G_goto 354 dL_isSo_350 (by decide) ?_
  refine G_istore dL_isSo_354 rfl (L' := [some (.ref 0), some (.int x), some (.ref 11), some (.ref 12), some (.ref 13), some (.ref 14), some (.ref 15), some (.ref 16), some (.ref 17), some (.int (nI (b))), some (.int (nI (k))), some (.int (nI (e))), some (.int (s_tvB f b)), some (.int 1), some (.int 1)]) rfl ?_
  refine G_iincN (a := 1) (s := 2) dL_isSo_356 rfl (by omega) (L' := [some (.ref 0), some (.int x), some (.ref 11), some (.ref 12), some (.ref 13), some (.ref 14), some (.ref 15), some (.ref 16), some (.ref 17), some (.int (nI (b))), some (.int (nI (k))), some (.int (nI (e))), some (.int (s_tvB f b)), some (.int 1), some (.int 2)]) rfl ?_
  refine G_goto 317 dL_isSo_359 (by decide) ?_
  refine G_iload dL_isSo_317 rfl ?_
  refine G_iconst (v := 4) dL_isSo_319 (by decide) ?_
  refine G_icmp_geN (a := 2) (c := 4) 362 dL_isSo_320 (by decide) (by omega) (fun c320 => (show False by omega).elim) (fun _ => ?_)
  refine G_iload dL_isSo_323 rfl ?_
  refine G_if_eqN (a := 1) 353 dL_isSo_325 (by decide) (by omega) (fun c325 => (show False by omega).elim) (fun _ => ?_)
  refine G_aload_n dL_isSo_328 rfl ?_
  refine G_iload dL_isSo_329 rfl ?_
  refine G_iload dL_isSo_331 rfl ?_
  refine G_callSW0 (fun _ h => List.mem_append_right _ h) dL_isSo_333 kL_isSo_L_cutter ⟨rfl, rfl⟩ ⟨Nat.zero_le _, Nat.zero_le _⟩ (hK.2.2.2.2.1 (e) (2) (by omega) (by omega)) rfl rfl rfl ?_
  refine G_aload dL_isSo_336 rfl ?_
  refine G_iconst (v := 4) dL_isSo_338 (by decide) ?_
  refine G_iload dL_isSo_339 rfl ?_
  refine G_imulN (a := 4) (c := e) (s := 4 * e) dL_isSo_341 (by omega) ?_
  refine G_iload dL_isSo_342 rfl ?_
  refine G_iaddN (a := 4 * e) (c := 2) (s := 2 + 4 * e) dL_isSo_344 (by omega) ?_
  refine G_ialdN (j := 2 + 4 * e) dL_isSo_345 ((hΨ f).1.2.2.2.2.2.2) (by omega) ?_
  refine G_eqi (rdC (by omega) (by omega) : _ = f (145 + e)) ?_
  refine G_icmp_ne 353 dL_isSo_346 (by decide) (fun q => absurd rfl q) (fun _ => ?_)
  refine G_iconst (v := 1) dL_isSo_349 (by decide) ?_
  refine G_goto 354 dL_isSo_350 (by decide) ?_
  refine G_istore dL_isSo_354 rfl (L' := [some (.ref 0), some (.int x), some (.ref 11), some (.ref 12), some (.ref 13), some (.ref 14), some (.ref 15), some (.ref 16), some (.ref 17), some (.int (nI (b))), some (.int (nI (k))), some (.int (nI (e))), some (.int (s_tvB f b)), some (.int 1), some (.int 2)]) rfl ?_
  refine G_iincN (a := 2) (s := 3) dL_isSo_356 rfl (by omega) (L' := [some (.ref 0), some (.int x), some (.ref 11), some (.ref 12), some (.ref 13), some (.ref 14), some (.ref 15), some (.ref 16), some (.ref 17), some (.int (nI (b))), some (.int (nI (k))), some (.int (nI (e))), some (.int (s_tvB f b)), some (.int 1), some (.int 3)]) rfl ?_
  refine G_goto 317 dL_isSo_359 (by decide) ?_
  refine G_iload dL_isSo_317 rfl ?_
  refine G_iconst (v := 4) dL_isSo_319 (by decide) ?_
  refine G_icmp_geN (a := 3) (c := 4) 362 dL_isSo_320 (by decide) (by omega) (fun c320 => (show False by omega).elim) (fun _ => ?_)
  refine G_iload dL_isSo_323 rfl ?_
  refine G_if_eqN (a := 1) 353 dL_isSo_325 (by decide) (by omega) (fun c325 => (show False by omega).elim) (fun _ => ?_)
  refine G_aload_n dL_isSo_328 rfl ?_
  refine G_iload dL_isSo_329 rfl ?_
  refine G_iload dL_isSo_331 rfl ?_
  refine G_callSW0 (fun _ h => List.mem_append_right _ h) dL_isSo_333 kL_isSo_L_cutter ⟨rfl, rfl⟩ ⟨Nat.zero_le _, Nat.zero_le _⟩ (hK.2.2.2.2.1 (e) (3) (by omega) (by omega)) rfl rfl rfl ?_
  refine G_aload dL_isSo_336 rfl ?_
  refine G_iconst (v := 4) dL_isSo_338 (by decide) ?_
  refine G_iload dL_isSo_339 rfl ?_
  refine G_imulN (a := 4) (c := e) (s := 4 * e) dL_isSo_341 (by omega) ?_
  refine G_iload dL_isSo_342 rfl ?_
  refine G_iaddN (a := 4 * e) (c := 3) (s := 3 + 4 * e) dL_isSo_344 (by omega) ?_
  refine G_ialdN (j := 3 + 4 * e) dL_isSo_345 ((hΨ f).1.2.2.2.2.2.2) (by omega) ?_
  refine G_eqi (rdC (by omega) (by omega) : _ = f (151 + e)) ?_
  refine G_icmp_ne 353 dL_isSo_346 (by decide) (fun q => absurd rfl q) (fun _ => ?_)
  refine G_iconst (v := 1) dL_isSo_349 (by decide) ?_
  refine G_goto 354 dL_isSo_350 (by decide) ?_
  refine G_istore dL_isSo_354 rfl (L' := [some (.ref 0), some (.int x), some (.ref 11), some (.ref 12), some (.ref 13), some (.ref 14), some (.ref 15), some (.ref 16), some (.ref 17), some (.int (nI (b))), some (.int (nI (k))), some (.int (nI (e))), some (.int (s_tvB f b)), some (.int 1), some (.int 3)]) rfl ?_
  refine G_iincN (a := 3) (s := 4) dL_isSo_356 rfl (by omega) (L' := [some (.ref 0), some (.int x), some (.ref 11), some (.ref 12), some (.ref 13), some (.ref 14), some (.ref 15), some (.ref 16), some (.ref 17), some (.int (nI (b))), some (.int (nI (k))), some (.int (nI (e))), some (.int (s_tvB f b)), some (.int 1), some (.int 4)]) rfl ?_
  refine G_goto 317 dL_isSo_359 (by decide) ?_
  refine G_iload dL_isSo_317 rfl ?_
  refine G_iconst (v := 4) dL_isSo_319 (by decide) ?_
  refine G_icmp_geN (a := 4) (c := 4) 362 dL_isSo_320 (by decide) (by omega) (fun _ => ?_) (fun c320 => (show False by omega).elim)
  refine G_iload_n dL_isSo_362 rfl ?_
  refine G_bipush (v := 8) dL_isSo_363 (by decide) ?_
  refine G_ishr dL_isSo_365 ?_
  refine G_sipush (v := 1000) dL_isSo_366 (by decide) ?_
  refine G_callSi dL_isSo_369 kL_isSo_L_low ⟨rfl, rfl⟩ ⟨Nat.zero_le _, Nat.zero_le _⟩ (lm_low (n := 1000) (by omega)) rfl rfl rfl ?_
  obtain ⟨dy, hdy, edy⟩ : ∃ j, j < 1000 ∧ lowN (x >>> ((8 : Int32) &&& 31)) 1000 = j := ⟨_, lowN_lt _ (by decide), rfl⟩
  refine G_eqi (congrArg nI edy) ?_
  refine G_istore dL_isSo_372 rfl (L' := [some (.ref 0), some (.int x), some (.ref 11), some (.ref 12), some (.ref 13), some (.ref 14), some (.ref 15), some (.ref 16), some (.ref 17), some (.int (nI (b))), some (.int (nI (k))), some (.int (nI (e))), some (.int (s_tvB f b)), some (.int 1), some (.int (nI (dy)))]) rfl ?_
  refine G_iload dL_isSo_374 rfl ?_
  refine G_if_eqN (a := 1) 437 dL_isSo_376 (by decide) (by omega) (fun c376 => (show False by omega).elim) (fun _ => ?_)
  refine G_aload_n dL_isSo_379 rfl ?_
  refine G_iload dL_isSo_380 rfl ?_
  refine G_callSW0 (fun _ h => List.mem_append_right _ h) dL_isSo_382 kL_isSo_L_rain ⟨rfl, rfl⟩ ⟨Nat.zero_le _, Nat.zero_le _⟩ (hK.2.2.2.2.2.2.2.1 (dy) (by omega)) rfl rfl rfl ?_
  refine G_bipush (v := 7) dL_isSo_385 (by decide) ?_
  refine G_iload dL_isSo_387 rfl ?_
  refine G_imulN (a := 7) (c := dy) (s := 7 * dy) dL_isSo_389 (by omega) ?_
  refine G_aload_n dL_isSo_390 rfl ?_
  refine G_iconst (v := 2) dL_isSo_391 (by decide) ?_
  refine G_ialdN (j := 2) dL_isSo_392 ((hΨ f).1.1) (by omega) ?_
  refine G_eqi (rdQl (by omega) : _ = f (2)) ?_
  refine G_eqi esg ?_
  refine G_iaddN (a := 7 * dy) (c := sg) (s := 7 * dy + sg) dL_isSo_393 (by omega) ?_
  refine G_bipush (v := 10) dL_isSo_394 (by decide) ?_
  refine G_iremN (a := 7 * dy + sg) (c := 10) (s := ((7 * dy + sg) % 10)) dL_isSo_396 (by omega) (by omega) ?_
  refine G_icmp_ne 437 dL_isSo_397 (by decide) (fun q => absurd (congrArg nI (by rw [s_rain, esg, nI_clamp (by omega)])) q) (fun _ => ?_)
  refine G_aload_n dL_isSo_400 rfl ?_
  refine G_iload dL_isSo_401 rfl ?_
  refine G_aload_n dL_isSo_403 rfl ?_
  refine G_aload dL_isSo_404 rfl ?_
  refine G_aload dL_isSo_406 rfl ?_
  refine G_aload dL_isSo_408 rfl ?_
  refine G_callSP0 (fun _ h => List.mem_append_right _ h) dL_isSo_410 kL_isSo_L_isHearth ⟨rfl, rfl⟩ ⟨Nat.zero_le _, Nat.zero_le _⟩ (lm_isHearth hΨ hK hv hJ hB hk) rfl rfl rfl ?_
  refine G_if_eqN (a := 1) 437 dL_isSo_413 (by decide) (by omega) (fun c413 => (show False by omega).elim) (fun _ => ?_)
  refine G_aload_n dL_isSo_416 rfl ?_
  refine G_aload_n dL_isSo_417 rfl ?_
  refine G_aload_n dL_isSo_418 rfl ?_
  refine G_aload dL_isSo_419 rfl ?_
  refine G_aload dL_isSo_421 rfl ?_
  refine G_aload dL_isSo_423 rfl ?_
  refine G_aload dL_isSo_425 rfl ?_
  refine G_callSP0 (fun _ h => List.mem_append_right _ h) dL_isSo_427 kL_isSo_L_areCounts ⟨rfl, rfl⟩ ⟨Nat.zero_le _, Nat.zero_le _⟩ (lm_areCounts hΨ hK ho hv hJ) rfl rfl rfl ?_
  refine G_if_eqN (a := 1) 437 dL_isSo_430 (by decide) (by omega) (fun c430 => (show False by omega).elim) (fun _ => ?_)
  refine G_iconst (v := 1) dL_isSo_433 (by decide) ?_
  refine G_goto 438 dL_isSo_434 (by decide) ?_
  exact G_iret dL_isSo_438 ⟨Nat.zero_le _, Nat.zero_le _⟩ (hX)
end LH

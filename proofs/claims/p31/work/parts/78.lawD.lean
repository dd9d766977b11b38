/-! THE LAW'S DAYS, AND SHARES THAT ARE GIVEN -/
section LD
variable {l : Launch} {w : mj_W} {Ψ : mj_S → mj_W}
theorem lq_burn (hΨ : HV Ψ) {X : mj_R} {n c : Nat} {y : Int32} : ∀ (d e : Nat) (f : mj_S) (z10 : Option Value), e + d = 5 → (∀ u9 u10 : Option Value, GG l cL_days ML_days false X 130 [some (.int (nI n)), some (.ref 11), some (.ref 12), some (.ref 14), some (.ref 15), some (.ref 16), some (.ref 17), some (.int y), some (.int (nI c)), u9, u10] [] (Ψ (itr s_burn1 d e f)) 0 0) → GG l cL_days ML_days false X 38 [some (.int (nI (n))), some (.ref 11), some (.ref 12), some (.ref 14), some (.ref 15), some (.ref 16), some (.ref 17), some (.int y), some (.int (nI (c))), some (.int (nI (e))), z10] [] (Ψ f) 0 0
  | 0, e, f, z10, he, K => by
    refine G_iload dL_days_38 rfl ?_
    refine G_iconst (v := 5) dL_days_40 (by decide) ?_
    refine G_icmp_geN (a := e) (c := 5) 130 dL_days_41 (by decide) (by omega) (fun c41 => ?_) (fun c41 => ?_)
    · exact K _ _
    · exact (show False by omega).elim
  | d + 1, e, f, z10, he, K => by
    refine G_iload dL_days_38 rfl ?_
    refine G_iconst (v := 5) dL_days_40 (by decide) ?_
    refine G_icmp_geN (a := e) (c := 5) 130 dL_days_41 (by decide) (by omega) (fun c41 => ?_) (fun c41 => ?_)
    · exact (show False by omega).elim
    · have K74 : ∀ m : Int32, m = mn (f 4) (f (15 + e)) → GG l cL_days ML_days false X 74 [some (.int (nI (n))), some (.ref 11), some (.ref 12), some (.ref 14), some (.ref 15), some (.ref 16), some (.ref 17), some (.int y), some (.int (nI (c))), some (.int (nI (e))), z10] [.int m] (Ψ f) 0 0 := by
        intro m em
        refine G_istore dL_days_74 rfl (L' := [some (.int (nI (n))), some (.ref 11), some (.ref 12), some (.ref 14), some (.ref 15), some (.ref 16), some (.ref 17), some (.int y), some (.int (nI (c))), some (.int (nI (e))), some (.int m)]) rfl ?_
        refine G_aload_n dL_days_76 rfl ?_
        refine G_bipush (v := 8) dL_days_77 (by decide) ?_
        refine G_iload dL_days_79 rfl ?_
        refine G_imulN (a := 8) (c := e) (s := 8 * e) dL_days_81 (by omega) ?_
        refine G_iconst (v := 2) dL_days_82 (by decide) ?_
        refine G_iaddN (a := 8 * e) (c := 2) (s := 2 + 8 * e) dL_days_83 (by omega) ?_
        refine G_dup2 dL_days_84 rfl rfl ?_
        refine G_ialdN (j := 2 + 8 * e) dL_days_85 ((hΨ f).1.2.1) (by omega) ?_
        refine G_eqi (rdH (by omega) (by omega) : _ = f (15 + e)) ?_
        refine G_iload dL_days_86 rfl ?_
        refine G_isub dL_days_88 ?_
        obtain ⟨f1, ef1⟩ : ∃ zz : mj_S, zz = upd f (15 + e) ((f (15 + e)) - m) := ⟨_, rfl⟩
        refine G_iastN (j := 2 + 8 * e) dL_days_89 ((hΨ f).1.2.1) (by omega) (((hΨ f).2.2.2.1 _ _ _ (by omega) (by omega)).trans (congrArg Ψ ef1.symm)) ?_
        refine G_aload_n dL_days_90 rfl ?_
        refine G_bipush (v := 8) dL_days_91 (by decide) ?_
        refine G_iload dL_days_93 rfl ?_
        refine G_imulN (a := 8) (c := e) (s := 8 * e) dL_days_95 (by omega) ?_
        refine G_bipush (v := 6) dL_days_96 (by decide) ?_
        refine G_iaddN (a := 8 * e) (c := 6) (s := 6 + 8 * e) dL_days_98 (by omega) ?_
        refine G_dup2 dL_days_99 rfl rfl ?_
        refine G_ialdN (j := 6 + 8 * e) dL_days_100 ((hΨ f1).1.2.1) (by omega) ?_
        refine G_eqi (rdH (by omega) (by omega) : _ = f1 (35 + e)) ?_
        refine G_iload dL_days_101 rfl ?_
        refine G_iadd dL_days_103 ?_
        obtain ⟨f2, ef2⟩ : ∃ zz : mj_S, zz = upd f1 (35 + e) ((f1 (35 + e)) + m) := ⟨_, rfl⟩
        refine G_iastN (j := 6 + 8 * e) dL_days_104 ((hΨ f1).1.2.1) (by omega) (((hΨ f1).2.2.2.1 _ _ _ (by omega) (by omega)).trans (congrArg Ψ ef2.symm)) ?_
        refine G_aload_n dL_days_105 rfl ?_
        refine G_bipush (v := 8) dL_days_106 (by decide) ?_
        refine G_iload dL_days_108 rfl ?_
        refine G_imulN (a := 8) (c := e) (s := 8 * e) dL_days_110 (by omega) ?_
        refine G_bipush (v := 7) dL_days_111 (by decide) ?_
        refine G_iaddN (a := 8 * e) (c := 7) (s := 7 + 8 * e) dL_days_113 (by omega) ?_
        refine G_dup2 dL_days_114 rfl rfl ?_
        refine G_ialdN (j := 7 + 8 * e) dL_days_115 ((hΨ f2).1.2.1) (by omega) ?_
        refine G_eqi (rdH (by omega) (by omega) : _ = f2 (40 + e)) ?_
        refine G_aload_n dL_days_116 rfl ?_
        refine G_iconst (v := 4) dL_days_117 (by decide) ?_
        refine G_ialdN (j := 4) dL_days_118 ((hΨ f2).1.1) (by omega) ?_
        refine G_eqi (rdQl (by omega) : _ = f2 (4)) ?_
        refine G_iload dL_days_119 rfl ?_
        refine G_isub dL_days_121 ?_
        refine G_iadd dL_days_122 ?_
        obtain ⟨f3, ef3⟩ : ∃ zz : mj_S, zz = upd f2 (40 + e) ((f2 (40 + e)) + ((f2 (4)) - m)) := ⟨_, rfl⟩
        refine G_iastN (j := 7 + 8 * e) dL_days_123 ((hΨ f2).1.2.1) (by omega) (((hΨ f2).2.2.2.1 _ _ _ (by omega) (by omega)).trans (congrArg Ψ ef3.symm)) ?_
        have q4 : f2 4 = f 4 := by rw [ef2, upd_n (by omega), ef1, upd_n (by omega)]
        have hst : s_burn1 e f = f3 := by
          rw [ef3, q4, ef2, ef1, em]
          rfl
        refine G_iincN (a := e) (s := e + 1) dL_days_124 rfl (by omega) (L' := [some (.int (nI (n))), some (.ref 11), some (.ref 12), some (.ref 14), some (.ref 15), some (.ref 16), some (.ref 17), some (.int y), some (.int (nI (c))), some (.int (nI (e + 1))), some (.int m)]) rfl ?_
        refine G_goto 38 dL_days_127 (by decide) ?_
        refine lq_burn hΨ d (e + 1) f3 _ (by omega) (fun u9 u10 => ?_)
        have K1 := K u9 u10
        rw [itr_s, hst] at K1
        exact K1
      refine G_aload_n dL_days_44 rfl ?_
      refine G_bipush (v := 8) dL_days_45 (by decide) ?_
      refine G_iload dL_days_47 rfl ?_
      refine G_imulN (a := 8) (c := e) (s := 8 * e) dL_days_49 (by omega) ?_
      refine G_iconst (v := 2) dL_days_50 (by decide) ?_
      refine G_iaddN (a := 8 * e) (c := 2) (s := 2 + 8 * e) dL_days_51 (by omega) ?_
      refine G_ialdN (j := 2 + 8 * e) dL_days_52 ((hΨ f).1.2.1) (by omega) ?_
      refine G_eqi (rdH (by omega) (by omega) : _ = f (15 + e)) ?_
      refine G_aload_n dL_days_53 rfl ?_
      refine G_iconst (v := 4) dL_days_54 (by decide) ?_
      refine G_ialdN (j := 4) dL_days_55 ((hΨ f).1.1) (by omega) ?_
      refine G_eqi (rdQl (by omega) : _ = f (4)) ?_
      refine G_icmp_ge 71 dL_days_56 (by decide) (fun c56 => ?_) (fun c56 => ?_)
      · refine G_aload_n dL_days_71 rfl ?_
        refine G_iconst (v := 4) dL_days_72 (by decide) ?_
        refine G_ialdN (j := 4) dL_days_73 ((hΨ f).1.1) (by omega) ?_
        refine G_eqi (rdQl (by omega) : _ = f (4)) ?_
        exact K74 _ (mn_le c56)
      · refine G_aload_n dL_days_59 rfl ?_
        refine G_bipush (v := 8) dL_days_60 (by decide) ?_
        refine G_iload dL_days_62 rfl ?_
        refine G_imulN (a := 8) (c := e) (s := 8 * e) dL_days_64 (by omega) ?_
        refine G_iconst (v := 2) dL_days_65 (by decide) ?_
        refine G_iaddN (a := 8 * e) (c := 2) (s := 2 + 8 * e) dL_days_66 (by omega) ?_
        refine G_ialdN (j := 2 + 8 * e) dL_days_67 ((hΨ f).1.2.1) (by omega) ?_
        refine G_eqi (rdH (by omega) (by omega) : _ = f (15 + e)) ?_
        refine G_goto 74 dL_days_68 (by decide) ?_
        exact K74 _ (mn_gt c56)
theorem lq_days (hΨ : HV Ψ) {n : Nat} (hn : n < 2147483648) {res : mj_S × Int32} : ∀ (d c D : Nat) (f : mj_S) (y : Int32) (z9 z10 : Option Value), c + d = n → D + d < 100000000 → oA f D → vt f → res = itr s_days1 d c (f, y) → GG l cL_days ML_days false (.inl (some (.int res.2), Ψ res.1)) 6 [some (.int (nI (n))), some (.ref 11), some (.ref 12), some (.ref 14), some (.ref 15), some (.ref 16), some (.ref 17), some (.int y), some (.int (nI (c))), z9, z10] [] (Ψ f) 0 0
  | 0, c, D, f, y, z9, z10, hc, hD, ho, hv, hr => by
    refine G_iload dL_days_6 rfl ?_
    refine G_iload_n dL_days_8 rfl ?_
    refine G_icmp_geN (a := c) (c := n) 180 dL_days_9 (by decide) (by omega) (fun c9 => ?_) (fun c9 => ?_)
    · refine G_iload dL_days_180 rfl ?_
      exact G_iret dL_days_182 ⟨Nat.zero_le _, Nat.zero_le _⟩ (by rw [hr, itr_0])
    · exact (show False by omega).elim
  | d + 1, c, D, f, y, z9, z10, hc, hD, ho, hv, hr => by
    obtain ⟨hd1, hd2, hd3⟩ := day_ok ho hv
    have ho1 := oA_day ho
    have hv1 : vt (upd f 0 (f 0 + 1)) := vt_same (sT_upd (sT_rf f) (by unfold inT; omega)) hv
    obtain ⟨sd, hsd⟩ : ∃ z : mj_S × Int32, z = s_day f := ⟨_, rfl⟩
    have hday := hsd
    unfold s_day at hday
    rw [← hsd] at hd1 hd2
    refine G_iload dL_days_6 rfl ?_
    refine G_iload_n dL_days_8 rfl ?_
    refine G_icmp_geN (a := c) (c := n) 180 dL_days_9 (by decide) (by omega) (fun c9 => ?_) (fun c9 => ?_)
    · exact (show False by omega).elim
    · refine G_aload_n dL_days_12 rfl ?_
      refine G_iconst (v := 0) dL_days_13 (by decide) ?_
      refine G_dup2 dL_days_14 rfl rfl ?_
      refine G_ialdN (j := 0) dL_days_15 ((hΨ f).1.1) (by omega) ?_
      refine G_eqi (rdQl (by omega) : _ = f (0)) ?_
      refine G_iconst (v := 1) dL_days_16 (by decide) ?_
      refine G_iadd dL_days_17 ?_
      obtain ⟨f1, ef1⟩ : ∃ zz : mj_S, zz = upd f (0) ((f (0)) + 1) := ⟨_, rfl⟩
      refine G_iastN (j := 0) dL_days_18 ((hΨ f).1.1) (by omega) (((hΨ f).2.1 _ _ (by omega)).trans (congrArg Ψ ef1.symm)) ?_
      rw [← ef1] at ho1 hv1
      have q1 : f1 1 = f 1 := by rw [ef1, upd_n (by omega)]
      have ecl : (f1 0).toNatClampNeg = D + 1 := by rw [ho1.1]; exact nI_clamp (by omega)
      dsimp only at hday
      rw [← ef1, ecl] at hday
      refine G_aload_n dL_days_19 rfl ?_
      refine G_iconst (v := 1) dL_days_20 (by decide) ?_
      refine G_ialdN (j := 1) dL_days_21 ((hΨ f1).1.1) (by omega) ?_
      refine G_eqi (rdQl (by omega) : _ = f1 (1)) ?_
      refine G_iconst (v := 1) dL_days_22 (by decide) ?_
      refine G_icmp_ne 133 dL_days_23 (by decide) (fun c23 => ?_) (fun c23 => ?_)
      · rw [if_neg (fun z => c23 (q1.trans z))] at hday
        obtain ⟨sg, hsg, esg⟩ := ho1.2.2.1
        have hs2 : sA f1 (s_cuts f1) ∧ vt (s_cuts f1) := cuts_ok 6 0 f1 (by omega) (sA_rf _) ho1 hv1
        have hv2 := hs2.2
        have ho2 := oA_same hs2.1 ho1
        have esg2 : s_cuts f1 2 = nI sg := (hs2.1 2 (Or.inl (by omega))).trans esg
        refine G_aload_n dL_days_133 rfl ?_
        refine G_aload_n dL_days_134 rfl ?_
        refine G_aload_n dL_days_135 rfl ?_
        refine G_aload dL_days_136 rfl ?_
        refine G_callSv dL_days_138 kL_days_L_cuts ⟨rfl, rfl⟩ ⟨Nat.zero_le _, Nat.zero_le _⟩ (lm_cuts hΨ ho1) rfl rfl rfl ?_
        refine G_bipush (v := 7) dL_days_141 (by decide) ?_
        refine G_aload_n dL_days_143 rfl ?_
        refine G_iconst (v := 0) dL_days_144 (by decide) ?_
        refine G_ialdN (j := 0) dL_days_145 ((hΨ (s_cuts f1)).1.1) (by omega) ?_
        refine G_eqi (rdQl (by omega) : _ = (s_cuts f1) (0)) ?_
        refine G_eqi ho2.1 ?_
        refine G_imulN (a := 7) (c := D + 1) (s := 7 + 7 * D) dL_days_146 (by omega) ?_
        refine G_aload_n dL_days_147 rfl ?_
        refine G_iconst (v := 2) dL_days_148 (by decide) ?_
        refine G_ialdN (j := 2) dL_days_149 ((hΨ (s_cuts f1)).1.1) (by omega) ?_
        refine G_eqi (rdQl (by omega) : _ = (s_cuts f1) (2)) ?_
        refine G_eqi esg2 ?_
        refine G_iaddN (a := 7 + 7 * D) (c := sg) (s := 7 + 7 * D + sg) dL_days_150 (by omega) ?_
        refine G_bipush (v := 10) dL_days_151 (by decide) ?_
        refine G_iremN (a := 7 + 7 * D + sg) (c := 10) (s := ((7 + 7 * D + sg) % 10)) dL_days_153 (by omega) (by omega) ?_
        obtain ⟨r0, hr0⟩ : ∃ r0 : Nat, r0 = (7 * (D + 1) + sg) % 10 := ⟨_, rfl⟩
        refine G_eqi (show nI (((7 + 7 * D + sg) % 10)) = nI r0 from congrArg nI (by omega)) ?_
        have hrain : s_rain f1 (D + 1) = r0 := by rw [s_rain, esg, nI_clamp (by omega), hr0]
        rw [hrain] at hday
        refine G_aload_n dL_days_154 rfl ?_
        refine G_aload dL_days_155 rfl ?_
        refine G_aload dL_days_157 rfl ?_
        refine G_callSv dL_days_159 kL_days_L_weather ⟨rfl, rfl⟩ ⟨Nat.zero_le _, Nat.zero_le _⟩ (lm_weather hΨ (r := r0) (by omega) hv2) rfl rfl rfl ?_
        obtain ⟨g0, eg0⟩ : ∃ z : mj_S, z = s_wth r0 (s_cuts f1) := ⟨_, rfl⟩
        rw [← eg0] at hday ⊢
        have ho3 : oA g0 (D + 1) := by rw [eg0]; exact oA_same (sA_wth) ho2
        have hv3 : vt g0 := by rw [eg0]; exact vt_wth hv2
        refine G_iload dL_days_162 rfl ?_
        refine G_aload_n dL_days_164 rfl ?_
        refine G_aload_n dL_days_165 rfl ?_
        refine G_aload dL_days_166 rfl ?_
        refine G_callSi dL_days_168 kL_days_L_carts ⟨rfl, rfl⟩ ⟨Nat.zero_le _, Nat.zero_le _⟩ (lm_carts hΨ (D := D + 1) (by omega) ho3 hv3) rfl rfl rfl ?_
        refine G_iadd dL_days_171 ?_
        refine G_istore dL_days_172 rfl (L' := [some (.int (nI (n))), some (.ref 11), some (.ref 12), some (.ref 14), some (.ref 15), some (.ref 16), some (.ref 17), some (.int (y + (s_carts (D + 1) g0).2)), some (.int (nI (c))), z9, z10]) rfl ?_
        refine G_iincN (a := c) (s := c + 1) dL_days_174 rfl (by omega) (L' := [some (.int (nI (n))), some (.ref 11), some (.ref 12), some (.ref 14), some (.ref 15), some (.ref 16), some (.ref 17), some (.int (y + (s_carts (D + 1) g0).2)), some (.int (nI (c + 1))), z9, z10]) rfl ?_
        refine G_goto 6 dL_days_177 (by decide) ?_
        exact lq_days hΨ hn d (c + 1) (D + 1) (s_carts (D + 1) g0).1 _ _ _ (by omega) (by omega) (by rw [hday] at hd1; exact hd1) (by rw [hday] at hd2; exact hd2) (by rw [hr, itr_s, s_days1]; (try dsimp only); rw [← hsd, hday])
      · have c23n : f1 1 = 1 := c23
        refine G_iconst (v := 0) dL_days_26 (by decide) ?_
        refine G_aload_n dL_days_27 rfl ?_
        refine G_aload dL_days_28 rfl ?_
        refine G_aload dL_days_30 rfl ?_
        refine G_callSv dL_days_32 kL_days_L_weather ⟨rfl, rfl⟩ ⟨Nat.zero_le _, Nat.zero_le _⟩ (lm_weather hΨ (r := 0) (by omega) hv1) rfl rfl rfl ?_
        refine G_iconst (v := 0) dL_days_35 (by decide) ?_
        refine G_istore dL_days_36 rfl (L' := [some (.int (nI (n))), some (.ref 11), some (.ref 12), some (.ref 14), some (.ref 15), some (.ref 16), some (.ref 17), some (.int y), some (.int (nI (c))), some (.int 0), z10]) rfl ?_
        refine lq_burn hΨ 5 0 (s_wth 0 f1) _ rfl (fun u9 u10 => ?_)
        refine G_goto 174 dL_days_130 (by decide) ?_
        rw [if_pos (q1 ▸ c23n)] at hday
        refine G_iincN (a := c) (s := c + 1) dL_days_174 rfl (by omega) (L' := [some (.int (nI n)), some (.ref 11), some (.ref 12), some (.ref 14), some (.ref 15), some (.ref 16), some (.ref 17), some (.int y), some (.int (nI (c + 1))), u9, u10]) rfl ?_
        refine G_goto 6 dL_days_177 (by decide) ?_
        exact lq_days hΨ hn d (c + 1) (D + 1) (s_burn (s_wth 0 f1)) y _ _ (by omega) (by omega) (by rw [hday] at hd1; exact hd1) (by rw [hday] at hd2; exact hd2) (by rw [hr, itr_s, s_days1]; (try dsimp only); rw [← hsd, hday]; (try dsimp only); rw [show y + (0 : Int32) = y by grind])
theorem lm_days (hΨ : HV Ψ) {n D : Nat} (hn : n < 1000) (hD : D < 90000000) {f : mj_S} (ho : oA f D) (hv : vt f) : MC l yL_days wsL_days rmL_days false [.int (nI (n)), .ref 11, .ref 12, .ref 14, .ref 15, .ref 16, .ref 17] (Ψ f) (some (.int (s_days n f).2)) (Ψ (s_days n f).1) := by
  refine mj_MC (cc := cL_days) (nl := 11) (ret := (some .int)) (plainFor_of_name (by decide)) rfl (⟨_, rfl, rfl⟩) (Nat.le_of_ble_eq_true rfl) ?_
  show GG l cL_days ML_days false (.inl ((some (.int (s_days n f).2)), Ψ (s_days n f).1)) 0 [some (.int (nI (n))), some (.ref 11), some (.ref 12), some (.ref 14), some (.ref 15), some (.ref 16), some (.ref 17), none, none, none, none] [] (Ψ f) 0 0
  refine G_iconst (v := 0) dL_days_0 (by decide) ?_
  refine G_istore dL_days_1 rfl (L' := [some (.int (nI (n))), some (.ref 11), some (.ref 12), some (.ref 14), some (.ref 15), some (.ref 16), some (.ref 17), some (.int 0), none, none, none]) rfl ?_
  refine G_iconst (v := 0) dL_days_3 (by decide) ?_
  refine G_istore dL_days_4 rfl (L' := [some (.int (nI (n))), some (.ref 11), some (.ref 12), some (.ref 14), some (.ref 15), some (.ref 16), some (.ref 17), some (.int 0), some (.int 0), none, none]) rfl ?_
  exact lq_days hΨ (by omega) n 0 D f 0 _ _ (by omega) (by omega) ho hv rfl
theorem lm_gives_eq (hΨ : HV Ψ) {f : mj_S} {b z : Nat} (hb : b < 4) {x : Int32} : MC l yL_gives wsL_gives rmL_gives false [.int x, .int x, .int (nI (b)), .int (nI (z)), .ref 13] (Ψ f) (some (.int (-102))) (Ψ f) := by
  refine mj_MC (cc := cL_gives) (nl := 6) (ret := (some .int)) (plainFor_of_name (by decide)) rfl (⟨_, rfl, rfl⟩) (Nat.le_of_ble_eq_true rfl) ?_
  show GG l cL_gives ML_gives false (.inl ((some (.int (-102))), Ψ f)) 0 [some (.int x), some (.int x), some (.int (nI (b))), some (.int (nI (z))), some (.ref 13), none] [] (Ψ f) 0 0
  refine G_iload_n dL_gives_0 rfl ?_
  refine G_iload_n dL_gives_1 rfl ?_
  refine G_icmp_ne 8 dL_gives_2 (by decide) (fun q => absurd rfl q) (fun _ => ?_)
  refine G_bipush (v := (-102)) dL_gives_5 (by decide) ?_
  exact G_iret dL_gives_7 ⟨Nat.zero_le _, Nat.zero_le _⟩ (rfl)
theorem lm_gives_Nx (hΨ : HV Ψ) {f : mj_S} {b z : Nat} (hb : b < 4) {h : Nat} (hh : h < 5) (hq : s_com f b < nI z) : MC l yL_gives wsL_gives rmL_gives false [.int (-1), .int (nI (h)), .int (nI (b)), .int (nI (z)), .ref 13] (Ψ f) (some (.int (-103))) (Ψ f) := by
  refine mj_MC (cc := cL_gives) (nl := 6) (ret := (some .int)) (plainFor_of_name (by decide)) rfl (⟨_, rfl, rfl⟩) (Nat.le_of_ble_eq_true rfl) ?_
  show GG l cL_gives ML_gives false (.inl ((some (.int (-103))), Ψ f)) 0 [some (.int (-1)), some (.int (nI (h))), some (.int (nI (b))), some (.int (nI (z))), some (.ref 13), none] [] (Ψ f) 0 0
  refine G_iload_n dL_gives_0 rfl ?_
  refine G_iload_n dL_gives_1 rfl ?_
  refine G_icmp_ne 8 dL_gives_2 (by decide) (fun _ => ?_) (fun q => absurd q (fun z => nI_m1 (a := h) (by omega) z.symm))
  refine G_iload_n dL_gives_8 rfl ?_
  refine G_if_ge 21 dL_gives_9 (by decide) (fun q => absurd q (by decide)) (fun _ => ?_)
  refine G_iload_n dL_gives_12 rfl ?_
  refine G_aload dL_gives_13 rfl ?_
  refine G_callSi dL_gives_15 kL_gives_L_commons ⟨rfl, rfl⟩ ⟨Nat.zero_le _, Nat.zero_le _⟩ (lm_commons hΨ (b := b) (by omega)) rfl rfl rfl ?_
  refine G_goto 29 dL_gives_18 (by decide) ?_
  refine G_istore dL_gives_29 rfl (L' := [some (.int (-1)), some (.int (nI (h))), some (.int (nI (b))), some (.int (nI (z))), some (.ref 13), some (.int (s_com f (b)))]) rfl ?_
  refine G_iload dL_gives_31 rfl ?_
  refine G_iload_n dL_gives_33 rfl ?_
  refine G_icmp_ge 40 dL_gives_34 (by decide) (fun q => absurd q (Int32.not_le.mpr hq)) (fun _ => ?_)
  refine G_bipush (v := (-103)) dL_gives_37 (by decide) ?_
  exact G_iret dL_gives_39 ⟨Nat.zero_le _, Nat.zero_le _⟩ (rfl)
theorem lm_gives_N (hΨ : HV Ψ) {f : mj_S} {b z : Nat} (hb : b < 4) {h : Nat} (hh : h < 5) (hq : nI z ≤ s_com f b) : MC l yL_gives wsL_gives rmL_gives false [.int (-1), .int (nI (h)), .int (nI (b)), .int (nI (z)), .ref 13] (Ψ f) (some (.int ((upd f (53 + b + 4 * h) (f (53 + b + 4 * h) + nI z)) (53 + b + 4 * h)))) (Ψ (upd f (53 + b + 4 * h) (f (53 + b + 4 * h) + nI z))) := by
  refine mj_MC (cc := cL_gives) (nl := 6) (ret := (some .int)) (plainFor_of_name (by decide)) rfl (⟨_, rfl, rfl⟩) (Nat.le_of_ble_eq_true rfl) ?_
  show GG l cL_gives ML_gives false (.inl ((some (.int ((upd f (53 + b + 4 * h) (f (53 + b + 4 * h) + nI z)) (53 + b + 4 * h)))), Ψ (upd f (53 + b + 4 * h) (f (53 + b + 4 * h) + nI z)))) 0 [some (.int (-1)), some (.int (nI (h))), some (.int (nI (b))), some (.int (nI (z))), some (.ref 13), none] [] (Ψ f) 0 0
  refine G_iload_n dL_gives_0 rfl ?_
  refine G_iload_n dL_gives_1 rfl ?_
  refine G_icmp_ne 8 dL_gives_2 (by decide) (fun _ => ?_) (fun q => absurd q (fun z => nI_m1 (a := h) (by omega) z.symm))
  refine G_iload_n dL_gives_8 rfl ?_
  refine G_if_ge 21 dL_gives_9 (by decide) (fun q => absurd q (by decide)) (fun _ => ?_)
  refine G_iload_n dL_gives_12 rfl ?_
  refine G_aload dL_gives_13 rfl ?_
  refine G_callSi dL_gives_15 kL_gives_L_commons ⟨rfl, rfl⟩ ⟨Nat.zero_le _, Nat.zero_le _⟩ (lm_commons hΨ (b := b) (by omega)) rfl rfl rfl ?_
  refine G_goto 29 dL_gives_18 (by decide) ?_
  refine G_istore dL_gives_29 rfl (L' := [some (.int (-1)), some (.int (nI (h))), some (.int (nI (b))), some (.int (nI (z))), some (.ref 13), some (.int (s_com f (b)))]) rfl ?_
  refine G_iload dL_gives_31 rfl ?_
  refine G_iload_n dL_gives_33 rfl ?_
  refine G_icmp_ge 40 dL_gives_34 (by decide) (fun _ => ?_) (fun q => absurd hq q)
  refine G_iload_n dL_gives_40 rfl ?_
  refine G_if_lt 56 dL_gives_41 (by decide) (fun _ => ?_) (fun q => absurd m1_neg q)
  refine G_iload_n dL_gives_56 rfl ?_
  refine G_if_ltN (a := h) 72 dL_gives_57 (by decide) (by omega) ?_
  refine G_aload dL_gives_60 rfl ?_
  refine G_iconst (v := 4) dL_gives_62 (by decide) ?_
  refine G_iload_n dL_gives_63 rfl ?_
  refine G_imulN (a := 4) (c := h) (s := 4 * h) dL_gives_64 (by omega) ?_
  refine G_iload_n dL_gives_65 rfl ?_
  refine G_iaddN (a := 4 * h) (c := b) (s := b + 4 * h) dL_gives_66 (by omega) ?_
  refine G_dup2 dL_gives_67 rfl rfl ?_
  refine G_ialdN (j := b + 4 * h) dL_gives_68 ((hΨ f).1.2.2.1) (by omega) ?_
  refine G_eqi (rdB (by omega) (by omega) : _ = f (53 + b + 4 * h)) ?_
  refine G_iload_n dL_gives_69 rfl ?_
  refine G_iadd dL_gives_70 ?_
  obtain ⟨f1, ef1⟩ : ∃ zz : mj_S, zz = upd f (53 + b + 4 * h) ((f (53 + b + 4 * h)) + (nI (z))) := ⟨_, rfl⟩
  refine G_iastN (j := b + 4 * h) dL_gives_71 ((hΨ f).1.2.2.1) (by omega) (((hΨ f).2.2.2.2.1 _ _ _ (by omega) (by omega)).trans (congrArg Ψ ef1.symm)) ?_
  refine G_iload_n dL_gives_72 rfl ?_
  refine G_if_geN (a := h) 85 dL_gives_73 (by decide) (by omega) ?_
  refine G_aload dL_gives_85 rfl ?_
  refine G_iconst (v := 4) dL_gives_87 (by decide) ?_
  refine G_iload_n dL_gives_88 rfl ?_
  refine G_imulN (a := 4) (c := h) (s := 4 * h) dL_gives_89 (by omega) ?_
  refine G_iload_n dL_gives_90 rfl ?_
  refine G_iaddN (a := 4 * h) (c := b) (s := b + 4 * h) dL_gives_91 (by omega) ?_
  refine G_ialdN (j := b + 4 * h) dL_gives_92 ((hΨ f1).1.2.2.1) (by omega) ?_
  refine G_eqi (rdB (by omega) (by omega) : _ = f1 (53 + b + 4 * h)) ?_
  exact G_iret dL_gives_93 ⟨Nat.zero_le _, Nat.zero_le _⟩ (by rw [ef1])
theorem lm_gives_Tx (hΨ : HV Ψ) {f : mj_S} {b z : Nat} (hb : b < 4) {g : Nat} (hg : g < 5) (hq : f (53 + b + 4 * g) < nI z) : MC l yL_gives wsL_gives rmL_gives false [.int (nI (g)), .int (-1), .int (nI (b)), .int (nI (z)), .ref 13] (Ψ f) (some (.int (-103))) (Ψ f) := by
  refine mj_MC (cc := cL_gives) (nl := 6) (ret := (some .int)) (plainFor_of_name (by decide)) rfl (⟨_, rfl, rfl⟩) (Nat.le_of_ble_eq_true rfl) ?_
  show GG l cL_gives ML_gives false (.inl ((some (.int (-103))), Ψ f)) 0 [some (.int (nI (g))), some (.int (-1)), some (.int (nI (b))), some (.int (nI (z))), some (.ref 13), none] [] (Ψ f) 0 0
  refine G_iload_n dL_gives_0 rfl ?_
  refine G_iload_n dL_gives_1 rfl ?_
  refine G_icmp_ne 8 dL_gives_2 (by decide) (fun _ => ?_) (fun q => absurd q (nI_m1 (by omega)))
  refine G_iload_n dL_gives_8 rfl ?_
  refine G_if_geN (a := g) 21 dL_gives_9 (by decide) (by omega) ?_
  refine G_aload dL_gives_21 rfl ?_
  refine G_iconst (v := 4) dL_gives_23 (by decide) ?_
  refine G_iload_n dL_gives_24 rfl ?_
  refine G_imulN (a := 4) (c := g) (s := 4 * g) dL_gives_25 (by omega) ?_
  refine G_iload_n dL_gives_26 rfl ?_
  refine G_iaddN (a := 4 * g) (c := b) (s := b + 4 * g) dL_gives_27 (by omega) ?_
  refine G_ialdN (j := b + 4 * g) dL_gives_28 ((hΨ f).1.2.2.1) (by omega) ?_
  refine G_eqi (rdB (by omega) (by omega) : _ = f (53 + b + 4 * g)) ?_
  refine G_istore dL_gives_29 rfl (L' := [some (.int (nI (g))), some (.int (-1)), some (.int (nI (b))), some (.int (nI (z))), some (.ref 13), some (.int (f (53 + b + 4 * g)))]) rfl ?_
  refine G_iload dL_gives_31 rfl ?_
  refine G_iload_n dL_gives_33 rfl ?_
  refine G_icmp_ge 40 dL_gives_34 (by decide) (fun q => absurd q (Int32.not_le.mpr hq)) (fun _ => ?_)
  refine G_bipush (v := (-103)) dL_gives_37 (by decide) ?_
  exact G_iret dL_gives_39 ⟨Nat.zero_le _, Nat.zero_le _⟩ (rfl)
theorem lm_gives_T (hΨ : HV Ψ) {f : mj_S} {b z : Nat} (hb : b < 4) {g : Nat} (hg : g < 5) (hq : nI z ≤ f (53 + b + 4 * g)) : MC l yL_gives wsL_gives rmL_gives false [.int (nI (g)), .int (-1), .int (nI (b)), .int (nI (z)), .ref 13] (Ψ f) (some (.int (s_com (upd f (53 + b + 4 * g) (f (53 + b + 4 * g) - nI z)) b))) (Ψ (upd f (53 + b + 4 * g) (f (53 + b + 4 * g) - nI z))) := by
  refine mj_MC (cc := cL_gives) (nl := 6) (ret := (some .int)) (plainFor_of_name (by decide)) rfl (⟨_, rfl, rfl⟩) (Nat.le_of_ble_eq_true rfl) ?_
  show GG l cL_gives ML_gives false (.inl ((some (.int (s_com (upd f (53 + b + 4 * g) (f (53 + b + 4 * g) - nI z)) b))), Ψ (upd f (53 + b + 4 * g) (f (53 + b + 4 * g) - nI z)))) 0 [some (.int (nI (g))), some (.int (-1)), some (.int (nI (b))), some (.int (nI (z))), some (.ref 13), none] [] (Ψ f) 0 0
  refine G_iload_n dL_gives_0 rfl ?_
  refine G_iload_n dL_gives_1 rfl ?_
  refine G_icmp_ne 8 dL_gives_2 (by decide) (fun _ => ?_) (fun q => absurd q (nI_m1 (by omega)))
  refine G_iload_n dL_gives_8 rfl ?_
  refine G_if_geN (a := g) 21 dL_gives_9 (by decide) (by omega) ?_
  refine G_aload dL_gives_21 rfl ?_
  refine G_iconst (v := 4) dL_gives_23 (by decide) ?_
  refine G_iload_n dL_gives_24 rfl ?_
  refine G_imulN (a := 4) (c := g) (s := 4 * g) dL_gives_25 (by omega) ?_
  refine G_iload_n dL_gives_26 rfl ?_
  refine G_iaddN (a := 4 * g) (c := b) (s := b + 4 * g) dL_gives_27 (by omega) ?_
  refine G_ialdN (j := b + 4 * g) dL_gives_28 ((hΨ f).1.2.2.1) (by omega) ?_
  refine G_eqi (rdB (by omega) (by omega) : _ = f (53 + b + 4 * g)) ?_
  refine G_istore dL_gives_29 rfl (L' := [some (.int (nI (g))), some (.int (-1)), some (.int (nI (b))), some (.int (nI (z))), some (.ref 13), some (.int (f (53 + b + 4 * g)))]) rfl ?_
  refine G_iload dL_gives_31 rfl ?_
  refine G_iload_n dL_gives_33 rfl ?_
  refine G_icmp_ge 40 dL_gives_34 (by decide) (fun _ => ?_) (fun q => absurd hq q)
  refine G_iload_n dL_gives_40 rfl ?_
  refine G_if_ltN (a := g) 56 dL_gives_41 (by decide) (by omega) ?_
  refine G_aload dL_gives_44 rfl ?_
  refine G_iconst (v := 4) dL_gives_46 (by decide) ?_
  refine G_iload_n dL_gives_47 rfl ?_
  refine G_imulN (a := 4) (c := g) (s := 4 * g) dL_gives_48 (by omega) ?_
  refine G_iload_n dL_gives_49 rfl ?_
  refine G_iaddN (a := 4 * g) (c := b) (s := b + 4 * g) dL_gives_50 (by omega) ?_
  refine G_dup2 dL_gives_51 rfl rfl ?_
  refine G_ialdN (j := b + 4 * g) dL_gives_52 ((hΨ f).1.2.2.1) (by omega) ?_
  refine G_eqi (rdB (by omega) (by omega) : _ = f (53 + b + 4 * g)) ?_
  refine G_iload_n dL_gives_53 rfl ?_
  refine G_isub dL_gives_54 ?_
  obtain ⟨f1, ef1⟩ : ∃ zz : mj_S, zz = upd f (53 + b + 4 * g) ((f (53 + b + 4 * g)) - (nI (z))) := ⟨_, rfl⟩
  refine G_iastN (j := b + 4 * g) dL_gives_55 ((hΨ f).1.2.2.1) (by omega) (((hΨ f).2.2.2.2.1 _ _ _ (by omega) (by omega)).trans (congrArg Ψ ef1.symm)) ?_
  refine G_iload_n dL_gives_56 rfl ?_
  refine G_if_lt 72 dL_gives_57 (by decide) (fun _ => ?_) (fun q => absurd m1_neg q)
  refine G_iload_n dL_gives_72 rfl ?_
  refine G_if_ge 85 dL_gives_73 (by decide) (fun q => absurd q (by decide)) (fun _ => ?_)
  refine G_iload_n dL_gives_76 rfl ?_
  refine G_aload dL_gives_77 rfl ?_
  refine G_callSi dL_gives_79 kL_gives_L_commons ⟨rfl, rfl⟩ ⟨Nat.zero_le _, Nat.zero_le _⟩ (lm_commons hΨ (b := b) (by omega)) rfl rfl rfl ?_
  refine G_goto 93 dL_gives_82 (by decide) ?_
  exact G_iret dL_gives_93 ⟨Nat.zero_le _, Nat.zero_le _⟩ (by rw [ef1])
theorem lm_gives_Gx (hΨ : HV Ψ) {f : mj_S} {b z : Nat} (hb : b < 4) {g h : Nat} (hg : g < 5) (hh : h < 5) (hgh : ¬ g = h) (hq : f (53 + b + 4 * g) < nI z) : MC l yL_gives wsL_gives rmL_gives false [.int (nI (g)), .int (nI (h)), .int (nI (b)), .int (nI (z)), .ref 13] (Ψ f) (some (.int (-103))) (Ψ f) := by
  refine mj_MC (cc := cL_gives) (nl := 6) (ret := (some .int)) (plainFor_of_name (by decide)) rfl (⟨_, rfl, rfl⟩) (Nat.le_of_ble_eq_true rfl) ?_
  show GG l cL_gives ML_gives false (.inl ((some (.int (-103))), Ψ f)) 0 [some (.int (nI (g))), some (.int (nI (h))), some (.int (nI (b))), some (.int (nI (z))), some (.ref 13), none] [] (Ψ f) 0 0
  refine G_iload_n dL_gives_0 rfl ?_
  refine G_iload_n dL_gives_1 rfl ?_
  refine G_icmp_neN (a := g) (c := h) 8 dL_gives_2 (by decide) (by omega) (fun _ => ?_) (fun q => absurd q hgh)
  refine G_iload_n dL_gives_8 rfl ?_
  refine G_if_geN (a := g) 21 dL_gives_9 (by decide) (by omega) ?_
  refine G_aload dL_gives_21 rfl ?_
  refine G_iconst (v := 4) dL_gives_23 (by decide) ?_
  refine G_iload_n dL_gives_24 rfl ?_
  refine G_imulN (a := 4) (c := g) (s := 4 * g) dL_gives_25 (by omega) ?_
  refine G_iload_n dL_gives_26 rfl ?_
  refine G_iaddN (a := 4 * g) (c := b) (s := b + 4 * g) dL_gives_27 (by omega) ?_
  refine G_ialdN (j := b + 4 * g) dL_gives_28 ((hΨ f).1.2.2.1) (by omega) ?_
  refine G_eqi (rdB (by omega) (by omega) : _ = f (53 + b + 4 * g)) ?_
  refine G_istore dL_gives_29 rfl (L' := [some (.int (nI (g))), some (.int (nI (h))), some (.int (nI (b))), some (.int (nI (z))), some (.ref 13), some (.int (f (53 + b + 4 * g)))]) rfl ?_
  refine G_iload dL_gives_31 rfl ?_
  refine G_iload_n dL_gives_33 rfl ?_
  refine G_icmp_ge 40 dL_gives_34 (by decide) (fun q => absurd q (Int32.not_le.mpr hq)) (fun _ => ?_)
  refine G_bipush (v := (-103)) dL_gives_37 (by decide) ?_
  exact G_iret dL_gives_39 ⟨Nat.zero_le _, Nat.zero_le _⟩ (rfl)
theorem lm_gives_G (hΨ : HV Ψ) {f : mj_S} {b z : Nat} (hb : b < 4) {g h : Nat} (hg : g < 5) (hh : h < 5) (hgh : ¬ g = h) (hq : nI z ≤ f (53 + b + 4 * g)) : MC l yL_gives wsL_gives rmL_gives false [.int (nI (g)), .int (nI (h)), .int (nI (b)), .int (nI (z)), .ref 13] (Ψ f) (some (.int ((upd (upd f (53 + b + 4 * g) (f (53 + b + 4 * g) - nI z)) (53 + b + 4 * h) ((upd f (53 + b + 4 * g) (f (53 + b + 4 * g) - nI z)) (53 + b + 4 * h) + nI z)) (53 + b + 4 * h)))) (Ψ (upd (upd f (53 + b + 4 * g) (f (53 + b + 4 * g) - nI z)) (53 + b + 4 * h) ((upd f (53 + b + 4 * g) (f (53 + b + 4 * g) - nI z)) (53 + b + 4 * h) + nI z))) := by
  refine mj_MC (cc := cL_gives) (nl := 6) (ret := (some .int)) (plainFor_of_name (by decide)) rfl (⟨_, rfl, rfl⟩) (Nat.le_of_ble_eq_true rfl) ?_
  show GG l cL_gives ML_gives false (.inl ((some (.int ((upd (upd f (53 + b + 4 * g) (f (53 + b + 4 * g) - nI z)) (53 + b + 4 * h) ((upd f (53 + b + 4 * g) (f (53 + b + 4 * g) - nI z)) (53 + b + 4 * h) + nI z)) (53 + b + 4 * h)))), Ψ (upd (upd f (53 + b + 4 * g) (f (53 + b + 4 * g) - nI z)) (53 + b + 4 * h) ((upd f (53 + b + 4 * g) (f (53 + b + 4 * g) - nI z)) (53 + b + 4 * h) + nI z)))) 0 [some (.int (nI (g))), some (.int (nI (h))), some (.int (nI (b))), some (.int (nI (z))), some (.ref 13), none] [] (Ψ f) 0 0
  refine G_iload_n dL_gives_0 rfl ?_
  refine G_iload_n dL_gives_1 rfl ?_
  refine G_icmp_neN (a := g) (c := h) 8 dL_gives_2 (by decide) (by omega) (fun _ => ?_) (fun q => absurd q hgh)
  refine G_iload_n dL_gives_8 rfl ?_
  refine G_if_geN (a := g) 21 dL_gives_9 (by decide) (by omega) ?_
  refine G_aload dL_gives_21 rfl ?_
  refine G_iconst (v := 4) dL_gives_23 (by decide) ?_
  refine G_iload_n dL_gives_24 rfl ?_
  refine G_imulN (a := 4) (c := g) (s := 4 * g) dL_gives_25 (by omega) ?_
  refine G_iload_n dL_gives_26 rfl ?_
  refine G_iaddN (a := 4 * g) (c := b) (s := b + 4 * g) dL_gives_27 (by omega) ?_
  refine G_ialdN (j := b + 4 * g) dL_gives_28 ((hΨ f).1.2.2.1) (by omega) ?_
  refine G_eqi (rdB (by omega) (by omega) : _ = f (53 + b + 4 * g)) ?_
  refine G_istore dL_gives_29 rfl (L' := [some (.int (nI (g))), some (.int (nI (h))), some (.int (nI (b))), some (.int (nI (z))), some (.ref 13), some (.int (f (53 + b + 4 * g)))]) rfl ?_
  refine G_iload dL_gives_31 rfl ?_
  refine G_iload_n dL_gives_33 rfl ?_
  refine G_icmp_ge 40 dL_gives_34 (by decide) (fun _ => ?_) (fun q => absurd hq q)
  refine G_iload_n dL_gives_40 rfl ?_
  refine G_if_ltN (a := g) 56 dL_gives_41 (by decide) (by omega) ?_
  refine G_aload dL_gives_44 rfl ?_
  refine G_iconst (v := 4) dL_gives_46 (by decide) ?_
  refine G_iload_n dL_gives_47 rfl ?_
  refine G_imulN (a := 4) (c := g) (s := 4 * g) dL_gives_48 (by omega) ?_
  refine G_iload_n dL_gives_49 rfl ?_
  refine G_iaddN (a := 4 * g) (c := b) (s := b + 4 * g) dL_gives_50 (by omega) ?_
  refine G_dup2 dL_gives_51 rfl rfl ?_
  refine G_ialdN (j := b + 4 * g) dL_gives_52 ((hΨ f).1.2.2.1) (by omega) ?_
  refine G_eqi (rdB (by omega) (by omega) : _ = f (53 + b + 4 * g)) ?_
  refine G_iload_n dL_gives_53 rfl ?_
  refine G_isub dL_gives_54 ?_
  obtain ⟨f1, ef1⟩ : ∃ zz : mj_S, zz = upd f (53 + b + 4 * g) ((f (53 + b + 4 * g)) - (nI (z))) := ⟨_, rfl⟩
  refine G_iastN (j := b + 4 * g) dL_gives_55 ((hΨ f).1.2.2.1) (by omega) (((hΨ f).2.2.2.2.1 _ _ _ (by omega) (by omega)).trans (congrArg Ψ ef1.symm)) ?_
  refine G_iload_n dL_gives_56 rfl ?_
  refine G_if_ltN (a := h) 72 dL_gives_57 (by decide) (by omega) ?_
  refine G_aload dL_gives_60 rfl ?_
  refine G_iconst (v := 4) dL_gives_62 (by decide) ?_
  refine G_iload_n dL_gives_63 rfl ?_
  refine G_imulN (a := 4) (c := h) (s := 4 * h) dL_gives_64 (by omega) ?_
  refine G_iload_n dL_gives_65 rfl ?_
  refine G_iaddN (a := 4 * h) (c := b) (s := b + 4 * h) dL_gives_66 (by omega) ?_
  refine G_dup2 dL_gives_67 rfl rfl ?_
  refine G_ialdN (j := b + 4 * h) dL_gives_68 ((hΨ f1).1.2.2.1) (by omega) ?_
  refine G_eqi (rdB (by omega) (by omega) : _ = f1 (53 + b + 4 * h)) ?_
  refine G_iload_n dL_gives_69 rfl ?_
  refine G_iadd dL_gives_70 ?_
  obtain ⟨f2, ef2⟩ : ∃ zz : mj_S, zz = upd f1 (53 + b + 4 * h) ((f1 (53 + b + 4 * h)) + (nI (z))) := ⟨_, rfl⟩
  refine G_iastN (j := b + 4 * h) dL_gives_71 ((hΨ f1).1.2.2.1) (by omega) (((hΨ f1).2.2.2.2.1 _ _ _ (by omega) (by omega)).trans (congrArg Ψ ef2.symm)) ?_
  refine G_iload_n dL_gives_72 rfl ?_
  refine G_if_geN (a := h) 85 dL_gives_73 (by decide) (by omega) ?_
  refine G_aload dL_gives_85 rfl ?_
  refine G_iconst (v := 4) dL_gives_87 (by decide) ?_
  refine G_iload_n dL_gives_88 rfl ?_
  refine G_imulN (a := 4) (c := h) (s := 4 * h) dL_gives_89 (by omega) ?_
  refine G_iload_n dL_gives_90 rfl ?_
  refine G_iaddN (a := 4 * h) (c := b) (s := b + 4 * h) dL_gives_91 (by omega) ?_
  refine G_ialdN (j := b + 4 * h) dL_gives_92 ((hΨ f2).1.2.2.1) (by omega) ?_
  refine G_eqi (rdB (by omega) (by omega) : _ = f2 (53 + b + 4 * h)) ?_
  exact G_iret dL_gives_93 ⟨Nat.zero_le _, Nat.zero_le _⟩ (by rw [ef2, ef1])
end LD

/-! WHAT THE LAW LOOKS AT: counts -/
theorem wet_eq (f : mj_S) : itr (fun k a => a + (f (73 + k) + f (93 + k))) 20 0 0 = s_sum f 73 20 + s_sum f 93 20 := su_add (fun k => f (73 + k)) (fun k => f (93 + k)) 20
theorem sum4 (f : mj_S) : f 45 + f 46 + f 47 + f 48 = s_sum f 45 4 := by
  show f 45 + f 46 + f 47 + f 48 = 0 + f 45 + f 46 + f 47 + f 48
  rw [Int32.zero_add]
theorem tvA_eq (f : mj_S) : s_tvA f = s_sum f 73 20 + s_sum f 93 20 + s_sum f 113 20 := by
  rw [su_sum, su_sum, su_sum, ← su_add, ← su_add]
  unfold s_tvA su
  exact itr_congr 20 0 0 (fun i _ _ x => by rw [s_tv])
theorem cmp_eq {a b : UInt64} (h : shv a) (e : a = b) : Op.cmpValue (FP.dcmp a b) .l = 0 := by
  rw [← e, h.same]
  rfl
section LG
variable {l : Launch} {Ψ : mj_S → mj_W}
abbrev rmL_areCounts : Room := { frames := 10, cells := 0, slots := 0, locals := 187 }
abbrev ML_areCounts : mj_M := (RL, 15, wsL_areCounts ++ ctN, rmL_areCounts, false, none)
theorem kL_areCounts_L_hearthOf : mj_cwSW ML_areCounts 97 yL_hearthOf [(0, 6, 7, 16), (0, 6, 11, 18)] wsL_hearthOf r0L_hearthOf 3 := ⟨_, _, _, _, fun w h => ⟨List.mem_append_left _ (gL_areCounts_L_hearthOf w h).1, (gL_areCounts_L_hearthOf w h).2⟩, rfl, by decide +kernel, by decide⟩
theorem kL_areCounts_L_count : mj_cwSW ML_areCounts 100 yL_count [(0, 5, 6, 18)] wsL_count r0L_count 2 := ⟨_, _, _, _, fun w h => ⟨List.mem_append_left _ (gL_areCounts_L_count w h).1, (gL_areCounts_L_count w h).2⟩, rfl, by decide +kernel, by decide⟩
theorem kL_areCounts_L_workers : mj_cwS ML_areCounts 89 yL_workers wsL_workers rmL_workers 3 := ⟨_, _, _, _, fun w h => ⟨List.mem_append_left _ (gL_areCounts_L_workers w h).1, (gL_areCounts_L_workers w h).2⟩, rfl, by decide +kernel, by decide⟩
theorem kL_areCounts_X3_dryness : mj_cwV ML_areCounts 103 RX3 yX3_dryness wsX3_dryness rmX3_dryness 0 := ⟨_, _, _, _, fun w h => ⟨List.mem_append_left _ (gL_areCounts_X3_dryness w h).1, (gL_areCounts_X3_dryness w h).2⟩, rfl, by decide +kernel, by decide⟩
theorem lq_c1 (hΨ : HV Ψ) {X : mj_R} {f : mj_S} {u : Int32} : ∀ (d c : Nat) (x y : Int32), c + d = 20 → (∀ u14 : Option Value, GG l cL_areCounts ML_areCounts false X 79 [some (.ref 0), some (.ref 11), some (.ref 12), some (.ref 14), some (.ref 15), some (.ref 16), some (.ref 17), some (.int u), some (.int (itr (fun k a => a + (f (73 + k) + f (93 + k))) d c x)), some (.int (itr (fun k a => a + f (113 + k)) d c y)), some (.int 0), some (.int 0), some (.int 0), some (.int 0), u14] [] (Ψ f) 0 0) → GG l cL_areCounts ML_areCounts false X 41 [some (.ref 0), some (.ref 11), some (.ref 12), some (.ref 14), some (.ref 15), some (.ref 16), some (.ref 17), some (.int u), some (.int x), some (.int y), some (.int 0), some (.int 0), some (.int 0), some (.int 0), some (.int (nI (c)))] [] (Ψ f) 0 0
  | 0, c, x, y, hc, K => by
    refine G_iload dL_areCounts_41 rfl ?_
    refine G_bipush (v := 20) dL_areCounts_43 (by decide) ?_
    refine G_icmp_geN (a := c) (c := 20) 79 dL_areCounts_45 (by decide) (by omega) (fun c45 => ?_) (fun c45 => ?_)
    · exact K _
    · exact (show False by omega).elim
  | d + 1, c, x, y, hc, K => by
    refine G_iload dL_areCounts_41 rfl ?_
    refine G_bipush (v := 20) dL_areCounts_43 (by decide) ?_
    refine G_icmp_geN (a := c) (c := 20) 79 dL_areCounts_45 (by decide) (by omega) (fun c45 => ?_) (fun c45 => ?_)
    · exact (show False by omega).elim
    · refine G_iload dL_areCounts_48 rfl ?_
      refine G_aload_n dL_areCounts_50 rfl ?_
      refine G_iload dL_areCounts_51 rfl ?_
      refine G_ialdN (j := c) dL_areCounts_53 ((hΨ f).1.2.2.2.1) (by omega) ?_
      refine G_eqi (rdB (by omega) (by omega) : _ = f (73 + c)) ?_
      refine G_aload dL_areCounts_54 rfl ?_
      refine G_iload dL_areCounts_56 rfl ?_
      refine G_ialdN (j := c) dL_areCounts_58 ((hΨ f).1.2.2.2.2.1) (by omega) ?_
      refine G_eqi (rdB (by omega) (by omega) : _ = f (93 + c)) ?_
      refine G_iadd dL_areCounts_59 ?_
      refine G_iadd dL_areCounts_60 ?_
      refine G_istore dL_areCounts_61 rfl (L' := [some (.ref 0), some (.ref 11), some (.ref 12), some (.ref 14), some (.ref 15), some (.ref 16), some (.ref 17), some (.int u), some (.int (x + ((f (73 + c)) + (f (93 + c))))), some (.int y), some (.int 0), some (.int 0), some (.int 0), some (.int 0), some (.int (nI (c)))]) rfl ?_
      refine G_iload dL_areCounts_63 rfl ?_
      refine G_aload dL_areCounts_65 rfl ?_
      refine G_iload dL_areCounts_67 rfl ?_
      refine G_ialdN (j := c) dL_areCounts_69 ((hΨ f).1.2.2.2.2.2.1) (by omega) ?_
      refine G_eqi (rdB (by omega) (by omega) : _ = f (113 + c)) ?_
      refine G_iadd dL_areCounts_70 ?_
      refine G_istore dL_areCounts_71 rfl (L' := [some (.ref 0), some (.ref 11), some (.ref 12), some (.ref 14), some (.ref 15), some (.ref 16), some (.ref 17), some (.int u), some (.int (x + ((f (73 + c)) + (f (93 + c))))), some (.int (y + (f (113 + c)))), some (.int 0), some (.int 0), some (.int 0), some (.int 0), some (.int (nI (c)))]) rfl ?_
      refine G_iincN (a := c) (s := c + 1) dL_areCounts_73 rfl (by omega) (L' := [some (.ref 0), some (.ref 11), some (.ref 12), some (.ref 14), some (.ref 15), some (.ref 16), some (.ref 17), some (.int u), some (.int (x + ((f (73 + c)) + (f (93 + c))))), some (.int (y + (f (113 + c)))), some (.int 0), some (.int 0), some (.int 0), some (.int 0), some (.int (nI (c + 1)))]) rfl ?_
      refine G_goto 41 dL_areCounts_76 (by decide) ?_
      refine lq_c1 hΨ d (c + 1) (x + ((f (73 + c)) + (f (93 + c)))) (y + (f (113 + c))) (by omega) (fun u14 => ?_)
      have K1 := K u14
      simp only [itr_s] at K1
      exact K1
theorem lq_c2 (hΨ : HV Ψ) {X : mj_R} {f : mj_S} (hK : LK l f (Ψ f)) {u x y : Int32} : ∀ (d c : Nat) (h1 h2 h3 h4 : Int32), c + d = 5 → (∀ u14 : Option Value, GG l cL_areCounts ML_areCounts false X 163 [some (.ref 0), some (.ref 11), some (.ref 12), some (.ref 14), some (.ref 15), some (.ref 16), some (.ref 17), some (.int u), some (.int x), some (.int y), some (.int (itr (fun k a => a + f (15 + k)) d c h1)), some (.int (itr (fun k a => a + f (35 + k)) d c h2)), some (.int (itr (fun h a => if 0 < s_sh f h then a + 1 else a) d c h3)), some (.int (itr (fun h a => if 0 < s_sh2 f h then a + 1 else a) d c h4)), u14] [] (Ψ f) 0 0) → GG l cL_areCounts ML_areCounts false X 82 [some (.ref 0), some (.ref 11), some (.ref 12), some (.ref 14), some (.ref 15), some (.ref 16), some (.ref 17), some (.int u), some (.int x), some (.int y), some (.int h1), some (.int h2), some (.int h3), some (.int h4), some (.int (nI (c)))] [] (Ψ f) 0 0
  | 0, c, h1, h2, h3, h4, hc, K => by
    refine G_iload dL_areCounts_82 rfl ?_
    refine G_iconst (v := 5) dL_areCounts_84 (by decide) ?_
    refine G_icmp_geN (a := c) (c := 5) 163 dL_areCounts_85 (by decide) (by omega) (fun c85 => ?_) (fun c85 => ?_)
    · exact K _
    · exact (show False by omega).elim
  | d + 1, c, h1, h2, h3, h4, hc, K => by
    refine G_iload dL_areCounts_82 rfl ?_
    refine G_iconst (v := 5) dL_areCounts_84 (by decide) ?_
    refine G_icmp_geN (a := c) (c := 5) 163 dL_areCounts_85 (by decide) (by omega) (fun c85 => ?_) (fun c85 => ?_)
    · exact (show False by omega).elim
    · refine G_iload dL_areCounts_88 rfl ?_
      refine G_aload_n dL_areCounts_90 rfl ?_
      refine G_bipush (v := 8) dL_areCounts_91 (by decide) ?_
      refine G_iload dL_areCounts_93 rfl ?_
      refine G_imulN (a := 8) (c := c) (s := 8 * c) dL_areCounts_95 (by omega) ?_
      refine G_iconst (v := 2) dL_areCounts_96 (by decide) ?_
      refine G_iaddN (a := 8 * c) (c := 2) (s := 2 + 8 * c) dL_areCounts_97 (by omega) ?_
      refine G_ialdN (j := 2 + 8 * c) dL_areCounts_98 ((hΨ f).1.2.1) (by omega) ?_
      refine G_eqi (rdH (by omega) (by omega) : _ = f (15 + c)) ?_
      refine G_iadd dL_areCounts_99 ?_
      refine G_istore dL_areCounts_100 rfl (L' := [some (.ref 0), some (.ref 11), some (.ref 12), some (.ref 14), some (.ref 15), some (.ref 16), some (.ref 17), some (.int u), some (.int x), some (.int y), some (.int (h1 + (f (15 + c)))), some (.int h2), some (.int h3), some (.int h4), some (.int (nI (c)))]) rfl ?_
      refine G_iload dL_areCounts_102 rfl ?_
      refine G_aload_n dL_areCounts_104 rfl ?_
      refine G_bipush (v := 8) dL_areCounts_105 (by decide) ?_
      refine G_iload dL_areCounts_107 rfl ?_
      refine G_imulN (a := 8) (c := c) (s := 8 * c) dL_areCounts_109 (by omega) ?_
      refine G_bipush (v := 6) dL_areCounts_110 (by decide) ?_
      refine G_iaddN (a := 8 * c) (c := 6) (s := 6 + 8 * c) dL_areCounts_112 (by omega) ?_
      refine G_ialdN (j := 6 + 8 * c) dL_areCounts_113 ((hΨ f).1.2.1) (by omega) ?_
      refine G_eqi (rdH (by omega) (by omega) : _ = f (35 + c)) ?_
      refine G_iadd dL_areCounts_114 ?_
      refine G_istore dL_areCounts_115 rfl (L' := [some (.ref 0), some (.ref 11), some (.ref 12), some (.ref 14), some (.ref 15), some (.ref 16), some (.ref 17), some (.int u), some (.int x), some (.int y), some (.int (h1 + (f (15 + c)))), some (.int (h2 + (f (35 + c)))), some (.int h3), some (.int h4), some (.int (nI (c)))]) rfl ?_
      refine G_iload dL_areCounts_117 rfl ?_
      refine G_aload_n dL_areCounts_119 rfl ?_
      refine G_iload dL_areCounts_120 rfl ?_
      refine G_iconst (v := 4) dL_areCounts_122 (by decide) ?_
      refine G_callSW0 (fun _ h => List.mem_append_right _ h) dL_areCounts_123 kL_areCounts_L_hearthOf ⟨rfl, rfl⟩ ⟨Nat.zero_le _, Nat.zero_le _⟩ (hK.2.1 (c) (4) (by omega) (by omega)) rfl rfl rfl ?_
      refine G_if_le 133 dL_areCounts_126 (by decide) (fun c126 => ?_) (fun c126 => ?_)
      · refine G_iconst (v := 0) dL_areCounts_133 (by decide) ?_
        refine G_iadd dL_areCounts_134 ?_
        refine G_eqi (Int32.add_zero h3) ?_
        refine G_istore dL_areCounts_135 rfl (L' := [some (.ref 0), some (.ref 11), some (.ref 12), some (.ref 14), some (.ref 15), some (.ref 16), some (.ref 17), some (.int u), some (.int x), some (.int y), some (.int (h1 + (f (15 + c)))), some (.int (h2 + (f (35 + c)))), some (.int h3), some (.int h4), some (.int (nI (c)))]) rfl ?_
        refine G_iload dL_areCounts_137 rfl ?_
        refine G_aload_n dL_areCounts_139 rfl ?_
        refine G_iload dL_areCounts_140 rfl ?_
        refine G_iconst (v := 5) dL_areCounts_142 (by decide) ?_
        refine G_callSW0 (fun _ h => List.mem_append_right _ h) dL_areCounts_143 kL_areCounts_L_hearthOf ⟨rfl, rfl⟩ ⟨Nat.zero_le _, Nat.zero_le _⟩ (hK.2.1 (c) (5) (by omega) (by omega)) rfl rfl rfl ?_
        refine G_if_le 153 dL_areCounts_146 (by decide) (fun c146 => ?_) (fun c146 => ?_)
        · refine G_iconst (v := 0) dL_areCounts_153 (by decide) ?_
          refine G_iadd dL_areCounts_154 ?_
          refine G_eqi (Int32.add_zero h4) ?_
          refine G_istore dL_areCounts_155 rfl (L' := [some (.ref 0), some (.ref 11), some (.ref 12), some (.ref 14), some (.ref 15), some (.ref 16), some (.ref 17), some (.int u), some (.int x), some (.int y), some (.int (h1 + (f (15 + c)))), some (.int (h2 + (f (35 + c)))), some (.int h3), some (.int h4), some (.int (nI (c)))]) rfl ?_
          refine G_iincN (a := c) (s := c + 1) dL_areCounts_157 rfl (by omega) (L' := [some (.ref 0), some (.ref 11), some (.ref 12), some (.ref 14), some (.ref 15), some (.ref 16), some (.ref 17), some (.int u), some (.int x), some (.int y), some (.int (h1 + (f (15 + c)))), some (.int (h2 + (f (35 + c)))), some (.int h3), some (.int h4), some (.int (nI (c + 1)))]) rfl ?_
          refine G_goto 82 dL_areCounts_160 (by decide) ?_
          refine lq_c2 hΨ hK d (c + 1) (h1 + (f (15 + c))) (h2 + (f (35 + c))) h3 h4 (by omega) (fun u14 => ?_)
          have K1 := K u14
          simp only [itr_s] at K1
          rw [if_neg (show ¬ 0 < s_sh f c from Int32.not_lt.mpr c126)] at K1
          rw [if_neg (show ¬ 0 < s_sh2 f c from Int32.not_lt.mpr c146)] at K1
          exact K1
        · refine G_iconst (v := 1) dL_areCounts_149 (by decide) ?_
          refine G_goto 154 dL_areCounts_150 (by decide) ?_
          refine G_iadd dL_areCounts_154 ?_
          refine G_istore dL_areCounts_155 rfl (L' := [some (.ref 0), some (.ref 11), some (.ref 12), some (.ref 14), some (.ref 15), some (.ref 16), some (.ref 17), some (.int u), some (.int x), some (.int y), some (.int (h1 + (f (15 + c)))), some (.int (h2 + (f (35 + c)))), some (.int h3), some (.int (h4 + 1)), some (.int (nI (c)))]) rfl ?_
          refine G_iincN (a := c) (s := c + 1) dL_areCounts_157 rfl (by omega) (L' := [some (.ref 0), some (.ref 11), some (.ref 12), some (.ref 14), some (.ref 15), some (.ref 16), some (.ref 17), some (.int u), some (.int x), some (.int y), some (.int (h1 + (f (15 + c)))), some (.int (h2 + (f (35 + c)))), some (.int h3), some (.int (h4 + 1)), some (.int (nI (c + 1)))]) rfl ?_
          refine G_goto 82 dL_areCounts_160 (by decide) ?_
          refine lq_c2 hΨ hK d (c + 1) (h1 + (f (15 + c))) (h2 + (f (35 + c))) h3 (h4 + 1) (by omega) (fun u14 => ?_)
          have K1 := K u14
          simp only [itr_s] at K1
          rw [if_neg (show ¬ 0 < s_sh f c from Int32.not_lt.mpr c126)] at K1
          rw [if_pos (show 0 < s_sh2 f c from Int32.not_le.mp c146)] at K1
          exact K1
      · refine G_iconst (v := 1) dL_areCounts_129 (by decide) ?_
        refine G_goto 134 dL_areCounts_130 (by decide) ?_
        refine G_iadd dL_areCounts_134 ?_
        refine G_istore dL_areCounts_135 rfl (L' := [some (.ref 0), some (.ref 11), some (.ref 12), some (.ref 14), some (.ref 15), some (.ref 16), some (.ref 17), some (.int u), some (.int x), some (.int y), some (.int (h1 + (f (15 + c)))), some (.int (h2 + (f (35 + c)))), some (.int (h3 + 1)), some (.int h4), some (.int (nI (c)))]) rfl ?_
        refine G_iload dL_areCounts_137 rfl ?_
        refine G_aload_n dL_areCounts_139 rfl ?_
        refine G_iload dL_areCounts_140 rfl ?_
        refine G_iconst (v := 5) dL_areCounts_142 (by decide) ?_
        refine G_callSW0 (fun _ h => List.mem_append_right _ h) dL_areCounts_143 kL_areCounts_L_hearthOf ⟨rfl, rfl⟩ ⟨Nat.zero_le _, Nat.zero_le _⟩ (hK.2.1 (c) (5) (by omega) (by omega)) rfl rfl rfl ?_
        refine G_if_le 153 dL_areCounts_146 (by decide) (fun c146 => ?_) (fun c146 => ?_)
        · refine G_iconst (v := 0) dL_areCounts_153 (by decide) ?_
          refine G_iadd dL_areCounts_154 ?_
          refine G_eqi (Int32.add_zero h4) ?_
          refine G_istore dL_areCounts_155 rfl (L' := [some (.ref 0), some (.ref 11), some (.ref 12), some (.ref 14), some (.ref 15), some (.ref 16), some (.ref 17), some (.int u), some (.int x), some (.int y), some (.int (h1 + (f (15 + c)))), some (.int (h2 + (f (35 + c)))), some (.int (h3 + 1)), some (.int h4), some (.int (nI (c)))]) rfl ?_
          refine G_iincN (a := c) (s := c + 1) dL_areCounts_157 rfl (by omega) (L' := [some (.ref 0), some (.ref 11), some (.ref 12), some (.ref 14), some (.ref 15), some (.ref 16), some (.ref 17), some (.int u), some (.int x), some (.int y), some (.int (h1 + (f (15 + c)))), some (.int (h2 + (f (35 + c)))), some (.int (h3 + 1)), some (.int h4), some (.int (nI (c + 1)))]) rfl ?_
          refine G_goto 82 dL_areCounts_160 (by decide) ?_
          refine lq_c2 hΨ hK d (c + 1) (h1 + (f (15 + c))) (h2 + (f (35 + c))) (h3 + 1) h4 (by omega) (fun u14 => ?_)
          have K1 := K u14
          simp only [itr_s] at K1
          rw [if_pos (show 0 < s_sh f c from Int32.not_le.mp c126)] at K1
          rw [if_neg (show ¬ 0 < s_sh2 f c from Int32.not_lt.mpr c146)] at K1
          exact K1
        · refine G_iconst (v := 1) dL_areCounts_149 (by decide) ?_
          refine G_goto 154 dL_areCounts_150 (by decide) ?_
          refine G_iadd dL_areCounts_154 ?_
          refine G_istore dL_areCounts_155 rfl (L' := [some (.ref 0), some (.ref 11), some (.ref 12), some (.ref 14), some (.ref 15), some (.ref 16), some (.ref 17), some (.int u), some (.int x), some (.int y), some (.int (h1 + (f (15 + c)))), some (.int (h2 + (f (35 + c)))), some (.int (h3 + 1)), some (.int (h4 + 1)), some (.int (nI (c)))]) rfl ?_
          refine G_iincN (a := c) (s := c + 1) dL_areCounts_157 rfl (by omega) (L' := [some (.ref 0), some (.ref 11), some (.ref 12), some (.ref 14), some (.ref 15), some (.ref 16), some (.ref 17), some (.int u), some (.int x), some (.int y), some (.int (h1 + (f (15 + c)))), some (.int (h2 + (f (35 + c)))), some (.int (h3 + 1)), some (.int (h4 + 1)), some (.int (nI (c + 1)))]) rfl ?_
          refine G_goto 82 dL_areCounts_160 (by decide) ?_
          refine lq_c2 hΨ hK d (c + 1) (h1 + (f (15 + c))) (h2 + (f (35 + c))) (h3 + 1) (h4 + 1) (by omega) (fun u14 => ?_)
          have K1 := K u14
          simp only [itr_s] at K1
          rw [if_pos (show 0 < s_sh f c from Int32.not_le.mp c126)] at K1
          rw [if_pos (show 0 < s_sh2 f c from Int32.not_le.mp c146)] at K1
          exact K1
theorem lm_areCounts (hΨ : HV Ψ) {f : mj_S} (hK : LK l f (Ψ f)) {D : Nat} (ho : oA f D) (hv : vt f) {B : Nat} (hJ : okJ f B) : MCE l yL_areCounts wsL_areCounts rmL_areCounts ctN false [.ref 0, .ref 11, .ref 12, .ref 14, .ref 15, .ref 16, .ref 17] (Ψ f) (some (.int 1)) (Ψ f) := by
  obtain ⟨fs, hx⟩ := hK.1
  have htot : (s_sum f 45 4) + (s_sum f 73 20 + s_sum f 93 20) + (s_sum f 113 20) + s_sum f 15 5 + s_sum f 35 5 = 8000 := by
    have h := hJ.2.2.1
    unfold tot at h
    rw [← h]
    ac_rfl
  have hc1 : (s_sum f 73 20 + s_sum f 93 20) + (s_sum f 113 20) = 0 → Op.cmpValue (FP.dcmp (s_share f) FP.dconst1) .l = 0 := fun q => cmp_eq (share_ok hv) (by rw [s_share, tvA_eq, if_pos q])
  have hc2 : ¬ (s_sum f 73 20 + s_sum f 93 20) + (s_sum f 113 20) = 0 → Op.cmpValue (FP.dcmp (s_share f) (FP.ddiv (FP.i2d (s_sum f 113 20)) (FP.i2d ((s_sum f 73 20 + s_sum f 93 20) + (s_sum f 113 20))))) .l = 0 := fun q => cmp_eq (share_ok hv) (by rw [s_share, tvA_eq, if_neg q])
  refine mj_MCE (cc := cL_areCounts) (nl := 15) (ret := (some .boolean)) ctN_vm (plainFor_of_name (by decide)) rfl (⟨_, rfl, rfl⟩) (Nat.le_of_ble_eq_true rfl) ?_
  show GG l cL_areCounts ML_areCounts false (.inl (some (.int 1), Ψ f)) 0 [some (.ref 0), some (.ref 11), some (.ref 12), some (.ref 14), some (.ref 15), some (.ref 16), some (.ref 17), none, none, none, none, none, none, none, none] [] (Ψ f) 0 0
  obtain ⟨X, hX⟩ : ∃ X : mj_R, X = .inl (some (.int 1), Ψ f) := ⟨_, rfl⟩
  rw [← hX]
  refine G_aload_n dL_areCounts_0 rfl ?_
  refine G_iconst (v := 5) dL_areCounts_1 (by decide) ?_
  refine G_ialdN (j := 5) dL_areCounts_2 ((hΨ f).1.1) (by omega) ?_
  refine G_eqi (rdQh (by omega) (by omega) : _ = f (45)) ?_
  refine G_aload_n dL_areCounts_3 rfl ?_
  refine G_bipush (v := 6) dL_areCounts_4 (by decide) ?_
  refine G_ialdN (j := 6) dL_areCounts_6 ((hΨ f).1.1) (by omega) ?_
  refine G_eqi (rdQh (by omega) (by omega) : _ = f (46)) ?_
  refine G_iadd dL_areCounts_7 ?_
  refine G_aload_n dL_areCounts_8 rfl ?_
  refine G_bipush (v := 7) dL_areCounts_9 (by decide) ?_
  refine G_ialdN (j := 7) dL_areCounts_11 ((hΨ f).1.1) (by omega) ?_
  refine G_eqi (rdQh (by omega) (by omega) : _ = f (47)) ?_
  refine G_iadd dL_areCounts_12 ?_
  refine G_aload_n dL_areCounts_13 rfl ?_
  refine G_bipush (v := 8) dL_areCounts_14 (by decide) ?_
  refine G_ialdN (j := 8) dL_areCounts_16 ((hΨ f).1.1) (by omega) ?_
  refine G_eqi (rdQh (by omega) (by omega) : _ = f (48)) ?_
  refine G_iadd dL_areCounts_17 ?_
  refine G_eqi (sum4 f) ?_
  refine G_istore dL_areCounts_18 rfl (L' := [some (.ref 0), some (.ref 11), some (.ref 12), some (.ref 14), some (.ref 15), some (.ref 16), some (.ref 17), some (.int (s_sum f 45 4)), none, none, none, none, none, none, none]) rfl ?_
  refine G_iconst (v := 0) dL_areCounts_20 (by decide) ?_
  refine G_istore dL_areCounts_21 rfl (L' := [some (.ref 0), some (.ref 11), some (.ref 12), some (.ref 14), some (.ref 15), some (.ref 16), some (.ref 17), some (.int (s_sum f 45 4)), some (.int 0), none, none, none, none, none, none]) rfl ?_
  refine G_iconst (v := 0) dL_areCounts_23 (by decide) ?_
  refine G_istore dL_areCounts_24 rfl (L' := [some (.ref 0), some (.ref 11), some (.ref 12), some (.ref 14), some (.ref 15), some (.ref 16), some (.ref 17), some (.int (s_sum f 45 4)), some (.int 0), some (.int 0), none, none, none, none, none]) rfl ?_
  refine G_iconst (v := 0) dL_areCounts_26 (by decide) ?_
  refine G_istore dL_areCounts_27 rfl (L' := [some (.ref 0), some (.ref 11), some (.ref 12), some (.ref 14), some (.ref 15), some (.ref 16), some (.ref 17), some (.int (s_sum f 45 4)), some (.int 0), some (.int 0), some (.int 0), none, none, none, none]) rfl ?_
  refine G_iconst (v := 0) dL_areCounts_29 (by decide) ?_
  refine G_istore dL_areCounts_30 rfl (L' := [some (.ref 0), some (.ref 11), some (.ref 12), some (.ref 14), some (.ref 15), some (.ref 16), some (.ref 17), some (.int (s_sum f 45 4)), some (.int 0), some (.int 0), some (.int 0), some (.int 0), none, none, none]) rfl ?_
  refine G_iconst (v := 0) dL_areCounts_32 (by decide) ?_
  refine G_istore dL_areCounts_33 rfl (L' := [some (.ref 0), some (.ref 11), some (.ref 12), some (.ref 14), some (.ref 15), some (.ref 16), some (.ref 17), some (.int (s_sum f 45 4)), some (.int 0), some (.int 0), some (.int 0), some (.int 0), some (.int 0), none, none]) rfl ?_
  refine G_iconst (v := 0) dL_areCounts_35 (by decide) ?_
  refine G_istore dL_areCounts_36 rfl (L' := [some (.ref 0), some (.ref 11), some (.ref 12), some (.ref 14), some (.ref 15), some (.ref 16), some (.ref 17), some (.int (s_sum f 45 4)), some (.int 0), some (.int 0), some (.int 0), some (.int 0), some (.int 0), some (.int 0), none]) rfl ?_
  refine G_iconst (v := 0) dL_areCounts_38 (by decide) ?_
  refine G_istore dL_areCounts_39 rfl (L' := [some (.ref 0), some (.ref 11), some (.ref 12), some (.ref 14), some (.ref 15), some (.ref 16), some (.ref 17), some (.int (s_sum f 45 4)), some (.int 0), some (.int 0), some (.int 0), some (.int 0), some (.int 0), some (.int 0), some (.int 0)]) rfl ?_
  refine lq_c1 hΨ 20 0 0 0 rfl (fun u14 => ?_)
  rw [wet_eq]
  show GG l cL_areCounts ML_areCounts false X 79 [some (.ref 0), some (.ref 11), some (.ref 12), some (.ref 14), some (.ref 15), some (.ref 16), some (.ref 17), some (.int (s_sum f 45 4)), some (.int (s_sum f 73 20 + s_sum f 93 20)), some (.int (s_sum f 113 20)), some (.int 0), some (.int 0), some (.int 0), some (.int 0), u14] [] (Ψ f) 0 0
  refine G_iconst (v := 0) dL_areCounts_79 (by decide) ?_
  refine G_istore dL_areCounts_80 rfl (L' := [some (.ref 0), some (.ref 11), some (.ref 12), some (.ref 14), some (.ref 15), some (.ref 16), some (.ref 17), some (.int (s_sum f 45 4)), some (.int (s_sum f 73 20 + s_sum f 93 20)), some (.int (s_sum f 113 20)), some (.int 0), some (.int 0), some (.int 0), some (.int 0), some (.int 0)]) rfl ?_
  refine lq_c2 hΨ hK 5 0 0 0 0 0 rfl (fun u14 => ?_)
  show GG l cL_areCounts ML_areCounts false X 163 [some (.ref 0), some (.ref 11), some (.ref 12), some (.ref 14), some (.ref 15), some (.ref 16), some (.ref 17), some (.int (s_sum f 45 4)), some (.int (s_sum f 73 20 + s_sum f 93 20)), some (.int (s_sum f 113 20)), some (.int (s_sum f 15 5)), some (.int (s_sum f 35 5)), some (.int (s_shs f)), some (.int (s_shs2 f)), u14] [] (Ψ f) 0 0
  refine G_aload_n dL_areCounts_163 rfl ?_
  refine G_iconst (v := 0) dL_areCounts_164 (by decide) ?_
  refine G_callSW0 (fun _ h => List.mem_append_right _ h) dL_areCounts_165 kL_areCounts_L_count ⟨rfl, rfl⟩ ⟨Nat.zero_le _, Nat.zero_le _⟩ (hK.2.2.2.2.2.1 (0) (by omega)) rfl rfl rfl ?_
  refine G_aload_n dL_areCounts_168 rfl ?_
  refine G_iconst (v := 0) dL_areCounts_169 (by decide) ?_
  refine G_ialdN (j := 0) dL_areCounts_170 ((hΨ f).1.1) (by omega) ?_
  refine G_eqi (rdQl (by omega) : _ = f (0)) ?_
  refine G_icmp_ne 306 dL_areCounts_171 (by decide) (fun q => absurd rfl q) (fun _ => ?_)
  refine G_aload_n dL_areCounts_174 rfl ?_
  refine G_iconst (v := 1) dL_areCounts_175 (by decide) ?_
  refine G_callSW0 (fun _ h => List.mem_append_right _ h) dL_areCounts_176 kL_areCounts_L_count ⟨rfl, rfl⟩ ⟨Nat.zero_le _, Nat.zero_le _⟩ (hK.2.2.2.2.2.1 (1) (by omega)) rfl rfl rfl ?_
  refine G_aload_n dL_areCounts_179 rfl ?_
  refine G_iconst (v := 1) dL_areCounts_180 (by decide) ?_
  refine G_ialdN (j := 1) dL_areCounts_181 ((hΨ f).1.1) (by omega) ?_
  refine G_eqi (rdQl (by omega) : _ = f (1)) ?_
  refine G_icmp_ne 306 dL_areCounts_182 (by decide) (fun q => absurd rfl q) (fun _ => ?_)
  refine G_aload_n dL_areCounts_185 rfl ?_
  refine G_iconst (v := 2) dL_areCounts_186 (by decide) ?_
  refine G_callSW0 (fun _ h => List.mem_append_right _ h) dL_areCounts_187 kL_areCounts_L_count ⟨rfl, rfl⟩ ⟨Nat.zero_le _, Nat.zero_le _⟩ (hK.2.2.2.2.2.1 (2) (by omega)) rfl rfl rfl ?_
  refine G_iconst (v := (-1)) dL_areCounts_190 (by decide) ?_
  refine G_iconst (v := (-1)) dL_areCounts_191 (by decide) ?_
  refine G_aload dL_areCounts_192 rfl ?_
  refine G_callSi dL_areCounts_194 kL_areCounts_L_workers ⟨rfl, rfl⟩ ⟨Nat.zero_le _, Nat.zero_le _⟩ (lm_workers hΨ) rfl rfl rfl ?_
  refine G_icmp_ne 306 dL_areCounts_197 (by decide) (fun q => absurd (wk_cntA ho).symm q) (fun _ => ?_)
  refine G_aload_n dL_areCounts_200 rfl ?_
  refine G_iconst (v := 3) dL_areCounts_201 (by decide) ?_
  refine G_callSW0 (fun _ h => List.mem_append_right _ h) dL_areCounts_202 kL_areCounts_L_count ⟨rfl, rfl⟩ ⟨Nat.zero_le _, Nat.zero_le _⟩ (hK.2.2.2.2.2.1 (3) (by omega)) rfl rfl rfl ?_
  refine G_iload dL_areCounts_205 rfl ?_
  refine G_icmp_ne 306 dL_areCounts_207 (by decide) (fun q => absurd rfl q) (fun _ => ?_)
  refine G_aload_n dL_areCounts_210 rfl ?_
  refine G_iconst (v := 4) dL_areCounts_211 (by decide) ?_
  refine G_callSW0 (fun _ h => List.mem_append_right _ h) dL_areCounts_212 kL_areCounts_L_count ⟨rfl, rfl⟩ ⟨Nat.zero_le _, Nat.zero_le _⟩ (hK.2.2.2.2.2.1 (4) (by omega)) rfl rfl rfl ?_
  refine G_iload dL_areCounts_215 rfl ?_
  refine G_iload dL_areCounts_217 rfl ?_
  refine G_iadd dL_areCounts_219 ?_
  refine G_icmp_ne 306 dL_areCounts_220 (by decide) (fun q => absurd (tvA_eq f) q) (fun _ => ?_)
  refine G_aload_n dL_areCounts_223 rfl ?_
  refine G_iconst (v := 5) dL_areCounts_224 (by decide) ?_
  refine G_callSW0 (fun _ h => List.mem_append_right _ h) dL_areCounts_225 kL_areCounts_L_count ⟨rfl, rfl⟩ ⟨Nat.zero_le _, Nat.zero_le _⟩ (hK.2.2.2.2.2.1 (5) (by omega)) rfl rfl rfl ?_
  refine G_iload dL_areCounts_228 rfl ?_
  refine G_icmp_ne 306 dL_areCounts_230 (by decide) (fun q => absurd rfl q) (fun _ => ?_)
  refine G_aload_n dL_areCounts_233 rfl ?_
  refine G_bipush (v := 6) dL_areCounts_234 (by decide) ?_
  refine G_callSW0 (fun _ h => List.mem_append_right _ h) dL_areCounts_236 kL_areCounts_L_count ⟨rfl, rfl⟩ ⟨Nat.zero_le _, Nat.zero_le _⟩ (hK.2.2.2.2.2.1 (6) (by omega)) rfl rfl rfl ?_
  refine G_iload dL_areCounts_239 rfl ?_
  refine G_icmp_ne 306 dL_areCounts_241 (by decide) (fun q => absurd rfl q) (fun _ => ?_)
  refine G_aload_n dL_areCounts_244 rfl ?_
  refine G_bipush (v := 7) dL_areCounts_245 (by decide) ?_
  refine G_callSW0 (fun _ h => List.mem_append_right _ h) dL_areCounts_247 kL_areCounts_L_count ⟨rfl, rfl⟩ ⟨Nat.zero_le _, Nat.zero_le _⟩ (hK.2.2.2.2.2.1 (7) (by omega)) rfl rfl rfl ?_
  refine G_iload dL_areCounts_250 rfl ?_
  refine G_icmp_ne 306 dL_areCounts_252 (by decide) (fun q => absurd rfl q) (fun _ => ?_)
  refine G_aload_n dL_areCounts_255 rfl ?_
  refine G_bipush (v := 8) dL_areCounts_256 (by decide) ?_
  refine G_callSW0 (fun _ h => List.mem_append_right _ h) dL_areCounts_258 kL_areCounts_L_count ⟨rfl, rfl⟩ ⟨Nat.zero_le _, Nat.zero_le _⟩ (hK.2.2.2.2.2.1 (8) (by omega)) rfl rfl rfl ?_
  refine G_iload dL_areCounts_261 rfl ?_
  refine G_icmp_ne 306 dL_areCounts_263 (by decide) (fun q => absurd rfl q) (fun _ => ?_)
  refine G_aload_n dL_areCounts_266 rfl ?_
  refine G_bipush (v := 9) dL_areCounts_267 (by decide) ?_
  refine G_callSW0 (fun _ h => List.mem_append_right _ h) dL_areCounts_269 kL_areCounts_L_count ⟨rfl, rfl⟩ ⟨Nat.zero_le _, Nat.zero_le _⟩ (hK.2.2.2.2.2.1 (9) (by omega)) rfl rfl rfl ?_
  refine G_aload_n dL_areCounts_272 rfl ?_
  refine G_iconst (v := 2) dL_areCounts_273 (by decide) ?_
  refine G_ialdN (j := 2) dL_areCounts_274 ((hΨ f).1.1) (by omega) ?_
  refine G_eqi (rdQl (by omega) : _ = f (2)) ?_
  refine G_icmp_ne 306 dL_areCounts_275 (by decide) (fun q => absurd rfl q) (fun _ => ?_)
  refine G_aload_n dL_areCounts_278 rfl ?_
  refine G_bipush (v := 10) dL_areCounts_279 (by decide) ?_
  refine G_callSW0 (fun _ h => List.mem_append_right _ h) dL_areCounts_281 kL_areCounts_L_count ⟨rfl, rfl⟩ ⟨Nat.zero_le _, Nat.zero_le _⟩ (hK.2.2.2.2.2.1 (10) (by omega)) rfl rfl rfl ?_
  refine G_aload_n dL_areCounts_284 rfl ?_
  refine G_iconst (v := 3) dL_areCounts_285 (by decide) ?_
  refine G_ialdN (j := 3) dL_areCounts_286 ((hΨ f).1.1) (by omega) ?_
  refine G_eqi (rdQl (by omega) : _ = f (3)) ?_
  refine G_icmp_ne 306 dL_areCounts_287 (by decide) (fun q => absurd rfl q) (fun _ => ?_)
  refine G_aload_n dL_areCounts_290 rfl ?_
  refine G_bipush (v := 11) dL_areCounts_291 (by decide) ?_
  refine G_callSW0 (fun _ h => List.mem_append_right _ h) dL_areCounts_293 kL_areCounts_L_count ⟨rfl, rfl⟩ ⟨Nat.zero_le _, Nat.zero_le _⟩ (hK.2.2.2.2.2.1 (11) (by omega)) rfl rfl rfl ?_
  refine G_aload_n dL_areCounts_296 rfl ?_
  refine G_iconst (v := 4) dL_areCounts_297 (by decide) ?_
  refine G_ialdN (j := 4) dL_areCounts_298 ((hΨ f).1.1) (by omega) ?_
  refine G_eqi (rdQl (by omega) : _ = f (4)) ?_
  refine G_icmp_ne 306 dL_areCounts_299 (by decide) (fun q => absurd rfl q) (fun _ => ?_)
  refine G_iconst (v := 1) dL_areCounts_302 (by decide) ?_
  refine G_goto 307 dL_areCounts_303 (by decide) ?_
  refine G_istore dL_areCounts_307 rfl (L' := [some (.ref 0), some (.ref 11), some (.ref 12), some (.ref 14), some (.ref 15), some (.ref 16), some (.ref 17), some (.int (s_sum f 45 4)), some (.int (s_sum f 73 20 + s_sum f 93 20)), some (.int (s_sum f 113 20)), some (.int (s_sum f 15 5)), some (.int (s_sum f 35 5)), some (.int (s_shs f)), some (.int (s_shs2 f)), some (.int 1)]) rfl ?_
  refine G_iload dL_areCounts_309 rfl ?_
  refine G_if_eqN (a := 1) 368 dL_areCounts_311 (by decide) (by omega) (fun c311 => (show False by omega).elim) (fun _ => ?_)
  refine G_iload dL_areCounts_314 rfl ?_
  refine G_iload dL_areCounts_316 rfl ?_
  refine G_iadd dL_areCounts_318 ?_
  refine G_iload dL_areCounts_319 rfl ?_
  refine G_iadd dL_areCounts_321 ?_
  refine G_iload dL_areCounts_322 rfl ?_
  refine G_iadd dL_areCounts_324 ?_
  refine G_iload dL_areCounts_325 rfl ?_
  refine G_iadd dL_areCounts_327 ?_
  refine G_sipush (v := 8000) dL_areCounts_328 (by decide) ?_
  refine G_icmp_ne 368 dL_areCounts_331 (by decide) (fun q => absurd htot q) (fun _ => ?_)
  refine G_aload_n dL_areCounts_334 rfl ?_
  refine G_callVd dL_areCounts_335 kL_areCounts_X3_dryness ⟨rfl, rfl⟩ ⟨Nat.zero_le _, Nat.zero_le _⟩ (hK.2.2.2.2.2.2.2.2) rfl rfl (hx) rfl rfl ?_
  refine G_iload dL_areCounts_338 rfl ?_
  refine G_iload dL_areCounts_340 rfl ?_
  refine G_iadd dL_areCounts_342 ?_
  refine G_if_ne 350 dL_areCounts_343 (by decide) (fun c343 => ?_) (fun c343 => ?_)
  · refine G_iload dL_areCounts_350 rfl ?_
    refine G_i2d dL_areCounts_352 ?_
    refine G_iload dL_areCounts_353 rfl ?_
    refine G_iload dL_areCounts_355 rfl ?_
    refine G_iadd dL_areCounts_357 ?_
    refine G_i2d dL_areCounts_358 ?_
    refine G_ddiv dL_areCounts_359 (by rw [← tvA_eq]; exact share_n hv (by rw [tvA_eq]; exact c343)) ?_
    refine G_dcmp dL_areCounts_360 ?_
    refine G_if_ne 368 dL_areCounts_361 (by decide) (fun q => absurd (hc2 c343) q) (fun _ => ?_)
    refine G_iconst (v := 1) dL_areCounts_364 (by decide) ?_
    refine G_goto 369 dL_areCounts_365 (by decide) ?_
    exact G_iret dL_areCounts_369 ⟨Nat.zero_le _, Nat.zero_le _⟩ (hX)
  · refine G_dconst1 dL_areCounts_346 ?_
    refine G_goto 360 dL_areCounts_347 (by decide) ?_
    refine G_dcmp dL_areCounts_360 ?_
    refine G_if_ne 368 dL_areCounts_361 (by decide) (fun q => absurd (hc1 c343) q) (fun _ => ?_)
    refine G_iconst (v := 1) dL_areCounts_364 (by decide) ?_
    refine G_goto 369 dL_areCounts_365 (by decide) ?_
    exact G_iret dL_areCounts_369 ⟨Nat.zero_le _, Nat.zero_le _⟩ (hX)
end LG

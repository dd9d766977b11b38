/-! LAW: its calls, and a case each -/
abbrev ML_law : mj_M := (RL, 9, wsL_law, room_1, false, none)
theorem kLw_X3_init : mj_cwI ML_law 87 yX3_init wsX3_init rmI3 0 := ⟨_, _, _, gL_law_X3_init, rfl, by decide +kernel, rfl, by decide +kernel, by decide⟩
theorem kLw_X4_init : mj_cwI ML_law 90 yX4_init wsX4_init rmI4 0 := ⟨_, _, _, gL_law_X4_init, rfl, by decide +kernel, rfl, by decide +kernel, by decide⟩
theorem kLw_L_hearth : mj_cwSW ML_law 91 yL_hearth [(0, 12, 15, 13), (0, 12, 19, 15)] wsL_hearth rmL_hearth 5 := ⟨_, _, _, _, gL_law_L_hearth, rfl, by decide +kernel, by decide⟩
theorem kLw_X4_hearth : mj_cwV ML_law 96 RX4 yX4_hearth wsX4_hearth rmX4_hearth 3 := ⟨_, _, _, _, gL_law_X4_hearth, rfl, by decide +kernel, by decide⟩
theorem kLw_X4_thrown : mj_cwV ML_law 97 RX4 yX4_thrown wsX4_thrown rmX4_thrown 0 := ⟨_, _, _, _, gL_law_X4_thrown, rfl, by decide +kernel, by decide⟩
theorem kLw_L_track : mj_cwSW ML_law 100 yL_track [(0, 10, 13, 13), (0, 10, 17, 15)] wsL_track rmL_track 4 := ⟨_, _, _, _, gL_law_L_track, rfl, by decide +kernel, by decide⟩
theorem kLw_X4_track : mj_cwV ML_law 103 RX4 yX4_track wsX4_track rmX4_track 2 := ⟨_, _, _, _, gL_law_X4_track, rfl, by decide +kernel, by decide⟩
theorem kLw_L_strength : mj_cwSW ML_law 104 yL_strength [(0, 10, 13, 13), (0, 10, 17, 15)] wsL_strength rmL_strength 4 := ⟨_, _, _, _, gL_law_L_strength, rfl, by decide +kernel, by decide⟩
theorem kLw_X4_strength : mj_cwV ML_law 106 RX4 yX4_strength wsX4_strength rmX4_strength 2 := ⟨_, _, _, _, gL_law_X4_strength, rfl, by decide +kernel, by decide⟩
theorem kLw_L_work : mj_cwSW ML_law 107 yL_work [(0, 12, 15, 13), (0, 12, 19, 28)] wsL_work rmL_work 5 := ⟨_, _, _, _, gL_law_L_work, rfl, by decide +kernel, by decide⟩
theorem kLw_X4_work : mj_cwV ML_law 110 RX4 yX4_work wsX4_work rmX4_work 3 := ⟨_, _, _, _, gL_law_X4_work, rfl, by decide +kernel, by decide⟩
theorem kLw_L_rest : mj_cwSW ML_law 111 yL_rest [(0, 9, 12, 13)] wsL_rest rmL_rest 3 := ⟨_, _, _, _, gL_law_L_rest, rfl, by decide +kernel, by decide⟩
theorem kLw_X4_rest : mj_cwV ML_law 114 RX4 yX4_rest wsX4_rest rmX4_rest 1 := ⟨_, _, _, _, gL_law_X4_rest, rfl, by decide +kernel, by decide⟩
theorem kLw_L_give : mj_cwSW ML_law 115 yL_give [(0, 14, 17, 13), (0, 14, 21, 15), (0, 14, 25, 28)] wsL_give rmL_give 6 := ⟨_, _, _, _, gL_law_L_give, rfl, by decide +kernel, by decide⟩
theorem kLw_X4_give : mj_cwV ML_law 118 RX4 yX4_give wsX4_give rmX4_give 4 := ⟨_, _, _, _, gL_law_X4_give, rfl, by decide +kernel, by decide⟩
theorem kLw_X3_snow : mj_cwV ML_law 119 RX3 yX3_snow wsX3_snow rmX3_snow 0 := ⟨_, _, _, _, gL_law_X3_snow, rfl, by decide +kernel, by decide⟩
theorem kLw_X4_snow : mj_cwV ML_law 122 RX4 yX4_snow wsX4_snow rmX4_snow 0 := ⟨_, _, _, _, gL_law_X4_snow, rfl, by decide +kernel, by decide⟩
theorem kLw_L_pass : mj_cwSW ML_law 123 yL_pass [(0, 9, 12, 15)] wsL_pass rmL_pass 3 := ⟨_, _, _, _, gL_law_L_pass, rfl, by decide +kernel, by decide⟩
theorem kLw_X4_pass : mj_cwV ML_law 125 RX4 yX4_pass wsX4_pass rmX4_pass 1 := ⟨_, _, _, _, gL_law_X4_pass, rfl, by decide +kernel, by decide⟩
theorem kLw_L_set : mj_cwSW ML_law 126 yL_set [(0, 10, 13, 13), (0, 10, 17, 15)] wsL_set rmL_set 4 := ⟨_, _, _, _, gL_law_L_set, rfl, by decide +kernel, by decide⟩
theorem kLw_X4_set : mj_cwV ML_law 128 RX4 yX4_set wsX4_set rmX4_set 2 := ⟨_, _, _, _, gL_law_X4_set, rfl, by decide +kernel, by decide⟩
theorem kLw_L_append : mj_cwSW ML_law 129 yL_append [(0, 9, 12, 15), (0, 9, 15, 28)] wsL_append rmL_append 3 := ⟨_, _, _, _, gL_law_L_append, rfl, by decide +kernel, by decide⟩
theorem kLw_X4_append : mj_cwV ML_law 131 RX4 yX4_append wsX4_append rmX4_append 1 := ⟨_, _, _, _, gL_law_X4_append, rfl, by decide +kernel, by decide⟩
theorem kLw_X3_clearBuffer : mj_cwV ML_law 132 RX3 yX3_clearBuffer wsX3_clearBuffer rmX3_clearBuffer 0 := ⟨_, _, _, _, gL_law_X3_clearBuffer, rfl, by decide +kernel, by decide⟩
theorem kLw_X4_clearBuffer : mj_cwV ML_law 135 RX4 yX4_clearBuffer wsX4_clearBuffer rmX4_clearBuffer 0 := ⟨_, _, _, _, gL_law_X4_clearBuffer, rfl, by decide +kernel, by decide⟩
theorem kLw_X3_firstError : mj_cwV ML_law 136 RX3 yX3_firstError wsX3_firstError rmX3_firstError 0 := ⟨_, _, _, _, gL_law_X3_firstError, rfl, by decide +kernel, by decide⟩
theorem kLw_X4_firstError : mj_cwV ML_law 139 RX4 yX4_firstError wsX4_firstError rmX4_firstError 0 := ⟨_, _, _, _, gL_law_X4_firstError, rfl, by decide +kernel, by decide⟩
theorem kLw_L_play : mj_cwSW ML_law 140 yL_play [(0, 8, 11, 15)] wsL_play rmL_play 2 := ⟨_, _, _, _, gL_law_L_play, rfl, by decide +kernel, by decide⟩
theorem kLw_X4_play : mj_cwV ML_law 143 RX4 yX4_play wsX4_play rmX4_play 0 := ⟨_, _, _, _, gL_law_X4_play, rfl, by decide +kernel, by decide⟩
theorem kLw_L_undo : mj_cwSW ML_law 144 yL_undo [(0, 8, 11, 28)] wsL_undo rmL_undo 2 := ⟨_, _, _, _, gL_law_L_undo, rfl, by decide +kernel, by decide⟩
theorem kLw_X4_undo : mj_cwV ML_law 146 RX4 yX4_undo wsX4_undo rmX4_undo 0 := ⟨_, _, _, _, gL_law_X4_undo, rfl, by decide +kernel, by decide⟩
theorem kLw_X3_keep : mj_cwV ML_law 147 RX3 yX3_keep wsX3_keep rmX3_keep 0 := ⟨_, _, _, _, gL_law_X3_keep, rfl, by decide +kernel, by decide⟩
theorem kLw_X4_keep : mj_cwV ML_law 150 RX4 yX4_keep wsX4_keep rmX4_keep 0 := ⟨_, _, _, _, gL_law_X4_keep, rfl, by decide +kernel, by decide⟩
theorem kLw_L_restore : mj_cwSW ML_law 151 yL_restore [(0, 8, 11, 28)] wsL_restore rmL_restore 2 := ⟨_, _, _, _, gL_law_L_restore, rfl, by decide +kernel, by decide⟩
theorem kLw_X4_restore : mj_cwV ML_law 153 RX4 yX4_restore wsX4_restore rmX4_restore 0 := ⟨_, _, _, _, gL_law_X4_restore, rfl, by decide +kernel, by decide⟩
theorem kLw_L_hearthOf : mj_cwSW ML_law 154 yL_hearthOf [(0, 10, 13, 13), (0, 10, 17, 15)] wsL_hearthOf rmL_hearthOf 4 := ⟨_, _, _, _, gL_law_L_hearthOf, rfl, by decide +kernel, by decide⟩
theorem kLw_X4_hearthOf : mj_cwV ML_law 156 RX4 yX4_hearthOf wsX4_hearthOf rmX4_hearthOf 2 := ⟨_, _, _, _, gL_law_X4_hearthOf, rfl, by decide +kernel, by decide⟩
theorem kLw_L_bankOf : mj_cwSW ML_law 157 yL_bankOf [(0, 10, 13, 13), (0, 10, 17, 15)] wsL_bankOf rmL_bankOf 4 := ⟨_, _, _, _, gL_law_L_bankOf, rfl, by decide +kernel, by decide⟩
theorem kLw_X4_bankOf : mj_cwV ML_law 159 RX4 yX4_bankOf wsX4_bankOf rmX4_bankOf 2 := ⟨_, _, _, _, gL_law_X4_bankOf, rfl, by decide +kernel, by decide⟩
theorem kLw_L_plot : mj_cwSW ML_law 160 yL_plot [(0, 12, 15, 13), (0, 12, 19, 15)] wsL_plot rmL_plot 5 := ⟨_, _, _, _, gL_law_L_plot, rfl, by decide +kernel, by decide⟩
theorem kLw_X4_plot : mj_cwV ML_law 162 RX4 yX4_plot wsX4_plot rmX4_plot 3 := ⟨_, _, _, _, gL_law_X4_plot, rfl, by decide +kernel, by decide⟩
theorem kLw_L_cutter : mj_cwSW ML_law 163 yL_cutter [(0, 10, 13, 13), (0, 10, 17, 15)] wsL_cutter rmL_cutter 4 := ⟨_, _, _, _, gL_law_L_cutter, rfl, by decide +kernel, by decide⟩
theorem kLw_X4_cutter : mj_cwV ML_law 165 RX4 yX4_cutter wsX4_cutter rmX4_cutter 2 := ⟨_, _, _, _, gL_law_X4_cutter, rfl, by decide +kernel, by decide⟩
theorem kLw_L_rain : mj_cwSW ML_law 166 yL_rain [(0, 9, 12, 15)] wsL_rain rmL_rain 3 := ⟨_, _, _, _, gL_law_L_rain, rfl, by decide +kernel, by decide⟩
theorem kLw_X4_rain : mj_cwV ML_law 168 RX4 yX4_rain wsX4_rain rmX4_rain 1 := ⟨_, _, _, _, gL_law_X4_rain, rfl, by decide +kernel, by decide⟩
theorem kLw_L_count : mj_cwSW ML_law 169 yL_count [(0, 9, 12, 15)] wsL_count rmL_count 3 := ⟨_, _, _, _, gL_law_L_count, rfl, by decide +kernel, by decide⟩
theorem kLw_X4_count : mj_cwV ML_law 171 RX4 yX4_count wsX4_count rmX4_count 1 := ⟨_, _, _, _, gL_law_X4_count, rfl, by decide +kernel, by decide⟩
theorem kLw_L_whyNot : mj_cwSW ML_law 172 yL_whyNot [(0, 12, 15, 13)] wsL_whyNot rmL_whyNot 5 := ⟨_, _, _, _, gL_law_L_whyNot, rfl, by decide +kernel, by decide⟩
theorem kLw_X4_whyNot : mj_cwV ML_law 174 RX4 yX4_whyNot wsX4_whyNot rmX4_whyNot 3 := ⟨_, _, _, _, gL_law_X4_whyNot, rfl, by decide +kernel, by decide⟩
theorem kLw_L_ifPassed : mj_cwSW ML_law 175 yL_ifPassed [(0, 10, 13, 15)] wsL_ifPassed rmL_ifPassed 4 := ⟨_, _, _, _, gL_law_L_ifPassed, rfl, by decide +kernel, by decide⟩
theorem kLw_X4_ifPassed : mj_cwV ML_law 177 RX4 yX4_ifPassed wsX4_ifPassed rmX4_ifPassed 2 := ⟨_, _, _, _, gL_law_X4_ifPassed, rfl, by decide +kernel, by decide⟩
theorem kLw_L_enoughIn : mj_cwSW ML_law 178 yL_enoughIn [(0, 9, 12, 13)] wsL_enoughIn rmL_enoughIn 3 := ⟨_, _, _, _, gL_law_L_enoughIn, rfl, by decide +kernel, by decide⟩
theorem kLw_X4_enoughIn : mj_cwV ML_law 180 RX4 yX4_enoughIn wsX4_enoughIn rmX4_enoughIn 1 := ⟨_, _, _, _, gL_law_X4_enoughIn, rfl, by decide +kernel, by decide⟩
theorem kLw_L_bestBank : mj_cwSW ML_law 181 yL_bestBank [(0, 10, 13, 13)] wsL_bestBank rmL_bestBank 4 := ⟨_, _, _, _, gL_law_L_bestBank, rfl, by decide +kernel, by decide⟩
theorem kLw_X4_bestBank : mj_cwV ML_law 183 RX4 yX4_bestBank wsX4_bestBank rmX4_bestBank 2 := ⟨_, _, _, _, gL_law_X4_bestBank, rfl, by decide +kernel, by decide⟩
theorem kLw_X3_dryness : mj_cwV ML_law 184 RX3 yX3_dryness wsX3_dryness rmX3_dryness 0 := ⟨_, _, _, _, gL_law_X3_dryness, rfl, by decide +kernel, by decide⟩
theorem kLw_X4_dryness : mj_cwV ML_law 188 RX4 yX4_dryness wsX4_dryness rmX4_dryness 0 := ⟨_, _, _, _, gL_law_X4_dryness, rfl, by decide +kernel, by decide⟩
theorem kLw_X3_digest : mj_cwV ML_law 189 RX3 yX3_digest wsX3_digest rmX3_digest 0 := ⟨_, _, _, _, gL_law_X3_digest, rfl, by decide +kernel, by decide⟩
theorem kLw_X4_digest : mj_cwV ML_law 193 RX4 yX4_digest wsX4_digest rmX4_digest 0 := ⟨_, _, _, _, gL_law_X4_digest, rfl, by decide +kernel, by decide⟩
theorem cmp_self (x : Int64) : lg_cmp x x = 0 := by
  unfold lg_cmp
  rw [if_neg (by simp [Int64.lt_irrefl]), if_pos rfl]
def LC (p : Program) (l : Launch) (s : State) (m : MethodId) (args : Array Value) (meth : Method) (c : Code) (D : va_G) (A : Nat → Prop) (ad0 : Nat → Nat) (a Ls : Nat) (xs : Nat → Int32) : Prop := mj_F l code ML_law D A p s m args meth c ∧ (∀ U : State, s.WarmedH U.vm → ∀ q ∈ ctN, q.before #[] U = true) ∧ va_X a Ls xs s s.heap ∧ a < s.heap.size ∧ ¬ A a ∧ ad0 4000 = a ∧ Ls ≤ 2560 ∧ l.stackTraces = false
section LCs
variable {p : Program} {l : Launch} {e : Env} {s : State} {m : MethodId} {args : Array Value} {below : List Frame} {meth : Method} {c : Code} {Q : State → Prop} {D : va_G} {A : Nat → Prop} {ad0 : Nat → Nat} {N : Nat} {a Ls : Nat} {xs : Nat → Int32} {w : mj_W} {k n i B : Nat} {z5 z6 z7 z8 : Option Value}
theorem lc_hearth (C : LC p l s m args meth c D A ad0 a Ls xs) (hi : i + 5 ≤ Ls) (hB : B < 2147000000) (h : LI B w) (hk3 : k ≤ 3000) (hn3 : n ≤ 40000) (K : ∀ (w' : mj_W) (k' n' : Nat) (y5 y6 y7 y8 : Option Value), LI (B + 4000) w' → k' ≤ k + 1 → n' ≤ n + 6 → GT p l e s m args below meth c Q D A ad0 N ML_law 1711 [some (.ref 4000), some (.ref 0), some (.ref 11), some (.ref 17), some (.int (nI i)), y5, y6, y7, y8] [] w' k' n') : GT p l e s m args below meth c Q D A ad0 N ML_law 164 [some (.ref 4000), some (.ref 0), some (.ref 11), some (.ref 17), some (.int (nI i)), z5, z6, z7, z8] [] w k n := by
  obtain ⟨F, hE, hX, hbl, hbA, hb0, hLs, hl⟩ := C
  by_cases hx : xs (i + 2) = 0
  · obtain ⟨kk, bb, w1, w2, o, fs1, fs2, hH, hM, hT, g1, g2, hw, ho, hI⟩ := st_hearth hl hB h (xs (i + 1)) 0 (xs (i + 3)) (Or.inl rfl)
    refine T_aload_n F dL_law_164 rfl ?_
    refine T_aload_n F dL_law_165 rfl ?_
    refine T_iload F dL_law_166 rfl ?_
    refine T_iconst F (v := 1) dL_law_168 (by decide) ?_
    refine T_iaddN F (a1 := i) (c1 := 1) (s1 := i + 1) dL_law_169 rfl ?_
    refine T_scr F hX hbl hbA hb0 (j := i + 1) ⟨by omega, by omega⟩ dL_law_170 ?_
    refine T_aload_n F dL_law_171 rfl ?_
    refine T_iload F dL_law_172 rfl ?_
    refine T_iconst F (v := 2) dL_law_174 (by decide) ?_
    refine T_iaddN F (a1 := i) (c1 := 2) (s1 := i + 2) dL_law_175 rfl ?_
    refine T_scr F hX hbl hbA hb0 (j := i + 2) ⟨by omega, by omega⟩ dL_law_176 ?_
    refine T_if_eq F 184 dL_law_177 (by decide) (fun _ => ?_) (fun z => absurd hx z)
    refine T_iconst F (v := 0) dL_law_184 (by decide) ?_
    refine T_aload_n F dL_law_185 rfl ?_
    refine T_iload F dL_law_186 rfl ?_
    refine T_iconst F (v := 3) dL_law_188 (by decide) ?_
    refine T_iaddN F (a1 := i) (c1 := 3) (s1 := i + 3) dL_law_189 rfl ?_
    refine T_scr F hX hbl hbA hb0 (j := i + 3) ⟨by omega, by omega⟩ dL_law_190 ?_
    refine T_aload_n F dL_law_191 rfl ?_
    refine T_callSEi F hE ctN_vm dL_law_192 kLw_L_hearth (show k + 1 ≤ 601024 ∧ n + 6 ≤ 7293034 from ⟨by omega, by omega⟩) hH rfl rfl rfl ?_
    refine T_istore F dL_law_195 rfl (L' := [some (.ref 4000), some (.ref 0), some (.ref 11), some (.ref 17), some (.int (nI i)), some (.int kk), z6, z7, z8]) rfl ?_
    refine T_aload_n F dL_law_197 rfl ?_
    refine T_aload_n F dL_law_198 rfl ?_
    refine T_iload F dL_law_199 rfl ?_
    refine T_iconst F (v := 1) dL_law_201 (by decide) ?_
    refine T_iaddN F (a1 := i) (c1 := 1) (s1 := i + 1) dL_law_202 rfl ?_
    refine T_scr F hX hbl hbA hb0 (j := i + 1) ⟨by omega, by omega⟩ dL_law_203 ?_
    refine T_aload_n F dL_law_204 rfl ?_
    refine T_iload F dL_law_205 rfl ?_
    refine T_iconst F (v := 2) dL_law_207 (by decide) ?_
    refine T_iaddN F (a1 := i) (c1 := 2) (s1 := i + 2) dL_law_208 rfl ?_
    refine T_scr F hX hbl hbA hb0 (j := i + 2) ⟨by omega, by omega⟩ dL_law_209 ?_
    refine T_if_eq F 217 dL_law_210 (by decide) (fun _ => ?_) (fun z => absurd hx z)
    refine T_iconst F (v := 0) dL_law_217 (by decide) ?_
    refine T_aload_n F dL_law_218 rfl ?_
    refine T_iload F dL_law_219 rfl ?_
    refine T_iconst F (v := 3) dL_law_221 (by decide) ?_
    refine T_iaddN F (a1 := i) (c1 := 3) (s1 := i + 3) dL_law_222 rfl ?_
    refine T_scr F hX hbl hbA hb0 (j := i + 3) ⟨by omega, by omega⟩ dL_law_223 ?_
    refine T_callM F dL_law_224 kLw_X4_hearth ⟨rfl, rfl⟩ (show k + 1 ≤ 601024 ∧ n + 6 ≤ 7293034 from ⟨by omega, by omega⟩) hM rfl rfl g1 rfl rfl ?_
    refine T_istore F dL_law_227 rfl (L' := [some (.ref 4000), some (.ref 0), some (.ref 11), some (.ref 17), some (.int (nI i)), some (.int kk), some (.int bb), z7, z8]) rfl ?_
    refine T_aload_n F dL_law_229 rfl ?_
    refine T_callM F dL_law_230 kLw_X4_thrown ⟨rfl, rfl⟩ (show k + 1 ≤ 601024 ∧ n + 6 ≤ 7293034 from ⟨by omega, by omega⟩) hT rfl rfl g2 rfl rfl ?_
    refine T_iload F dL_law_233 rfl ?_
    refine T_icmp_eq F 240 dL_law_235 (by decide) (fun _ => ?_) (fun z => absurd rfl z)
    refine T_iload F dL_law_240 rfl ?_
    refine T_if_ne F 257 dL_law_242 (by decide) (fun _ => ?_) (fun hk => ?_)
    · exact T_goto F 1711 dL_law_257 (by decide) (K w2 _ _ _ _ _ _ hI (Nat.le_refl _) (Nat.le_refl _))
    · refine T_aload_n F dL_law_245 rfl ?_
      refine T_iconst F (v := 0) dL_law_246 (by decide) ?_
      refine T_lald0 F dL_law_247 hw ⟨by decide, by decide⟩ ?_
      refine T_iload F dL_law_248 rfl ?_
      refine T_i2l F dL_law_250 ?_
      refine T_lcmp F dL_law_251 ?_
      refine T_if_eq F 257 dL_law_252 (by decide) (fun _ => ?_) (fun z => absurd (by rw [ho hk]; exact cmp_self _) z)
      exact T_goto F 1711 dL_law_257 (by decide) (K w2 _ _ _ _ _ _ hI (Nat.le_refl _) (Nat.le_refl _))
  · obtain ⟨kk, bb, w1, w2, o, fs1, fs2, hH, hM, hT, g1, g2, hw, ho, hI⟩ := st_hearth hl hB h (xs (i + 1)) 1 (xs (i + 3)) (Or.inr rfl)
    refine T_aload_n F dL_law_164 rfl ?_
    refine T_aload_n F dL_law_165 rfl ?_
    refine T_iload F dL_law_166 rfl ?_
    refine T_iconst F (v := 1) dL_law_168 (by decide) ?_
    refine T_iaddN F (a1 := i) (c1 := 1) (s1 := i + 1) dL_law_169 rfl ?_
    refine T_scr F hX hbl hbA hb0 (j := i + 1) ⟨by omega, by omega⟩ dL_law_170 ?_
    refine T_aload_n F dL_law_171 rfl ?_
    refine T_iload F dL_law_172 rfl ?_
    refine T_iconst F (v := 2) dL_law_174 (by decide) ?_
    refine T_iaddN F (a1 := i) (c1 := 2) (s1 := i + 2) dL_law_175 rfl ?_
    refine T_scr F hX hbl hbA hb0 (j := i + 2) ⟨by omega, by omega⟩ dL_law_176 ?_
    refine T_if_eq F 184 dL_law_177 (by decide) (fun z => absurd z hx) (fun _ => ?_)
    refine T_iconst F (v := 1) dL_law_180 (by decide) ?_
    refine T_goto F 185 dL_law_181 (by decide) ?_
    refine T_aload_n F dL_law_185 rfl ?_
    refine T_iload F dL_law_186 rfl ?_
    refine T_iconst F (v := 3) dL_law_188 (by decide) ?_
    refine T_iaddN F (a1 := i) (c1 := 3) (s1 := i + 3) dL_law_189 rfl ?_
    refine T_scr F hX hbl hbA hb0 (j := i + 3) ⟨by omega, by omega⟩ dL_law_190 ?_
    refine T_aload_n F dL_law_191 rfl ?_
    refine T_callSEi F hE ctN_vm dL_law_192 kLw_L_hearth (show k + 1 ≤ 601024 ∧ n + 6 ≤ 7293034 from ⟨by omega, by omega⟩) hH rfl rfl rfl ?_
    refine T_istore F dL_law_195 rfl (L' := [some (.ref 4000), some (.ref 0), some (.ref 11), some (.ref 17), some (.int (nI i)), some (.int kk), z6, z7, z8]) rfl ?_
    refine T_aload_n F dL_law_197 rfl ?_
    refine T_aload_n F dL_law_198 rfl ?_
    refine T_iload F dL_law_199 rfl ?_
    refine T_iconst F (v := 1) dL_law_201 (by decide) ?_
    refine T_iaddN F (a1 := i) (c1 := 1) (s1 := i + 1) dL_law_202 rfl ?_
    refine T_scr F hX hbl hbA hb0 (j := i + 1) ⟨by omega, by omega⟩ dL_law_203 ?_
    refine T_aload_n F dL_law_204 rfl ?_
    refine T_iload F dL_law_205 rfl ?_
    refine T_iconst F (v := 2) dL_law_207 (by decide) ?_
    refine T_iaddN F (a1 := i) (c1 := 2) (s1 := i + 2) dL_law_208 rfl ?_
    refine T_scr F hX hbl hbA hb0 (j := i + 2) ⟨by omega, by omega⟩ dL_law_209 ?_
    refine T_if_eq F 217 dL_law_210 (by decide) (fun z => absurd z hx) (fun _ => ?_)
    refine T_iconst F (v := 1) dL_law_213 (by decide) ?_
    refine T_goto F 218 dL_law_214 (by decide) ?_
    refine T_aload_n F dL_law_218 rfl ?_
    refine T_iload F dL_law_219 rfl ?_
    refine T_iconst F (v := 3) dL_law_221 (by decide) ?_
    refine T_iaddN F (a1 := i) (c1 := 3) (s1 := i + 3) dL_law_222 rfl ?_
    refine T_scr F hX hbl hbA hb0 (j := i + 3) ⟨by omega, by omega⟩ dL_law_223 ?_
    refine T_callM F dL_law_224 kLw_X4_hearth ⟨rfl, rfl⟩ (show k + 1 ≤ 601024 ∧ n + 6 ≤ 7293034 from ⟨by omega, by omega⟩) hM rfl rfl g1 rfl rfl ?_
    refine T_istore F dL_law_227 rfl (L' := [some (.ref 4000), some (.ref 0), some (.ref 11), some (.ref 17), some (.int (nI i)), some (.int kk), some (.int bb), z7, z8]) rfl ?_
    refine T_aload_n F dL_law_229 rfl ?_
    refine T_callM F dL_law_230 kLw_X4_thrown ⟨rfl, rfl⟩ (show k + 1 ≤ 601024 ∧ n + 6 ≤ 7293034 from ⟨by omega, by omega⟩) hT rfl rfl g2 rfl rfl ?_
    refine T_iload F dL_law_233 rfl ?_
    refine T_icmp_eq F 240 dL_law_235 (by decide) (fun _ => ?_) (fun z => absurd rfl z)
    refine T_iload F dL_law_240 rfl ?_
    refine T_if_ne F 257 dL_law_242 (by decide) (fun _ => ?_) (fun hk => ?_)
    · exact T_goto F 1711 dL_law_257 (by decide) (K w2 _ _ _ _ _ _ hI (Nat.le_refl _) (Nat.le_refl _))
    · refine T_aload_n F dL_law_245 rfl ?_
      refine T_iconst F (v := 0) dL_law_246 (by decide) ?_
      refine T_lald0 F dL_law_247 hw ⟨by decide, by decide⟩ ?_
      refine T_iload F dL_law_248 rfl ?_
      refine T_i2l F dL_law_250 ?_
      refine T_lcmp F dL_law_251 ?_
      refine T_if_eq F 257 dL_law_252 (by decide) (fun _ => ?_) (fun z => absurd (by rw [ho hk]; exact cmp_self _) z)
      exact T_goto F 1711 dL_law_257 (by decide) (K w2 _ _ _ _ _ _ hI (Nat.le_refl _) (Nat.le_refl _))
theorem lc_track (C : LC p l s m args meth c D A ad0 a Ls xs) (hi : i + 5 ≤ Ls) (hB : B < 2147000000) (h : LI B w) (hk3 : k ≤ 3000) (hn3 : n ≤ 40000) (K : ∀ (w' : mj_W) (k' n' : Nat) (y5 y6 y7 y8 : Option Value), LI (B + 4000) w' → k' ≤ k + 1 → n' ≤ n + 6 → GT p l e s m args below meth c Q D A ad0 N ML_law 1711 [some (.ref 4000), some (.ref 0), some (.ref 11), some (.ref 17), some (.int (nI i)), y5, y6, y7, y8] [] w' k' n') : GT p l e s m args below meth c Q D A ad0 N ML_law 260 [some (.ref 4000), some (.ref 0), some (.ref 11), some (.ref 17), some (.int (nI i)), z5, z6, z7, z8] [] w k n := by
  obtain ⟨F, hE, hX, hbl, hbA, hb0, hLs, hl⟩ := C
  obtain ⟨kk, bb, w1, w2, o, fs1, fs2, hH, hM, hT, g1, g2, hw, ho, hI⟩ := st_track hl hB h (xs (i + 1)) (xs (i + 2))
  refine T_aload_n F dL_law_260 rfl ?_
  refine T_aload_n F dL_law_261 rfl ?_
  refine T_iload F dL_law_262 rfl ?_
  refine T_iconst F (v := 1) dL_law_264 (by decide) ?_
  refine T_iaddN F (a1 := i) (c1 := 1) (s1 := i + 1) dL_law_265 rfl ?_
  refine T_scr F hX hbl hbA hb0 (j := i + 1) ⟨by omega, by omega⟩ dL_law_266 ?_
  refine T_aload_n F dL_law_267 rfl ?_
  refine T_iload F dL_law_268 rfl ?_
  refine T_iconst F (v := 2) dL_law_270 (by decide) ?_
  refine T_iaddN F (a1 := i) (c1 := 2) (s1 := i + 2) dL_law_271 rfl ?_
  refine T_scr F hX hbl hbA hb0 (j := i + 2) ⟨by omega, by omega⟩ dL_law_272 ?_
  refine T_aload_n F dL_law_273 rfl ?_
  refine T_callSEi F hE ctN_vm dL_law_274 kLw_L_track (show k + 1 ≤ 601024 ∧ n + 6 ≤ 7293034 from ⟨by omega, by omega⟩) hH rfl rfl rfl ?_
  refine T_istore F dL_law_277 rfl (L' := [some (.ref 4000), some (.ref 0), some (.ref 11), some (.ref 17), some (.int (nI i)), some (.int kk), z6, z7, z8]) rfl ?_
  refine T_aload_n F dL_law_279 rfl ?_
  refine T_aload_n F dL_law_280 rfl ?_
  refine T_iload F dL_law_281 rfl ?_
  refine T_iconst F (v := 1) dL_law_283 (by decide) ?_
  refine T_iaddN F (a1 := i) (c1 := 1) (s1 := i + 1) dL_law_284 rfl ?_
  refine T_scr F hX hbl hbA hb0 (j := i + 1) ⟨by omega, by omega⟩ dL_law_285 ?_
  refine T_aload_n F dL_law_286 rfl ?_
  refine T_iload F dL_law_287 rfl ?_
  refine T_iconst F (v := 2) dL_law_289 (by decide) ?_
  refine T_iaddN F (a1 := i) (c1 := 2) (s1 := i + 2) dL_law_290 rfl ?_
  refine T_scr F hX hbl hbA hb0 (j := i + 2) ⟨by omega, by omega⟩ dL_law_291 ?_
  refine T_callM F dL_law_292 kLw_X4_track ⟨rfl, rfl⟩ (show k + 1 ≤ 601024 ∧ n + 6 ≤ 7293034 from ⟨by omega, by omega⟩) hM rfl rfl g1 rfl rfl ?_
  refine T_istore F dL_law_295 rfl (L' := [some (.ref 4000), some (.ref 0), some (.ref 11), some (.ref 17), some (.int (nI i)), some (.int kk), some (.int bb), z7, z8]) rfl ?_
  refine T_aload_n F dL_law_297 rfl ?_
  refine T_callM F dL_law_298 kLw_X4_thrown ⟨rfl, rfl⟩ (show k + 1 ≤ 601024 ∧ n + 6 ≤ 7293034 from ⟨by omega, by omega⟩) hT rfl rfl g2 rfl rfl ?_
  refine T_iload F dL_law_301 rfl ?_
  refine T_icmp_eq F 308 dL_law_303 (by decide) (fun _ => ?_) (fun z => absurd rfl z)
  refine T_iload F dL_law_308 rfl ?_
  refine T_if_ne F 325 dL_law_310 (by decide) (fun _ => ?_) (fun hk => ?_)
  · exact T_goto F 1711 dL_law_325 (by decide) (K w2 _ _ _ _ _ _ hI (Nat.le_refl _) (Nat.le_refl _))
  · refine T_aload_n F dL_law_313 rfl ?_
    refine T_iconst F (v := 0) dL_law_314 (by decide) ?_
    refine T_lald0 F dL_law_315 hw ⟨by decide, by decide⟩ ?_
    refine T_iload F dL_law_316 rfl ?_
    refine T_i2l F dL_law_318 ?_
    refine T_lcmp F dL_law_319 ?_
    refine T_if_eq F 325 dL_law_320 (by decide) (fun _ => ?_) (fun z => absurd (by rw [ho hk]; exact cmp_self _) z)
    exact T_goto F 1711 dL_law_325 (by decide) (K w2 _ _ _ _ _ _ hI (Nat.le_refl _) (Nat.le_refl _))
theorem lc_strength (C : LC p l s m args meth c D A ad0 a Ls xs) (hi : i + 5 ≤ Ls) (hB : B < 2147000000) (h : LI B w) (hk3 : k ≤ 3000) (hn3 : n ≤ 40000) (K : ∀ (w' : mj_W) (k' n' : Nat) (y5 y6 y7 y8 : Option Value), LI (B + 4000) w' → k' ≤ k + 1 → n' ≤ n + 6 → GT p l e s m args below meth c Q D A ad0 N ML_law 1711 [some (.ref 4000), some (.ref 0), some (.ref 11), some (.ref 17), some (.int (nI i)), y5, y6, y7, y8] [] w' k' n') : GT p l e s m args below meth c Q D A ad0 N ML_law 328 [some (.ref 4000), some (.ref 0), some (.ref 11), some (.ref 17), some (.int (nI i)), z5, z6, z7, z8] [] w k n := by
  obtain ⟨F, hE, hX, hbl, hbA, hb0, hLs, hl⟩ := C
  obtain ⟨kk, bb, w1, w2, o, fs1, fs2, hH, hM, hT, g1, g2, hw, ho, hI⟩ := st_strength hl hB h (xs (i + 1)) (xs (i + 2))
  refine T_aload_n F dL_law_328 rfl ?_
  refine T_aload_n F dL_law_329 rfl ?_
  refine T_iload F dL_law_330 rfl ?_
  refine T_iconst F (v := 1) dL_law_332 (by decide) ?_
  refine T_iaddN F (a1 := i) (c1 := 1) (s1 := i + 1) dL_law_333 rfl ?_
  refine T_scr F hX hbl hbA hb0 (j := i + 1) ⟨by omega, by omega⟩ dL_law_334 ?_
  refine T_aload_n F dL_law_335 rfl ?_
  refine T_iload F dL_law_336 rfl ?_
  refine T_iconst F (v := 2) dL_law_338 (by decide) ?_
  refine T_iaddN F (a1 := i) (c1 := 2) (s1 := i + 2) dL_law_339 rfl ?_
  refine T_scr F hX hbl hbA hb0 (j := i + 2) ⟨by omega, by omega⟩ dL_law_340 ?_
  refine T_aload_n F dL_law_341 rfl ?_
  refine T_callSEi F hE ctN_vm dL_law_342 kLw_L_strength (show k + 1 ≤ 601024 ∧ n + 6 ≤ 7293034 from ⟨by omega, by omega⟩) hH rfl rfl rfl ?_
  refine T_istore F dL_law_345 rfl (L' := [some (.ref 4000), some (.ref 0), some (.ref 11), some (.ref 17), some (.int (nI i)), some (.int kk), z6, z7, z8]) rfl ?_
  refine T_aload_n F dL_law_347 rfl ?_
  refine T_aload_n F dL_law_348 rfl ?_
  refine T_iload F dL_law_349 rfl ?_
  refine T_iconst F (v := 1) dL_law_351 (by decide) ?_
  refine T_iaddN F (a1 := i) (c1 := 1) (s1 := i + 1) dL_law_352 rfl ?_
  refine T_scr F hX hbl hbA hb0 (j := i + 1) ⟨by omega, by omega⟩ dL_law_353 ?_
  refine T_aload_n F dL_law_354 rfl ?_
  refine T_iload F dL_law_355 rfl ?_
  refine T_iconst F (v := 2) dL_law_357 (by decide) ?_
  refine T_iaddN F (a1 := i) (c1 := 2) (s1 := i + 2) dL_law_358 rfl ?_
  refine T_scr F hX hbl hbA hb0 (j := i + 2) ⟨by omega, by omega⟩ dL_law_359 ?_
  refine T_callM F dL_law_360 kLw_X4_strength ⟨rfl, rfl⟩ (show k + 1 ≤ 601024 ∧ n + 6 ≤ 7293034 from ⟨by omega, by omega⟩) hM rfl rfl g1 rfl rfl ?_
  refine T_istore F dL_law_363 rfl (L' := [some (.ref 4000), some (.ref 0), some (.ref 11), some (.ref 17), some (.int (nI i)), some (.int kk), some (.int bb), z7, z8]) rfl ?_
  refine T_aload_n F dL_law_365 rfl ?_
  refine T_callM F dL_law_366 kLw_X4_thrown ⟨rfl, rfl⟩ (show k + 1 ≤ 601024 ∧ n + 6 ≤ 7293034 from ⟨by omega, by omega⟩) hT rfl rfl g2 rfl rfl ?_
  refine T_iload F dL_law_369 rfl ?_
  refine T_icmp_eq F 376 dL_law_371 (by decide) (fun _ => ?_) (fun z => absurd rfl z)
  refine T_iload F dL_law_376 rfl ?_
  refine T_if_ne F 393 dL_law_378 (by decide) (fun _ => ?_) (fun hk => ?_)
  · exact T_goto F 1711 dL_law_393 (by decide) (K w2 _ _ _ _ _ _ hI (Nat.le_refl _) (Nat.le_refl _))
  · refine T_aload_n F dL_law_381 rfl ?_
    refine T_iconst F (v := 0) dL_law_382 (by decide) ?_
    refine T_lald0 F dL_law_383 hw ⟨by decide, by decide⟩ ?_
    refine T_iload F dL_law_384 rfl ?_
    refine T_i2l F dL_law_386 ?_
    refine T_lcmp F dL_law_387 ?_
    refine T_if_eq F 393 dL_law_388 (by decide) (fun _ => ?_) (fun z => absurd (by rw [ho hk]; exact cmp_self _) z)
    exact T_goto F 1711 dL_law_393 (by decide) (K w2 _ _ _ _ _ _ hI (Nat.le_refl _) (Nat.le_refl _))
theorem lc_work (C : LC p l s m args meth c D A ad0 a Ls xs) (hi : i + 5 ≤ Ls) (hB : B < 2147000000) (h : LI B w) (hk3 : k ≤ 3000) (hn3 : n ≤ 40000) (K : ∀ (w' : mj_W) (k' n' : Nat) (y5 y6 y7 y8 : Option Value), LI (B + 4000) w' → k' ≤ k + 1 → n' ≤ n + 6 → GT p l e s m args below meth c Q D A ad0 N ML_law 1711 [some (.ref 4000), some (.ref 0), some (.ref 11), some (.ref 17), some (.int (nI i)), y5, y6, y7, y8] [] w' k' n') : GT p l e s m args below meth c Q D A ad0 N ML_law 396 [some (.ref 4000), some (.ref 0), some (.ref 11), some (.ref 17), some (.int (nI i)), z5, z6, z7, z8] [] w k n := by
  obtain ⟨F, hE, hX, hbl, hbA, hb0, hLs, hl⟩ := C
  obtain ⟨kk, bb, w1, w2, o, fs1, fs2, hH, hM, hT, g1, g2, hw, ho, hI⟩ := st_work hl hB h (xs (i + 1)) (xs (i + 2)) (xs (i + 3))
  refine T_aload_n F dL_law_396 rfl ?_
  refine T_aload_n F dL_law_397 rfl ?_
  refine T_iload F dL_law_398 rfl ?_
  refine T_iconst F (v := 1) dL_law_400 (by decide) ?_
  refine T_iaddN F (a1 := i) (c1 := 1) (s1 := i + 1) dL_law_401 rfl ?_
  refine T_scr F hX hbl hbA hb0 (j := i + 1) ⟨by omega, by omega⟩ dL_law_402 ?_
  refine T_aload_n F dL_law_403 rfl ?_
  refine T_iload F dL_law_404 rfl ?_
  refine T_iconst F (v := 2) dL_law_406 (by decide) ?_
  refine T_iaddN F (a1 := i) (c1 := 2) (s1 := i + 2) dL_law_407 rfl ?_
  refine T_scr F hX hbl hbA hb0 (j := i + 2) ⟨by omega, by omega⟩ dL_law_408 ?_
  refine T_aload_n F dL_law_409 rfl ?_
  refine T_iload F dL_law_410 rfl ?_
  refine T_iconst F (v := 3) dL_law_412 (by decide) ?_
  refine T_iaddN F (a1 := i) (c1 := 3) (s1 := i + 3) dL_law_413 rfl ?_
  refine T_scr F hX hbl hbA hb0 (j := i + 3) ⟨by omega, by omega⟩ dL_law_414 ?_
  refine T_aload_n F dL_law_415 rfl ?_
  refine T_callSEi F hE ctN_vm dL_law_416 kLw_L_work (show k + 1 ≤ 601024 ∧ n + 6 ≤ 7293034 from ⟨by omega, by omega⟩) hH rfl rfl rfl ?_
  refine T_istore F dL_law_419 rfl (L' := [some (.ref 4000), some (.ref 0), some (.ref 11), some (.ref 17), some (.int (nI i)), some (.int kk), z6, z7, z8]) rfl ?_
  refine T_aload_n F dL_law_421 rfl ?_
  refine T_aload_n F dL_law_422 rfl ?_
  refine T_iload F dL_law_423 rfl ?_
  refine T_iconst F (v := 1) dL_law_425 (by decide) ?_
  refine T_iaddN F (a1 := i) (c1 := 1) (s1 := i + 1) dL_law_426 rfl ?_
  refine T_scr F hX hbl hbA hb0 (j := i + 1) ⟨by omega, by omega⟩ dL_law_427 ?_
  refine T_aload_n F dL_law_428 rfl ?_
  refine T_iload F dL_law_429 rfl ?_
  refine T_iconst F (v := 2) dL_law_431 (by decide) ?_
  refine T_iaddN F (a1 := i) (c1 := 2) (s1 := i + 2) dL_law_432 rfl ?_
  refine T_scr F hX hbl hbA hb0 (j := i + 2) ⟨by omega, by omega⟩ dL_law_433 ?_
  refine T_aload_n F dL_law_434 rfl ?_
  refine T_iload F dL_law_435 rfl ?_
  refine T_iconst F (v := 3) dL_law_437 (by decide) ?_
  refine T_iaddN F (a1 := i) (c1 := 3) (s1 := i + 3) dL_law_438 rfl ?_
  refine T_scr F hX hbl hbA hb0 (j := i + 3) ⟨by omega, by omega⟩ dL_law_439 ?_
  refine T_callM F dL_law_440 kLw_X4_work ⟨rfl, rfl⟩ (show k + 1 ≤ 601024 ∧ n + 6 ≤ 7293034 from ⟨by omega, by omega⟩) hM rfl rfl g1 rfl rfl ?_
  refine T_istore F dL_law_443 rfl (L' := [some (.ref 4000), some (.ref 0), some (.ref 11), some (.ref 17), some (.int (nI i)), some (.int kk), some (.int bb), z7, z8]) rfl ?_
  refine T_aload_n F dL_law_445 rfl ?_
  refine T_callM F dL_law_446 kLw_X4_thrown ⟨rfl, rfl⟩ (show k + 1 ≤ 601024 ∧ n + 6 ≤ 7293034 from ⟨by omega, by omega⟩) hT rfl rfl g2 rfl rfl ?_
  refine T_iload F dL_law_449 rfl ?_
  refine T_icmp_eq F 456 dL_law_451 (by decide) (fun _ => ?_) (fun z => absurd rfl z)
  refine T_iload F dL_law_456 rfl ?_
  refine T_if_ne F 473 dL_law_458 (by decide) (fun _ => ?_) (fun hk => ?_)
  · exact T_goto F 1711 dL_law_473 (by decide) (K w2 _ _ _ _ _ _ hI (Nat.le_refl _) (Nat.le_refl _))
  · refine T_aload_n F dL_law_461 rfl ?_
    refine T_iconst F (v := 0) dL_law_462 (by decide) ?_
    refine T_lald0 F dL_law_463 hw ⟨by decide, by decide⟩ ?_
    refine T_iload F dL_law_464 rfl ?_
    refine T_i2l F dL_law_466 ?_
    refine T_lcmp F dL_law_467 ?_
    refine T_if_eq F 473 dL_law_468 (by decide) (fun _ => ?_) (fun z => absurd (by rw [ho hk]; exact cmp_self _) z)
    exact T_goto F 1711 dL_law_473 (by decide) (K w2 _ _ _ _ _ _ hI (Nat.le_refl _) (Nat.le_refl _))
theorem lc_rest (C : LC p l s m args meth c D A ad0 a Ls xs) (hi : i + 5 ≤ Ls) (hB : B < 2147000000) (h : LI B w) (hk3 : k ≤ 3000) (hn3 : n ≤ 40000) (K : ∀ (w' : mj_W) (k' n' : Nat) (y5 y6 y7 y8 : Option Value), LI (B + 4000) w' → k' ≤ k + 1 → n' ≤ n + 6 → GT p l e s m args below meth c Q D A ad0 N ML_law 1711 [some (.ref 4000), some (.ref 0), some (.ref 11), some (.ref 17), some (.int (nI i)), y5, y6, y7, y8] [] w' k' n') : GT p l e s m args below meth c Q D A ad0 N ML_law 476 [some (.ref 4000), some (.ref 0), some (.ref 11), some (.ref 17), some (.int (nI i)), z5, z6, z7, z8] [] w k n := by
  obtain ⟨F, hE, hX, hbl, hbA, hb0, hLs, hl⟩ := C
  obtain ⟨kk, bb, w1, w2, o, fs1, fs2, hH, hM, hT, g1, g2, hw, ho, hI⟩ := st_rest hl hB h (xs (i + 1))
  refine T_aload_n F dL_law_476 rfl ?_
  refine T_aload_n F dL_law_477 rfl ?_
  refine T_iload F dL_law_478 rfl ?_
  refine T_iconst F (v := 1) dL_law_480 (by decide) ?_
  refine T_iaddN F (a1 := i) (c1 := 1) (s1 := i + 1) dL_law_481 rfl ?_
  refine T_scr F hX hbl hbA hb0 (j := i + 1) ⟨by omega, by omega⟩ dL_law_482 ?_
  refine T_aload_n F dL_law_483 rfl ?_
  refine T_callSEi F hE ctN_vm dL_law_484 kLw_L_rest (show k + 1 ≤ 601024 ∧ n + 6 ≤ 7293034 from ⟨by omega, by omega⟩) hH rfl rfl rfl ?_
  refine T_istore F dL_law_487 rfl (L' := [some (.ref 4000), some (.ref 0), some (.ref 11), some (.ref 17), some (.int (nI i)), some (.int kk), z6, z7, z8]) rfl ?_
  refine T_aload_n F dL_law_489 rfl ?_
  refine T_aload_n F dL_law_490 rfl ?_
  refine T_iload F dL_law_491 rfl ?_
  refine T_iconst F (v := 1) dL_law_493 (by decide) ?_
  refine T_iaddN F (a1 := i) (c1 := 1) (s1 := i + 1) dL_law_494 rfl ?_
  refine T_scr F hX hbl hbA hb0 (j := i + 1) ⟨by omega, by omega⟩ dL_law_495 ?_
  refine T_callM F dL_law_496 kLw_X4_rest ⟨rfl, rfl⟩ (show k + 1 ≤ 601024 ∧ n + 6 ≤ 7293034 from ⟨by omega, by omega⟩) hM rfl rfl g1 rfl rfl ?_
  refine T_istore F dL_law_499 rfl (L' := [some (.ref 4000), some (.ref 0), some (.ref 11), some (.ref 17), some (.int (nI i)), some (.int kk), some (.int bb), z7, z8]) rfl ?_
  refine T_aload_n F dL_law_501 rfl ?_
  refine T_callM F dL_law_502 kLw_X4_thrown ⟨rfl, rfl⟩ (show k + 1 ≤ 601024 ∧ n + 6 ≤ 7293034 from ⟨by omega, by omega⟩) hT rfl rfl g2 rfl rfl ?_
  refine T_iload F dL_law_505 rfl ?_
  refine T_icmp_eq F 512 dL_law_507 (by decide) (fun _ => ?_) (fun z => absurd rfl z)
  refine T_iload F dL_law_512 rfl ?_
  refine T_if_ne F 529 dL_law_514 (by decide) (fun _ => ?_) (fun hk => ?_)
  · exact T_goto F 1711 dL_law_529 (by decide) (K w2 _ _ _ _ _ _ hI (Nat.le_refl _) (Nat.le_refl _))
  · refine T_aload_n F dL_law_517 rfl ?_
    refine T_iconst F (v := 0) dL_law_518 (by decide) ?_
    refine T_lald0 F dL_law_519 hw ⟨by decide, by decide⟩ ?_
    refine T_iload F dL_law_520 rfl ?_
    refine T_i2l F dL_law_522 ?_
    refine T_lcmp F dL_law_523 ?_
    refine T_if_eq F 529 dL_law_524 (by decide) (fun _ => ?_) (fun z => absurd (by rw [ho hk]; exact cmp_self _) z)
    exact T_goto F 1711 dL_law_529 (by decide) (K w2 _ _ _ _ _ _ hI (Nat.le_refl _) (Nat.le_refl _))
theorem lc_give (C : LC p l s m args meth c D A ad0 a Ls xs) (hi : i + 5 ≤ Ls) (hB : B < 2147000000) (h : LI B w) (hk3 : k ≤ 3000) (hn3 : n ≤ 40000) (K : ∀ (w' : mj_W) (k' n' : Nat) (y5 y6 y7 y8 : Option Value), LI (B + 4000) w' → k' ≤ k + 1 → n' ≤ n + 6 → GT p l e s m args below meth c Q D A ad0 N ML_law 1711 [some (.ref 4000), some (.ref 0), some (.ref 11), some (.ref 17), some (.int (nI i)), y5, y6, y7, y8] [] w' k' n') : GT p l e s m args below meth c Q D A ad0 N ML_law 532 [some (.ref 4000), some (.ref 0), some (.ref 11), some (.ref 17), some (.int (nI i)), z5, z6, z7, z8] [] w k n := by
  obtain ⟨F, hE, hX, hbl, hbA, hb0, hLs, hl⟩ := C
  obtain ⟨kk, bb, w1, w2, o, fs1, fs2, hH, hM, hT, g1, g2, hw, ho, hI⟩ := st_give hl hB h (xs (i + 1)) (xs (i + 2)) (xs (i + 3)) (xs (i + 4))
  refine T_aload_n F dL_law_532 rfl ?_
  refine T_aload_n F dL_law_533 rfl ?_
  refine T_iload F dL_law_534 rfl ?_
  refine T_iconst F (v := 1) dL_law_536 (by decide) ?_
  refine T_iaddN F (a1 := i) (c1 := 1) (s1 := i + 1) dL_law_537 rfl ?_
  refine T_scr F hX hbl hbA hb0 (j := i + 1) ⟨by omega, by omega⟩ dL_law_538 ?_
  refine T_aload_n F dL_law_539 rfl ?_
  refine T_iload F dL_law_540 rfl ?_
  refine T_iconst F (v := 2) dL_law_542 (by decide) ?_
  refine T_iaddN F (a1 := i) (c1 := 2) (s1 := i + 2) dL_law_543 rfl ?_
  refine T_scr F hX hbl hbA hb0 (j := i + 2) ⟨by omega, by omega⟩ dL_law_544 ?_
  refine T_aload_n F dL_law_545 rfl ?_
  refine T_iload F dL_law_546 rfl ?_
  refine T_iconst F (v := 3) dL_law_548 (by decide) ?_
  refine T_iaddN F (a1 := i) (c1 := 3) (s1 := i + 3) dL_law_549 rfl ?_
  refine T_scr F hX hbl hbA hb0 (j := i + 3) ⟨by omega, by omega⟩ dL_law_550 ?_
  refine T_aload_n F dL_law_551 rfl ?_
  refine T_iload F dL_law_552 rfl ?_
  refine T_iconst F (v := 4) dL_law_554 (by decide) ?_
  refine T_iaddN F (a1 := i) (c1 := 4) (s1 := i + 4) dL_law_555 rfl ?_
  refine T_scr F hX hbl hbA hb0 (j := i + 4) ⟨by omega, by omega⟩ dL_law_556 ?_
  refine T_aload_n F dL_law_557 rfl ?_
  refine T_callSEi F hE ctN_vm dL_law_558 kLw_L_give (show k + 1 ≤ 601024 ∧ n + 6 ≤ 7293034 from ⟨by omega, by omega⟩) hH rfl rfl rfl ?_
  refine T_istore F dL_law_561 rfl (L' := [some (.ref 4000), some (.ref 0), some (.ref 11), some (.ref 17), some (.int (nI i)), some (.int kk), z6, z7, z8]) rfl ?_
  refine T_aload_n F dL_law_563 rfl ?_
  refine T_aload_n F dL_law_564 rfl ?_
  refine T_iload F dL_law_565 rfl ?_
  refine T_iconst F (v := 1) dL_law_567 (by decide) ?_
  refine T_iaddN F (a1 := i) (c1 := 1) (s1 := i + 1) dL_law_568 rfl ?_
  refine T_scr F hX hbl hbA hb0 (j := i + 1) ⟨by omega, by omega⟩ dL_law_569 ?_
  refine T_aload_n F dL_law_570 rfl ?_
  refine T_iload F dL_law_571 rfl ?_
  refine T_iconst F (v := 2) dL_law_573 (by decide) ?_
  refine T_iaddN F (a1 := i) (c1 := 2) (s1 := i + 2) dL_law_574 rfl ?_
  refine T_scr F hX hbl hbA hb0 (j := i + 2) ⟨by omega, by omega⟩ dL_law_575 ?_
  refine T_aload_n F dL_law_576 rfl ?_
  refine T_iload F dL_law_577 rfl ?_
  refine T_iconst F (v := 3) dL_law_579 (by decide) ?_
  refine T_iaddN F (a1 := i) (c1 := 3) (s1 := i + 3) dL_law_580 rfl ?_
  refine T_scr F hX hbl hbA hb0 (j := i + 3) ⟨by omega, by omega⟩ dL_law_581 ?_
  refine T_aload_n F dL_law_582 rfl ?_
  refine T_iload F dL_law_583 rfl ?_
  refine T_iconst F (v := 4) dL_law_585 (by decide) ?_
  refine T_iaddN F (a1 := i) (c1 := 4) (s1 := i + 4) dL_law_586 rfl ?_
  refine T_scr F hX hbl hbA hb0 (j := i + 4) ⟨by omega, by omega⟩ dL_law_587 ?_
  refine T_callM F dL_law_588 kLw_X4_give ⟨rfl, rfl⟩ (show k + 1 ≤ 601024 ∧ n + 6 ≤ 7293034 from ⟨by omega, by omega⟩) hM rfl rfl g1 rfl rfl ?_
  refine T_istore F dL_law_591 rfl (L' := [some (.ref 4000), some (.ref 0), some (.ref 11), some (.ref 17), some (.int (nI i)), some (.int kk), some (.int bb), z7, z8]) rfl ?_
  refine T_aload_n F dL_law_593 rfl ?_
  refine T_callM F dL_law_594 kLw_X4_thrown ⟨rfl, rfl⟩ (show k + 1 ≤ 601024 ∧ n + 6 ≤ 7293034 from ⟨by omega, by omega⟩) hT rfl rfl g2 rfl rfl ?_
  refine T_iload F dL_law_597 rfl ?_
  refine T_icmp_eq F 604 dL_law_599 (by decide) (fun _ => ?_) (fun z => absurd rfl z)
  refine T_iload F dL_law_604 rfl ?_
  refine T_if_ne F 621 dL_law_606 (by decide) (fun _ => ?_) (fun hk => ?_)
  · exact T_goto F 1711 dL_law_621 (by decide) (K w2 _ _ _ _ _ _ hI (Nat.le_refl _) (Nat.le_refl _))
  · refine T_aload_n F dL_law_609 rfl ?_
    refine T_iconst F (v := 0) dL_law_610 (by decide) ?_
    refine T_lald0 F dL_law_611 hw ⟨by decide, by decide⟩ ?_
    refine T_iload F dL_law_612 rfl ?_
    refine T_i2l F dL_law_614 ?_
    refine T_lcmp F dL_law_615 ?_
    refine T_if_eq F 621 dL_law_616 (by decide) (fun _ => ?_) (fun z => absurd (by rw [ho hk]; exact cmp_self _) z)
    exact T_goto F 1711 dL_law_621 (by decide) (K w2 _ _ _ _ _ _ hI (Nat.le_refl _) (Nat.le_refl _))
theorem lc_snow (C : LC p l s m args meth c D A ad0 a Ls xs) (hi : i + 5 ≤ Ls) (hB : B < 2147000000) (h : LI B w) (hk3 : k ≤ 3000) (hn3 : n ≤ 40000) (K : ∀ (w' : mj_W) (k' n' : Nat) (y5 y6 y7 y8 : Option Value), LI (B + 4000) w' → k' ≤ k + 1 → n' ≤ n + 6 → GT p l e s m args below meth c Q D A ad0 N ML_law 1711 [some (.ref 4000), some (.ref 0), some (.ref 11), some (.ref 17), some (.int (nI i)), y5, y6, y7, y8] [] w' k' n') : GT p l e s m args below meth c Q D A ad0 N ML_law 624 [some (.ref 4000), some (.ref 0), some (.ref 11), some (.ref 17), some (.int (nI i)), z5, z6, z7, z8] [] w k n := by
  obtain ⟨F, hE, hX, hbl, hbA, hb0, hLs, hl⟩ := C
  obtain ⟨u, w1, w2, fs0, fs1, hX1, hM, g0, g1, hI⟩ := sv_snow (l := l) hB h
  refine T_aload_n F dL_law_624 rfl ?_
  refine T_callM F dL_law_625 kLw_X3_snow ⟨rfl, rfl⟩ (show k ≤ 601024 ∧ n ≤ 7293034 from ⟨by omega, by omega⟩) hX1 rfl rfl g0 rfl rfl ?_
  refine T_aload_n F dL_law_628 rfl ?_
  refine T_callM F dL_law_629 kLw_X4_snow ⟨rfl, rfl⟩ (show k ≤ 601024 ∧ n ≤ 7293034 from ⟨by omega, by omega⟩) hM rfl rfl g1 rfl rfl ?_
  refine T_icmp_eq F 1711 dL_law_632 (by decide) (fun _ => ?_) (fun z => absurd rfl z)
  exact (K w2 _ _ _ _ _ _ hI (Nat.le_succ _) (Nat.le_add_right _ _))
theorem lc_pass (C : LC p l s m args meth c D A ad0 a Ls xs) (hi : i + 5 ≤ Ls) (hB : B < 2147000000) (h : LI B w) (hk3 : k ≤ 3000) (hn3 : n ≤ 40000) (K : ∀ (w' : mj_W) (k' n' : Nat) (y5 y6 y7 y8 : Option Value), LI (B + 4000) w' → k' ≤ k + 1 → n' ≤ n + 6 → GT p l e s m args below meth c Q D A ad0 N ML_law 1711 [some (.ref 4000), some (.ref 0), some (.ref 11), some (.ref 17), some (.int (nI i)), y5, y6, y7, y8] [] w' k' n') : GT p l e s m args below meth c Q D A ad0 N ML_law 637 [some (.ref 4000), some (.ref 0), some (.ref 11), some (.ref 17), some (.int (nI i)), z5, z6, z7, z8] [] w k n := by
  obtain ⟨F, hE, hX, hbl, hbA, hb0, hLs, hl⟩ := C
  obtain ⟨kk, bb, w1, w2, o, fs1, fs2, hH, hM, hT, g1, g2, hw, ho, hI⟩ := st_pass hl hB h (xs (i + 1))
  refine T_aload_n F dL_law_637 rfl ?_
  refine T_aload_n F dL_law_638 rfl ?_
  refine T_iload F dL_law_639 rfl ?_
  refine T_iconst F (v := 1) dL_law_641 (by decide) ?_
  refine T_iaddN F (a1 := i) (c1 := 1) (s1 := i + 1) dL_law_642 rfl ?_
  refine T_scr F hX hbl hbA hb0 (j := i + 1) ⟨by omega, by omega⟩ dL_law_643 ?_
  refine T_aload_n F dL_law_644 rfl ?_
  refine T_callSEi F hE ctN_vm dL_law_645 kLw_L_pass (show k + 1 ≤ 601024 ∧ n + 6 ≤ 7293034 from ⟨by omega, by omega⟩) hH rfl rfl rfl ?_
  refine T_istore F dL_law_648 rfl (L' := [some (.ref 4000), some (.ref 0), some (.ref 11), some (.ref 17), some (.int (nI i)), some (.int kk), z6, z7, z8]) rfl ?_
  refine T_aload_n F dL_law_650 rfl ?_
  refine T_aload_n F dL_law_651 rfl ?_
  refine T_iload F dL_law_652 rfl ?_
  refine T_iconst F (v := 1) dL_law_654 (by decide) ?_
  refine T_iaddN F (a1 := i) (c1 := 1) (s1 := i + 1) dL_law_655 rfl ?_
  refine T_scr F hX hbl hbA hb0 (j := i + 1) ⟨by omega, by omega⟩ dL_law_656 ?_
  refine T_callM F dL_law_657 kLw_X4_pass ⟨rfl, rfl⟩ (show k + 1 ≤ 601024 ∧ n + 6 ≤ 7293034 from ⟨by omega, by omega⟩) hM rfl rfl g1 rfl rfl ?_
  refine T_istore F dL_law_660 rfl (L' := [some (.ref 4000), some (.ref 0), some (.ref 11), some (.ref 17), some (.int (nI i)), some (.int kk), some (.int bb), z7, z8]) rfl ?_
  refine T_aload_n F dL_law_662 rfl ?_
  refine T_callM F dL_law_663 kLw_X4_thrown ⟨rfl, rfl⟩ (show k + 1 ≤ 601024 ∧ n + 6 ≤ 7293034 from ⟨by omega, by omega⟩) hT rfl rfl g2 rfl rfl ?_
  refine T_iload F dL_law_666 rfl ?_
  refine T_icmp_eq F 673 dL_law_668 (by decide) (fun _ => ?_) (fun z => absurd rfl z)
  refine T_iload F dL_law_673 rfl ?_
  refine T_if_ne F 690 dL_law_675 (by decide) (fun _ => ?_) (fun hk => ?_)
  · exact T_goto F 1711 dL_law_690 (by decide) (K w2 _ _ _ _ _ _ hI (Nat.le_refl _) (Nat.le_refl _))
  · refine T_aload_n F dL_law_678 rfl ?_
    refine T_iconst F (v := 0) dL_law_679 (by decide) ?_
    refine T_lald0 F dL_law_680 hw ⟨by decide, by decide⟩ ?_
    refine T_iload F dL_law_681 rfl ?_
    refine T_i2l F dL_law_683 ?_
    refine T_lcmp F dL_law_684 ?_
    refine T_if_eq F 690 dL_law_685 (by decide) (fun _ => ?_) (fun z => absurd (by rw [ho hk]; exact cmp_self _) z)
    exact T_goto F 1711 dL_law_690 (by decide) (K w2 _ _ _ _ _ _ hI (Nat.le_refl _) (Nat.le_refl _))
theorem lc_set (C : LC p l s m args meth c D A ad0 a Ls xs) (hi : i + 5 ≤ Ls) (hB : B < 2147000000) (h : LI B w) (hk3 : k ≤ 3000) (hn3 : n ≤ 40000) (K : ∀ (w' : mj_W) (k' n' : Nat) (y5 y6 y7 y8 : Option Value), LI (B + 4000) w' → k' ≤ k + 1 → n' ≤ n + 6 → GT p l e s m args below meth c Q D A ad0 N ML_law 1711 [some (.ref 4000), some (.ref 0), some (.ref 11), some (.ref 17), some (.int (nI i)), y5, y6, y7, y8] [] w' k' n') : GT p l e s m args below meth c Q D A ad0 N ML_law 693 [some (.ref 4000), some (.ref 0), some (.ref 11), some (.ref 17), some (.int (nI i)), z5, z6, z7, z8] [] w k n := by
  obtain ⟨F, hE, hX, hbl, hbA, hb0, hLs, hl⟩ := C
  obtain ⟨kk, bb, w1, w2, o, fs1, fs2, hH, hM, hT, g1, g2, hw, ho, hI⟩ := st_set hl hB h (xs (i + 1)) (xs (i + 2))
  refine T_aload_n F dL_law_693 rfl ?_
  refine T_aload_n F dL_law_694 rfl ?_
  refine T_iload F dL_law_695 rfl ?_
  refine T_iconst F (v := 1) dL_law_697 (by decide) ?_
  refine T_iaddN F (a1 := i) (c1 := 1) (s1 := i + 1) dL_law_698 rfl ?_
  refine T_scr F hX hbl hbA hb0 (j := i + 1) ⟨by omega, by omega⟩ dL_law_699 ?_
  refine T_aload_n F dL_law_700 rfl ?_
  refine T_iload F dL_law_701 rfl ?_
  refine T_iconst F (v := 2) dL_law_703 (by decide) ?_
  refine T_iaddN F (a1 := i) (c1 := 2) (s1 := i + 2) dL_law_704 rfl ?_
  refine T_scr F hX hbl hbA hb0 (j := i + 2) ⟨by omega, by omega⟩ dL_law_705 ?_
  refine T_aload_n F dL_law_706 rfl ?_
  refine T_callSEi F hE ctN_vm dL_law_707 kLw_L_set (show k + 1 ≤ 601024 ∧ n + 6 ≤ 7293034 from ⟨by omega, by omega⟩) hH rfl rfl rfl ?_
  refine T_istore F dL_law_710 rfl (L' := [some (.ref 4000), some (.ref 0), some (.ref 11), some (.ref 17), some (.int (nI i)), some (.int kk), z6, z7, z8]) rfl ?_
  refine T_aload_n F dL_law_712 rfl ?_
  refine T_aload_n F dL_law_713 rfl ?_
  refine T_iload F dL_law_714 rfl ?_
  refine T_iconst F (v := 1) dL_law_716 (by decide) ?_
  refine T_iaddN F (a1 := i) (c1 := 1) (s1 := i + 1) dL_law_717 rfl ?_
  refine T_scr F hX hbl hbA hb0 (j := i + 1) ⟨by omega, by omega⟩ dL_law_718 ?_
  refine T_aload_n F dL_law_719 rfl ?_
  refine T_iload F dL_law_720 rfl ?_
  refine T_iconst F (v := 2) dL_law_722 (by decide) ?_
  refine T_iaddN F (a1 := i) (c1 := 2) (s1 := i + 2) dL_law_723 rfl ?_
  refine T_scr F hX hbl hbA hb0 (j := i + 2) ⟨by omega, by omega⟩ dL_law_724 ?_
  refine T_callM F dL_law_725 kLw_X4_set ⟨rfl, rfl⟩ (show k + 1 ≤ 601024 ∧ n + 6 ≤ 7293034 from ⟨by omega, by omega⟩) hM rfl rfl g1 rfl rfl ?_
  refine T_istore F dL_law_728 rfl (L' := [some (.ref 4000), some (.ref 0), some (.ref 11), some (.ref 17), some (.int (nI i)), some (.int kk), some (.int bb), z7, z8]) rfl ?_
  refine T_aload_n F dL_law_730 rfl ?_
  refine T_callM F dL_law_731 kLw_X4_thrown ⟨rfl, rfl⟩ (show k + 1 ≤ 601024 ∧ n + 6 ≤ 7293034 from ⟨by omega, by omega⟩) hT rfl rfl g2 rfl rfl ?_
  refine T_iload F dL_law_734 rfl ?_
  refine T_icmp_eq F 741 dL_law_736 (by decide) (fun _ => ?_) (fun z => absurd rfl z)
  refine T_iload F dL_law_741 rfl ?_
  refine T_if_ne F 758 dL_law_743 (by decide) (fun _ => ?_) (fun hk => ?_)
  · exact T_goto F 1711 dL_law_758 (by decide) (K w2 _ _ _ _ _ _ hI (Nat.le_refl _) (Nat.le_refl _))
  · refine T_aload_n F dL_law_746 rfl ?_
    refine T_iconst F (v := 0) dL_law_747 (by decide) ?_
    refine T_lald0 F dL_law_748 hw ⟨by decide, by decide⟩ ?_
    refine T_iload F dL_law_749 rfl ?_
    refine T_i2l F dL_law_751 ?_
    refine T_lcmp F dL_law_752 ?_
    refine T_if_eq F 758 dL_law_753 (by decide) (fun _ => ?_) (fun z => absurd (by rw [ho hk]; exact cmp_self _) z)
    exact T_goto F 1711 dL_law_758 (by decide) (K w2 _ _ _ _ _ _ hI (Nat.le_refl _) (Nat.le_refl _))
theorem lc_append (C : LC p l s m args meth c D A ad0 a Ls xs) (hi : i + 5 ≤ Ls) (hB : B < 2147000000) (h : LI B w) (hk3 : k ≤ 3000) (hn3 : n ≤ 40000) (K : ∀ (w' : mj_W) (k' n' : Nat) (y5 y6 y7 y8 : Option Value), LI (B + 4000) w' → k' ≤ k + 1 → n' ≤ n + 6 → GT p l e s m args below meth c Q D A ad0 N ML_law 1711 [some (.ref 4000), some (.ref 0), some (.ref 11), some (.ref 17), some (.int (nI i)), y5, y6, y7, y8] [] w' k' n') : GT p l e s m args below meth c Q D A ad0 N ML_law 761 [some (.ref 4000), some (.ref 0), some (.ref 11), some (.ref 17), some (.int (nI i)), z5, z6, z7, z8] [] w k n := by
  obtain ⟨F, hE, hX, hbl, hbA, hb0, hLs, hl⟩ := C
  obtain ⟨kk, bb, w1, w2, o, fs1, fs2, hH, hM, hT, g1, g2, hw, ho, hI⟩ := st_append hl hB h (xs (i + 1))
  refine T_aload_n F dL_law_761 rfl ?_
  refine T_aload_n F dL_law_762 rfl ?_
  refine T_iload F dL_law_763 rfl ?_
  refine T_iconst F (v := 1) dL_law_765 (by decide) ?_
  refine T_iaddN F (a1 := i) (c1 := 1) (s1 := i + 1) dL_law_766 rfl ?_
  refine T_scr F hX hbl hbA hb0 (j := i + 1) ⟨by omega, by omega⟩ dL_law_767 ?_
  refine T_aload_n F dL_law_768 rfl ?_
  refine T_callSEi F hE ctN_vm dL_law_769 kLw_L_append (show k + 1 ≤ 601024 ∧ n + 6 ≤ 7293034 from ⟨by omega, by omega⟩) hH rfl rfl rfl ?_
  refine T_istore F dL_law_772 rfl (L' := [some (.ref 4000), some (.ref 0), some (.ref 11), some (.ref 17), some (.int (nI i)), some (.int kk), z6, z7, z8]) rfl ?_
  refine T_aload_n F dL_law_774 rfl ?_
  refine T_aload_n F dL_law_775 rfl ?_
  refine T_iload F dL_law_776 rfl ?_
  refine T_iconst F (v := 1) dL_law_778 (by decide) ?_
  refine T_iaddN F (a1 := i) (c1 := 1) (s1 := i + 1) dL_law_779 rfl ?_
  refine T_scr F hX hbl hbA hb0 (j := i + 1) ⟨by omega, by omega⟩ dL_law_780 ?_
  refine T_callM F dL_law_781 kLw_X4_append ⟨rfl, rfl⟩ (show k + 1 ≤ 601024 ∧ n + 6 ≤ 7293034 from ⟨by omega, by omega⟩) hM rfl rfl g1 rfl rfl ?_
  refine T_istore F dL_law_784 rfl (L' := [some (.ref 4000), some (.ref 0), some (.ref 11), some (.ref 17), some (.int (nI i)), some (.int kk), some (.int bb), z7, z8]) rfl ?_
  refine T_aload_n F dL_law_786 rfl ?_
  refine T_callM F dL_law_787 kLw_X4_thrown ⟨rfl, rfl⟩ (show k + 1 ≤ 601024 ∧ n + 6 ≤ 7293034 from ⟨by omega, by omega⟩) hT rfl rfl g2 rfl rfl ?_
  refine T_iload F dL_law_790 rfl ?_
  refine T_icmp_eq F 797 dL_law_792 (by decide) (fun _ => ?_) (fun z => absurd rfl z)
  refine T_iload F dL_law_797 rfl ?_
  refine T_if_ne F 814 dL_law_799 (by decide) (fun _ => ?_) (fun hk => ?_)
  · exact T_goto F 1711 dL_law_814 (by decide) (K w2 _ _ _ _ _ _ hI (Nat.le_refl _) (Nat.le_refl _))
  · refine T_aload_n F dL_law_802 rfl ?_
    refine T_iconst F (v := 0) dL_law_803 (by decide) ?_
    refine T_lald0 F dL_law_804 hw ⟨by decide, by decide⟩ ?_
    refine T_iload F dL_law_805 rfl ?_
    refine T_i2l F dL_law_807 ?_
    refine T_lcmp F dL_law_808 ?_
    refine T_if_eq F 814 dL_law_809 (by decide) (fun _ => ?_) (fun z => absurd (by rw [ho hk]; exact cmp_self _) z)
    exact T_goto F 1711 dL_law_814 (by decide) (K w2 _ _ _ _ _ _ hI (Nat.le_refl _) (Nat.le_refl _))
theorem lc_clearBuffer (C : LC p l s m args meth c D A ad0 a Ls xs) (hi : i + 5 ≤ Ls) (hB : B < 2147000000) (h : LI B w) (hk3 : k ≤ 3000) (hn3 : n ≤ 40000) (K : ∀ (w' : mj_W) (k' n' : Nat) (y5 y6 y7 y8 : Option Value), LI (B + 4000) w' → k' ≤ k + 1 → n' ≤ n + 6 → GT p l e s m args below meth c Q D A ad0 N ML_law 1711 [some (.ref 4000), some (.ref 0), some (.ref 11), some (.ref 17), some (.int (nI i)), y5, y6, y7, y8] [] w' k' n') : GT p l e s m args below meth c Q D A ad0 N ML_law 817 [some (.ref 4000), some (.ref 0), some (.ref 11), some (.ref 17), some (.int (nI i)), z5, z6, z7, z8] [] w k n := by
  obtain ⟨F, hE, hX, hbl, hbA, hb0, hLs, hl⟩ := C
  obtain ⟨u, w1, w2, fs0, fs1, hX1, hM, g0, g1, hI⟩ := sv_clearBuffer (l := l) hB h
  refine T_aload_n F dL_law_817 rfl ?_
  refine T_callM F dL_law_818 kLw_X3_clearBuffer ⟨rfl, rfl⟩ (show k ≤ 601024 ∧ n ≤ 7293034 from ⟨by omega, by omega⟩) hX1 rfl rfl g0 rfl rfl ?_
  refine T_aload_n F dL_law_821 rfl ?_
  refine T_callM F dL_law_822 kLw_X4_clearBuffer ⟨rfl, rfl⟩ (show k ≤ 601024 ∧ n ≤ 7293034 from ⟨by omega, by omega⟩) hM rfl rfl g1 rfl rfl ?_
  refine T_icmp_eq F 1711 dL_law_825 (by decide) (fun _ => ?_) (fun z => absurd rfl z)
  exact (K w2 _ _ _ _ _ _ hI (Nat.le_succ _) (Nat.le_add_right _ _))
theorem lc_firstError (C : LC p l s m args meth c D A ad0 a Ls xs) (hi : i + 5 ≤ Ls) (hB : B < 2147000000) (h : LI B w) (hk3 : k ≤ 3000) (hn3 : n ≤ 40000) (K : ∀ (w' : mj_W) (k' n' : Nat) (y5 y6 y7 y8 : Option Value), LI (B + 4000) w' → k' ≤ k + 1 → n' ≤ n + 6 → GT p l e s m args below meth c Q D A ad0 N ML_law 1711 [some (.ref 4000), some (.ref 0), some (.ref 11), some (.ref 17), some (.int (nI i)), y5, y6, y7, y8] [] w' k' n') : GT p l e s m args below meth c Q D A ad0 N ML_law 830 [some (.ref 4000), some (.ref 0), some (.ref 11), some (.ref 17), some (.int (nI i)), z5, z6, z7, z8] [] w k n := by
  obtain ⟨F, hE, hX, hbl, hbA, hb0, hLs, hl⟩ := C
  obtain ⟨u, w1, w2, fs0, fs1, hX1, hM, g0, g1, hI⟩ := sv_firstError (l := l) hB h
  refine T_aload_n F dL_law_830 rfl ?_
  refine T_callM F dL_law_831 kLw_X3_firstError ⟨rfl, rfl⟩ (show k ≤ 601024 ∧ n ≤ 7293034 from ⟨by omega, by omega⟩) hX1 rfl rfl g0 rfl rfl ?_
  refine T_aload_n F dL_law_834 rfl ?_
  refine T_callM F dL_law_835 kLw_X4_firstError ⟨rfl, rfl⟩ (show k ≤ 601024 ∧ n ≤ 7293034 from ⟨by omega, by omega⟩) hM rfl rfl g1 rfl rfl ?_
  refine T_icmp_eq F 1711 dL_law_838 (by decide) (fun _ => ?_) (fun z => absurd rfl z)
  exact (K w2 _ _ _ _ _ _ hI (Nat.le_succ _) (Nat.le_add_right _ _))
theorem lc_play (C : LC p l s m args meth c D A ad0 a Ls xs) (hi : i + 5 ≤ Ls) (hB : B < 2147000000) (h : LI B w) (hk3 : k ≤ 3000) (hn3 : n ≤ 40000) (K : ∀ (w' : mj_W) (k' n' : Nat) (y5 y6 y7 y8 : Option Value), LI (B + 4000) w' → k' ≤ k + 1 → n' ≤ n + 6 → GT p l e s m args below meth c Q D A ad0 N ML_law 1711 [some (.ref 4000), some (.ref 0), some (.ref 11), some (.ref 17), some (.int (nI i)), y5, y6, y7, y8] [] w' k' n') : GT p l e s m args below meth c Q D A ad0 N ML_law 843 [some (.ref 4000), some (.ref 0), some (.ref 11), some (.ref 17), some (.int (nI i)), z5, z6, z7, z8] [] w k n := by
  obtain ⟨F, hE, hX, hbl, hbA, hb0, hLs, hl⟩ := C
  obtain ⟨kk, bb, w1, w2, o, fs1, fs2, hH, hM, hT, g1, g2, hw, ho, hI⟩ := st_play hl hB h
  refine T_aload_n F dL_law_843 rfl ?_
  refine T_aload_n F dL_law_844 rfl ?_
  refine T_callSEi F hE ctN_vm dL_law_845 kLw_L_play (show k + 1 ≤ 601024 ∧ n + 6 ≤ 7293034 from ⟨by omega, by omega⟩) hH rfl rfl rfl ?_
  refine T_istore F dL_law_848 rfl (L' := [some (.ref 4000), some (.ref 0), some (.ref 11), some (.ref 17), some (.int (nI i)), some (.int kk), z6, z7, z8]) rfl ?_
  refine T_aload_n F dL_law_850 rfl ?_
  refine T_callM F dL_law_851 kLw_X4_play ⟨rfl, rfl⟩ (show k + 1 ≤ 601024 ∧ n + 6 ≤ 7293034 from ⟨by omega, by omega⟩) hM rfl rfl g1 rfl rfl ?_
  refine T_istore F dL_law_854 rfl (L' := [some (.ref 4000), some (.ref 0), some (.ref 11), some (.ref 17), some (.int (nI i)), some (.int kk), some (.int bb), z7, z8]) rfl ?_
  refine T_aload_n F dL_law_856 rfl ?_
  refine T_callM F dL_law_857 kLw_X4_thrown ⟨rfl, rfl⟩ (show k + 1 ≤ 601024 ∧ n + 6 ≤ 7293034 from ⟨by omega, by omega⟩) hT rfl rfl g2 rfl rfl ?_
  refine T_iload F dL_law_860 rfl ?_
  refine T_icmp_eq F 867 dL_law_862 (by decide) (fun _ => ?_) (fun z => absurd rfl z)
  refine T_iload F dL_law_867 rfl ?_
  refine T_if_ne F 884 dL_law_869 (by decide) (fun _ => ?_) (fun hk => ?_)
  · exact T_goto F 1711 dL_law_884 (by decide) (K w2 _ _ _ _ _ _ hI (Nat.le_refl _) (Nat.le_refl _))
  · refine T_aload_n F dL_law_872 rfl ?_
    refine T_iconst F (v := 0) dL_law_873 (by decide) ?_
    refine T_lald0 F dL_law_874 hw ⟨by decide, by decide⟩ ?_
    refine T_iload F dL_law_875 rfl ?_
    refine T_i2l F dL_law_877 ?_
    refine T_lcmp F dL_law_878 ?_
    refine T_if_eq F 884 dL_law_879 (by decide) (fun _ => ?_) (fun z => absurd (by rw [ho hk]; exact cmp_self _) z)
    exact T_goto F 1711 dL_law_884 (by decide) (K w2 _ _ _ _ _ _ hI (Nat.le_refl _) (Nat.le_refl _))
theorem lc_undo (C : LC p l s m args meth c D A ad0 a Ls xs) (hi : i + 5 ≤ Ls) (hB : B < 2147000000) (h : LI B w) (hk3 : k ≤ 3000) (hn3 : n ≤ 40000) (K : ∀ (w' : mj_W) (k' n' : Nat) (y5 y6 y7 y8 : Option Value), LI (B + 4000) w' → k' ≤ k + 1 → n' ≤ n + 6 → GT p l e s m args below meth c Q D A ad0 N ML_law 1711 [some (.ref 4000), some (.ref 0), some (.ref 11), some (.ref 17), some (.int (nI i)), y5, y6, y7, y8] [] w' k' n') : GT p l e s m args below meth c Q D A ad0 N ML_law 887 [some (.ref 4000), some (.ref 0), some (.ref 11), some (.ref 17), some (.int (nI i)), z5, z6, z7, z8] [] w k n := by
  obtain ⟨F, hE, hX, hbl, hbA, hb0, hLs, hl⟩ := C
  obtain ⟨kk, bb, w1, w2, o, fs1, fs2, hH, hM, hT, g1, g2, hw, ho, hI⟩ := st_undo hl hB h
  refine T_aload_n F dL_law_887 rfl ?_
  refine T_aload_n F dL_law_888 rfl ?_
  refine T_callSEi F hE ctN_vm dL_law_889 kLw_L_undo (show k + 1 ≤ 601024 ∧ n + 6 ≤ 7293034 from ⟨by omega, by omega⟩) hH rfl rfl rfl ?_
  refine T_istore F dL_law_892 rfl (L' := [some (.ref 4000), some (.ref 0), some (.ref 11), some (.ref 17), some (.int (nI i)), some (.int kk), z6, z7, z8]) rfl ?_
  refine T_aload_n F dL_law_894 rfl ?_
  refine T_callM F dL_law_895 kLw_X4_undo ⟨rfl, rfl⟩ (show k + 1 ≤ 601024 ∧ n + 6 ≤ 7293034 from ⟨by omega, by omega⟩) hM rfl rfl g1 rfl rfl ?_
  refine T_istore F dL_law_898 rfl (L' := [some (.ref 4000), some (.ref 0), some (.ref 11), some (.ref 17), some (.int (nI i)), some (.int kk), some (.int bb), z7, z8]) rfl ?_
  refine T_aload_n F dL_law_900 rfl ?_
  refine T_callM F dL_law_901 kLw_X4_thrown ⟨rfl, rfl⟩ (show k + 1 ≤ 601024 ∧ n + 6 ≤ 7293034 from ⟨by omega, by omega⟩) hT rfl rfl g2 rfl rfl ?_
  refine T_iload F dL_law_904 rfl ?_
  refine T_icmp_eq F 911 dL_law_906 (by decide) (fun _ => ?_) (fun z => absurd rfl z)
  refine T_iload F dL_law_911 rfl ?_
  refine T_if_ne F 928 dL_law_913 (by decide) (fun _ => ?_) (fun hk => ?_)
  · exact T_goto F 1711 dL_law_928 (by decide) (K w2 _ _ _ _ _ _ hI (Nat.le_refl _) (Nat.le_refl _))
  · refine T_aload_n F dL_law_916 rfl ?_
    refine T_iconst F (v := 0) dL_law_917 (by decide) ?_
    refine T_lald0 F dL_law_918 hw ⟨by decide, by decide⟩ ?_
    refine T_iload F dL_law_919 rfl ?_
    refine T_i2l F dL_law_921 ?_
    refine T_lcmp F dL_law_922 ?_
    refine T_if_eq F 928 dL_law_923 (by decide) (fun _ => ?_) (fun z => absurd (by rw [ho hk]; exact cmp_self _) z)
    exact T_goto F 1711 dL_law_928 (by decide) (K w2 _ _ _ _ _ _ hI (Nat.le_refl _) (Nat.le_refl _))
theorem lc_keep (C : LC p l s m args meth c D A ad0 a Ls xs) (hi : i + 5 ≤ Ls) (hB : B < 2147000000) (h : LI B w) (hk3 : k ≤ 3000) (hn3 : n ≤ 40000) (K : ∀ (w' : mj_W) (k' n' : Nat) (y5 y6 y7 y8 : Option Value), LI (B + 4000) w' → k' ≤ k + 1 → n' ≤ n + 6 → GT p l e s m args below meth c Q D A ad0 N ML_law 1711 [some (.ref 4000), some (.ref 0), some (.ref 11), some (.ref 17), some (.int (nI i)), y5, y6, y7, y8] [] w' k' n') : GT p l e s m args below meth c Q D A ad0 N ML_law 931 [some (.ref 4000), some (.ref 0), some (.ref 11), some (.ref 17), some (.int (nI i)), z5, z6, z7, z8] [] w k n := by
  obtain ⟨F, hE, hX, hbl, hbA, hb0, hLs, hl⟩ := C
  obtain ⟨u, w1, w2, fs0, fs1, hX1, hM, g0, g1, hI⟩ := sv_keep (l := l) hB h
  refine T_aload_n F dL_law_931 rfl ?_
  refine T_callM F dL_law_932 kLw_X3_keep ⟨rfl, rfl⟩ (show k ≤ 601024 ∧ n ≤ 7293034 from ⟨by omega, by omega⟩) hX1 rfl rfl g0 rfl rfl ?_
  refine T_aload_n F dL_law_935 rfl ?_
  refine T_callM F dL_law_936 kLw_X4_keep ⟨rfl, rfl⟩ (show k ≤ 601024 ∧ n ≤ 7293034 from ⟨by omega, by omega⟩) hM rfl rfl g1 rfl rfl ?_
  refine T_icmp_eq F 1711 dL_law_939 (by decide) (fun _ => ?_) (fun z => absurd rfl z)
  exact (K w2 _ _ _ _ _ _ hI (Nat.le_succ _) (Nat.le_add_right _ _))
theorem lc_restore (C : LC p l s m args meth c D A ad0 a Ls xs) (hi : i + 5 ≤ Ls) (hB : B < 2147000000) (h : LI B w) (hk3 : k ≤ 3000) (hn3 : n ≤ 40000) (K : ∀ (w' : mj_W) (k' n' : Nat) (y5 y6 y7 y8 : Option Value), LI (B + 4000) w' → k' ≤ k + 1 → n' ≤ n + 6 → GT p l e s m args below meth c Q D A ad0 N ML_law 1711 [some (.ref 4000), some (.ref 0), some (.ref 11), some (.ref 17), some (.int (nI i)), y5, y6, y7, y8] [] w' k' n') : GT p l e s m args below meth c Q D A ad0 N ML_law 944 [some (.ref 4000), some (.ref 0), some (.ref 11), some (.ref 17), some (.int (nI i)), z5, z6, z7, z8] [] w k n := by
  obtain ⟨F, hE, hX, hbl, hbA, hb0, hLs, hl⟩ := C
  obtain ⟨kk, bb, w1, w2, o, fs1, fs2, hH, hM, hT, g1, g2, hw, ho, hI⟩ := st_restore hl hB h
  refine T_aload_n F dL_law_944 rfl ?_
  refine T_aload_n F dL_law_945 rfl ?_
  refine T_callSEi F hE ctN_vm dL_law_946 kLw_L_restore (show k + 1 ≤ 601024 ∧ n + 6 ≤ 7293034 from ⟨by omega, by omega⟩) hH rfl rfl rfl ?_
  refine T_istore F dL_law_949 rfl (L' := [some (.ref 4000), some (.ref 0), some (.ref 11), some (.ref 17), some (.int (nI i)), some (.int kk), z6, z7, z8]) rfl ?_
  refine T_aload_n F dL_law_951 rfl ?_
  refine T_callM F dL_law_952 kLw_X4_restore ⟨rfl, rfl⟩ (show k + 1 ≤ 601024 ∧ n + 6 ≤ 7293034 from ⟨by omega, by omega⟩) hM rfl rfl g1 rfl rfl ?_
  refine T_istore F dL_law_955 rfl (L' := [some (.ref 4000), some (.ref 0), some (.ref 11), some (.ref 17), some (.int (nI i)), some (.int kk), some (.int bb), z7, z8]) rfl ?_
  refine T_aload_n F dL_law_957 rfl ?_
  refine T_callM F dL_law_958 kLw_X4_thrown ⟨rfl, rfl⟩ (show k + 1 ≤ 601024 ∧ n + 6 ≤ 7293034 from ⟨by omega, by omega⟩) hT rfl rfl g2 rfl rfl ?_
  refine T_iload F dL_law_961 rfl ?_
  refine T_icmp_eq F 968 dL_law_963 (by decide) (fun _ => ?_) (fun z => absurd rfl z)
  refine T_iload F dL_law_968 rfl ?_
  refine T_if_ne F 985 dL_law_970 (by decide) (fun _ => ?_) (fun hk => ?_)
  · exact T_goto F 1711 dL_law_985 (by decide) (K w2 _ _ _ _ _ _ hI (Nat.le_refl _) (Nat.le_refl _))
  · refine T_aload_n F dL_law_973 rfl ?_
    refine T_iconst F (v := 0) dL_law_974 (by decide) ?_
    refine T_lald0 F dL_law_975 hw ⟨by decide, by decide⟩ ?_
    refine T_iload F dL_law_976 rfl ?_
    refine T_i2l F dL_law_978 ?_
    refine T_lcmp F dL_law_979 ?_
    refine T_if_eq F 985 dL_law_980 (by decide) (fun _ => ?_) (fun z => absurd (by rw [ho hk]; exact cmp_self _) z)
    exact T_goto F 1711 dL_law_985 (by decide) (K w2 _ _ _ _ _ _ hI (Nat.le_refl _) (Nat.le_refl _))
theorem lc_hearthOf (C : LC p l s m args meth c D A ad0 a Ls xs) (hi : i + 5 ≤ Ls) (hB : B < 2147000000) (h : LI B w) (hk3 : k ≤ 3000) (hn3 : n ≤ 40000) (K : ∀ (w' : mj_W) (k' n' : Nat) (y5 y6 y7 y8 : Option Value), LI (B + 4000) w' → k' ≤ k + 1 → n' ≤ n + 6 → GT p l e s m args below meth c Q D A ad0 N ML_law 1711 [some (.ref 4000), some (.ref 0), some (.ref 11), some (.ref 17), some (.int (nI i)), y5, y6, y7, y8] [] w' k' n') : GT p l e s m args below meth c Q D A ad0 N ML_law 988 [some (.ref 4000), some (.ref 0), some (.ref 11), some (.ref 17), some (.int (nI i)), z5, z6, z7, z8] [] w k n := by
  obtain ⟨F, hE, hX, hbl, hbA, hb0, hLs, hl⟩ := C
  obtain ⟨kk, bb, w1, w2, o, fs1, fs2, hH, hM, hT, g1, g2, hw, ho, hI⟩ := st_hearthOf hl hB h (xs (i + 1)) (xs (i + 2))
  refine T_aload_n F dL_law_988 rfl ?_
  refine T_aload_n F dL_law_989 rfl ?_
  refine T_iload F dL_law_990 rfl ?_
  refine T_iconst F (v := 1) dL_law_992 (by decide) ?_
  refine T_iaddN F (a1 := i) (c1 := 1) (s1 := i + 1) dL_law_993 rfl ?_
  refine T_scr F hX hbl hbA hb0 (j := i + 1) ⟨by omega, by omega⟩ dL_law_994 ?_
  refine T_aload_n F dL_law_995 rfl ?_
  refine T_iload F dL_law_996 rfl ?_
  refine T_iconst F (v := 2) dL_law_998 (by decide) ?_
  refine T_iaddN F (a1 := i) (c1 := 2) (s1 := i + 2) dL_law_999 rfl ?_
  refine T_scr F hX hbl hbA hb0 (j := i + 2) ⟨by omega, by omega⟩ dL_law_1000 ?_
  refine T_aload_n F dL_law_1001 rfl ?_
  refine T_callSEi F hE ctN_vm dL_law_1002 kLw_L_hearthOf (show k + 1 ≤ 601024 ∧ n + 6 ≤ 7293034 from ⟨by omega, by omega⟩) hH rfl rfl rfl ?_
  refine T_istore F dL_law_1005 rfl (L' := [some (.ref 4000), some (.ref 0), some (.ref 11), some (.ref 17), some (.int (nI i)), some (.int kk), z6, z7, z8]) rfl ?_
  refine T_aload_n F dL_law_1007 rfl ?_
  refine T_aload_n F dL_law_1008 rfl ?_
  refine T_iload F dL_law_1009 rfl ?_
  refine T_iconst F (v := 1) dL_law_1011 (by decide) ?_
  refine T_iaddN F (a1 := i) (c1 := 1) (s1 := i + 1) dL_law_1012 rfl ?_
  refine T_scr F hX hbl hbA hb0 (j := i + 1) ⟨by omega, by omega⟩ dL_law_1013 ?_
  refine T_aload_n F dL_law_1014 rfl ?_
  refine T_iload F dL_law_1015 rfl ?_
  refine T_iconst F (v := 2) dL_law_1017 (by decide) ?_
  refine T_iaddN F (a1 := i) (c1 := 2) (s1 := i + 2) dL_law_1018 rfl ?_
  refine T_scr F hX hbl hbA hb0 (j := i + 2) ⟨by omega, by omega⟩ dL_law_1019 ?_
  refine T_callM F dL_law_1020 kLw_X4_hearthOf ⟨rfl, rfl⟩ (show k + 1 ≤ 601024 ∧ n + 6 ≤ 7293034 from ⟨by omega, by omega⟩) hM rfl rfl g1 rfl rfl ?_
  refine T_istore F dL_law_1023 rfl (L' := [some (.ref 4000), some (.ref 0), some (.ref 11), some (.ref 17), some (.int (nI i)), some (.int kk), some (.int bb), z7, z8]) rfl ?_
  refine T_aload_n F dL_law_1025 rfl ?_
  refine T_callM F dL_law_1026 kLw_X4_thrown ⟨rfl, rfl⟩ (show k + 1 ≤ 601024 ∧ n + 6 ≤ 7293034 from ⟨by omega, by omega⟩) hT rfl rfl g2 rfl rfl ?_
  refine T_iload F dL_law_1029 rfl ?_
  refine T_icmp_eq F 1036 dL_law_1031 (by decide) (fun _ => ?_) (fun z => absurd rfl z)
  refine T_iload F dL_law_1036 rfl ?_
  refine T_if_ne F 1053 dL_law_1038 (by decide) (fun _ => ?_) (fun hk => ?_)
  · exact T_goto F 1711 dL_law_1053 (by decide) (K w2 _ _ _ _ _ _ hI (Nat.le_refl _) (Nat.le_refl _))
  · refine T_aload_n F dL_law_1041 rfl ?_
    refine T_iconst F (v := 0) dL_law_1042 (by decide) ?_
    refine T_lald0 F dL_law_1043 hw ⟨by decide, by decide⟩ ?_
    refine T_iload F dL_law_1044 rfl ?_
    refine T_i2l F dL_law_1046 ?_
    refine T_lcmp F dL_law_1047 ?_
    refine T_if_eq F 1053 dL_law_1048 (by decide) (fun _ => ?_) (fun z => absurd (by rw [ho hk]; exact cmp_self _) z)
    exact T_goto F 1711 dL_law_1053 (by decide) (K w2 _ _ _ _ _ _ hI (Nat.le_refl _) (Nat.le_refl _))
theorem lc_bankOf (C : LC p l s m args meth c D A ad0 a Ls xs) (hi : i + 5 ≤ Ls) (hB : B < 2147000000) (h : LI B w) (hk3 : k ≤ 3000) (hn3 : n ≤ 40000) (K : ∀ (w' : mj_W) (k' n' : Nat) (y5 y6 y7 y8 : Option Value), LI (B + 4000) w' → k' ≤ k + 1 → n' ≤ n + 6 → GT p l e s m args below meth c Q D A ad0 N ML_law 1711 [some (.ref 4000), some (.ref 0), some (.ref 11), some (.ref 17), some (.int (nI i)), y5, y6, y7, y8] [] w' k' n') : GT p l e s m args below meth c Q D A ad0 N ML_law 1056 [some (.ref 4000), some (.ref 0), some (.ref 11), some (.ref 17), some (.int (nI i)), z5, z6, z7, z8] [] w k n := by
  obtain ⟨F, hE, hX, hbl, hbA, hb0, hLs, hl⟩ := C
  obtain ⟨kk, bb, w1, w2, o, fs1, fs2, hH, hM, hT, g1, g2, hw, ho, hI⟩ := st_bankOf hl hB h (xs (i + 1)) (xs (i + 2))
  refine T_aload_n F dL_law_1056 rfl ?_
  refine T_aload_n F dL_law_1057 rfl ?_
  refine T_iload F dL_law_1058 rfl ?_
  refine T_iconst F (v := 1) dL_law_1060 (by decide) ?_
  refine T_iaddN F (a1 := i) (c1 := 1) (s1 := i + 1) dL_law_1061 rfl ?_
  refine T_scr F hX hbl hbA hb0 (j := i + 1) ⟨by omega, by omega⟩ dL_law_1062 ?_
  refine T_aload_n F dL_law_1063 rfl ?_
  refine T_iload F dL_law_1064 rfl ?_
  refine T_iconst F (v := 2) dL_law_1066 (by decide) ?_
  refine T_iaddN F (a1 := i) (c1 := 2) (s1 := i + 2) dL_law_1067 rfl ?_
  refine T_scr F hX hbl hbA hb0 (j := i + 2) ⟨by omega, by omega⟩ dL_law_1068 ?_
  refine T_aload_n F dL_law_1069 rfl ?_
  refine T_callSEi F hE ctN_vm dL_law_1070 kLw_L_bankOf (show k + 1 ≤ 601024 ∧ n + 6 ≤ 7293034 from ⟨by omega, by omega⟩) hH rfl rfl rfl ?_
  refine T_istore F dL_law_1073 rfl (L' := [some (.ref 4000), some (.ref 0), some (.ref 11), some (.ref 17), some (.int (nI i)), some (.int kk), z6, z7, z8]) rfl ?_
  refine T_aload_n F dL_law_1075 rfl ?_
  refine T_aload_n F dL_law_1076 rfl ?_
  refine T_iload F dL_law_1077 rfl ?_
  refine T_iconst F (v := 1) dL_law_1079 (by decide) ?_
  refine T_iaddN F (a1 := i) (c1 := 1) (s1 := i + 1) dL_law_1080 rfl ?_
  refine T_scr F hX hbl hbA hb0 (j := i + 1) ⟨by omega, by omega⟩ dL_law_1081 ?_
  refine T_aload_n F dL_law_1082 rfl ?_
  refine T_iload F dL_law_1083 rfl ?_
  refine T_iconst F (v := 2) dL_law_1085 (by decide) ?_
  refine T_iaddN F (a1 := i) (c1 := 2) (s1 := i + 2) dL_law_1086 rfl ?_
  refine T_scr F hX hbl hbA hb0 (j := i + 2) ⟨by omega, by omega⟩ dL_law_1087 ?_
  refine T_callM F dL_law_1088 kLw_X4_bankOf ⟨rfl, rfl⟩ (show k + 1 ≤ 601024 ∧ n + 6 ≤ 7293034 from ⟨by omega, by omega⟩) hM rfl rfl g1 rfl rfl ?_
  refine T_istore F dL_law_1091 rfl (L' := [some (.ref 4000), some (.ref 0), some (.ref 11), some (.ref 17), some (.int (nI i)), some (.int kk), some (.int bb), z7, z8]) rfl ?_
  refine T_aload_n F dL_law_1093 rfl ?_
  refine T_callM F dL_law_1094 kLw_X4_thrown ⟨rfl, rfl⟩ (show k + 1 ≤ 601024 ∧ n + 6 ≤ 7293034 from ⟨by omega, by omega⟩) hT rfl rfl g2 rfl rfl ?_
  refine T_iload F dL_law_1097 rfl ?_
  refine T_icmp_eq F 1104 dL_law_1099 (by decide) (fun _ => ?_) (fun z => absurd rfl z)
  refine T_iload F dL_law_1104 rfl ?_
  refine T_if_ne F 1121 dL_law_1106 (by decide) (fun _ => ?_) (fun hk => ?_)
  · exact T_goto F 1711 dL_law_1121 (by decide) (K w2 _ _ _ _ _ _ hI (Nat.le_refl _) (Nat.le_refl _))
  · refine T_aload_n F dL_law_1109 rfl ?_
    refine T_iconst F (v := 0) dL_law_1110 (by decide) ?_
    refine T_lald0 F dL_law_1111 hw ⟨by decide, by decide⟩ ?_
    refine T_iload F dL_law_1112 rfl ?_
    refine T_i2l F dL_law_1114 ?_
    refine T_lcmp F dL_law_1115 ?_
    refine T_if_eq F 1121 dL_law_1116 (by decide) (fun _ => ?_) (fun z => absurd (by rw [ho hk]; exact cmp_self _) z)
    exact T_goto F 1711 dL_law_1121 (by decide) (K w2 _ _ _ _ _ _ hI (Nat.le_refl _) (Nat.le_refl _))
theorem lc_plot (C : LC p l s m args meth c D A ad0 a Ls xs) (hi : i + 5 ≤ Ls) (hB : B < 2147000000) (h : LI B w) (hk3 : k ≤ 3000) (hn3 : n ≤ 40000) (K : ∀ (w' : mj_W) (k' n' : Nat) (y5 y6 y7 y8 : Option Value), LI (B + 4000) w' → k' ≤ k + 1 → n' ≤ n + 6 → GT p l e s m args below meth c Q D A ad0 N ML_law 1711 [some (.ref 4000), some (.ref 0), some (.ref 11), some (.ref 17), some (.int (nI i)), y5, y6, y7, y8] [] w' k' n') : GT p l e s m args below meth c Q D A ad0 N ML_law 1124 [some (.ref 4000), some (.ref 0), some (.ref 11), some (.ref 17), some (.int (nI i)), z5, z6, z7, z8] [] w k n := by
  obtain ⟨F, hE, hX, hbl, hbA, hb0, hLs, hl⟩ := C
  obtain ⟨kk, bb, w1, w2, o, fs1, fs2, hH, hM, hT, g1, g2, hw, ho, hI⟩ := st_plot hl hB h (xs (i + 1)) (xs (i + 2)) (xs (i + 3))
  refine T_aload_n F dL_law_1124 rfl ?_
  refine T_aload_n F dL_law_1125 rfl ?_
  refine T_iload F dL_law_1126 rfl ?_
  refine T_iconst F (v := 1) dL_law_1128 (by decide) ?_
  refine T_iaddN F (a1 := i) (c1 := 1) (s1 := i + 1) dL_law_1129 rfl ?_
  refine T_scr F hX hbl hbA hb0 (j := i + 1) ⟨by omega, by omega⟩ dL_law_1130 ?_
  refine T_aload_n F dL_law_1131 rfl ?_
  refine T_iload F dL_law_1132 rfl ?_
  refine T_iconst F (v := 2) dL_law_1134 (by decide) ?_
  refine T_iaddN F (a1 := i) (c1 := 2) (s1 := i + 2) dL_law_1135 rfl ?_
  refine T_scr F hX hbl hbA hb0 (j := i + 2) ⟨by omega, by omega⟩ dL_law_1136 ?_
  refine T_aload_n F dL_law_1137 rfl ?_
  refine T_iload F dL_law_1138 rfl ?_
  refine T_iconst F (v := 3) dL_law_1140 (by decide) ?_
  refine T_iaddN F (a1 := i) (c1 := 3) (s1 := i + 3) dL_law_1141 rfl ?_
  refine T_scr F hX hbl hbA hb0 (j := i + 3) ⟨by omega, by omega⟩ dL_law_1142 ?_
  refine T_aload_n F dL_law_1143 rfl ?_
  refine T_callSEi F hE ctN_vm dL_law_1144 kLw_L_plot (show k + 1 ≤ 601024 ∧ n + 6 ≤ 7293034 from ⟨by omega, by omega⟩) hH rfl rfl rfl ?_
  refine T_istore F dL_law_1147 rfl (L' := [some (.ref 4000), some (.ref 0), some (.ref 11), some (.ref 17), some (.int (nI i)), some (.int kk), z6, z7, z8]) rfl ?_
  refine T_aload_n F dL_law_1149 rfl ?_
  refine T_aload_n F dL_law_1150 rfl ?_
  refine T_iload F dL_law_1151 rfl ?_
  refine T_iconst F (v := 1) dL_law_1153 (by decide) ?_
  refine T_iaddN F (a1 := i) (c1 := 1) (s1 := i + 1) dL_law_1154 rfl ?_
  refine T_scr F hX hbl hbA hb0 (j := i + 1) ⟨by omega, by omega⟩ dL_law_1155 ?_
  refine T_aload_n F dL_law_1156 rfl ?_
  refine T_iload F dL_law_1157 rfl ?_
  refine T_iconst F (v := 2) dL_law_1159 (by decide) ?_
  refine T_iaddN F (a1 := i) (c1 := 2) (s1 := i + 2) dL_law_1160 rfl ?_
  refine T_scr F hX hbl hbA hb0 (j := i + 2) ⟨by omega, by omega⟩ dL_law_1161 ?_
  refine T_aload_n F dL_law_1162 rfl ?_
  refine T_iload F dL_law_1163 rfl ?_
  refine T_iconst F (v := 3) dL_law_1165 (by decide) ?_
  refine T_iaddN F (a1 := i) (c1 := 3) (s1 := i + 3) dL_law_1166 rfl ?_
  refine T_scr F hX hbl hbA hb0 (j := i + 3) ⟨by omega, by omega⟩ dL_law_1167 ?_
  refine T_callM F dL_law_1168 kLw_X4_plot ⟨rfl, rfl⟩ (show k + 1 ≤ 601024 ∧ n + 6 ≤ 7293034 from ⟨by omega, by omega⟩) hM rfl rfl g1 rfl rfl ?_
  refine T_istore F dL_law_1171 rfl (L' := [some (.ref 4000), some (.ref 0), some (.ref 11), some (.ref 17), some (.int (nI i)), some (.int kk), some (.int bb), z7, z8]) rfl ?_
  refine T_aload_n F dL_law_1173 rfl ?_
  refine T_callM F dL_law_1174 kLw_X4_thrown ⟨rfl, rfl⟩ (show k + 1 ≤ 601024 ∧ n + 6 ≤ 7293034 from ⟨by omega, by omega⟩) hT rfl rfl g2 rfl rfl ?_
  refine T_iload F dL_law_1177 rfl ?_
  refine T_icmp_eq F 1184 dL_law_1179 (by decide) (fun _ => ?_) (fun z => absurd rfl z)
  refine T_iload F dL_law_1184 rfl ?_
  refine T_if_ne F 1201 dL_law_1186 (by decide) (fun _ => ?_) (fun hk => ?_)
  · exact T_goto F 1711 dL_law_1201 (by decide) (K w2 _ _ _ _ _ _ hI (Nat.le_refl _) (Nat.le_refl _))
  · refine T_aload_n F dL_law_1189 rfl ?_
    refine T_iconst F (v := 0) dL_law_1190 (by decide) ?_
    refine T_lald0 F dL_law_1191 hw ⟨by decide, by decide⟩ ?_
    refine T_iload F dL_law_1192 rfl ?_
    refine T_i2l F dL_law_1194 ?_
    refine T_lcmp F dL_law_1195 ?_
    refine T_if_eq F 1201 dL_law_1196 (by decide) (fun _ => ?_) (fun z => absurd (by rw [ho hk]; exact cmp_self _) z)
    exact T_goto F 1711 dL_law_1201 (by decide) (K w2 _ _ _ _ _ _ hI (Nat.le_refl _) (Nat.le_refl _))
theorem lc_cutter (C : LC p l s m args meth c D A ad0 a Ls xs) (hi : i + 5 ≤ Ls) (hB : B < 2147000000) (h : LI B w) (hk3 : k ≤ 3000) (hn3 : n ≤ 40000) (K : ∀ (w' : mj_W) (k' n' : Nat) (y5 y6 y7 y8 : Option Value), LI (B + 4000) w' → k' ≤ k + 1 → n' ≤ n + 6 → GT p l e s m args below meth c Q D A ad0 N ML_law 1711 [some (.ref 4000), some (.ref 0), some (.ref 11), some (.ref 17), some (.int (nI i)), y5, y6, y7, y8] [] w' k' n') : GT p l e s m args below meth c Q D A ad0 N ML_law 1204 [some (.ref 4000), some (.ref 0), some (.ref 11), some (.ref 17), some (.int (nI i)), z5, z6, z7, z8] [] w k n := by
  obtain ⟨F, hE, hX, hbl, hbA, hb0, hLs, hl⟩ := C
  obtain ⟨kk, bb, w1, w2, o, fs1, fs2, hH, hM, hT, g1, g2, hw, ho, hI⟩ := st_cutter hl hB h (xs (i + 1)) (xs (i + 2))
  refine T_aload_n F dL_law_1204 rfl ?_
  refine T_aload_n F dL_law_1205 rfl ?_
  refine T_iload F dL_law_1206 rfl ?_
  refine T_iconst F (v := 1) dL_law_1208 (by decide) ?_
  refine T_iaddN F (a1 := i) (c1 := 1) (s1 := i + 1) dL_law_1209 rfl ?_
  refine T_scr F hX hbl hbA hb0 (j := i + 1) ⟨by omega, by omega⟩ dL_law_1210 ?_
  refine T_aload_n F dL_law_1211 rfl ?_
  refine T_iload F dL_law_1212 rfl ?_
  refine T_iconst F (v := 2) dL_law_1214 (by decide) ?_
  refine T_iaddN F (a1 := i) (c1 := 2) (s1 := i + 2) dL_law_1215 rfl ?_
  refine T_scr F hX hbl hbA hb0 (j := i + 2) ⟨by omega, by omega⟩ dL_law_1216 ?_
  refine T_aload_n F dL_law_1217 rfl ?_
  refine T_callSEi F hE ctN_vm dL_law_1218 kLw_L_cutter (show k + 1 ≤ 601024 ∧ n + 6 ≤ 7293034 from ⟨by omega, by omega⟩) hH rfl rfl rfl ?_
  refine T_istore F dL_law_1221 rfl (L' := [some (.ref 4000), some (.ref 0), some (.ref 11), some (.ref 17), some (.int (nI i)), some (.int kk), z6, z7, z8]) rfl ?_
  refine T_aload_n F dL_law_1223 rfl ?_
  refine T_aload_n F dL_law_1224 rfl ?_
  refine T_iload F dL_law_1225 rfl ?_
  refine T_iconst F (v := 1) dL_law_1227 (by decide) ?_
  refine T_iaddN F (a1 := i) (c1 := 1) (s1 := i + 1) dL_law_1228 rfl ?_
  refine T_scr F hX hbl hbA hb0 (j := i + 1) ⟨by omega, by omega⟩ dL_law_1229 ?_
  refine T_aload_n F dL_law_1230 rfl ?_
  refine T_iload F dL_law_1231 rfl ?_
  refine T_iconst F (v := 2) dL_law_1233 (by decide) ?_
  refine T_iaddN F (a1 := i) (c1 := 2) (s1 := i + 2) dL_law_1234 rfl ?_
  refine T_scr F hX hbl hbA hb0 (j := i + 2) ⟨by omega, by omega⟩ dL_law_1235 ?_
  refine T_callM F dL_law_1236 kLw_X4_cutter ⟨rfl, rfl⟩ (show k + 1 ≤ 601024 ∧ n + 6 ≤ 7293034 from ⟨by omega, by omega⟩) hM rfl rfl g1 rfl rfl ?_
  refine T_istore F dL_law_1239 rfl (L' := [some (.ref 4000), some (.ref 0), some (.ref 11), some (.ref 17), some (.int (nI i)), some (.int kk), some (.int bb), z7, z8]) rfl ?_
  refine T_aload_n F dL_law_1241 rfl ?_
  refine T_callM F dL_law_1242 kLw_X4_thrown ⟨rfl, rfl⟩ (show k + 1 ≤ 601024 ∧ n + 6 ≤ 7293034 from ⟨by omega, by omega⟩) hT rfl rfl g2 rfl rfl ?_
  refine T_iload F dL_law_1245 rfl ?_
  refine T_icmp_eq F 1252 dL_law_1247 (by decide) (fun _ => ?_) (fun z => absurd rfl z)
  refine T_iload F dL_law_1252 rfl ?_
  refine T_if_ne F 1269 dL_law_1254 (by decide) (fun _ => ?_) (fun hk => ?_)
  · exact T_goto F 1711 dL_law_1269 (by decide) (K w2 _ _ _ _ _ _ hI (Nat.le_refl _) (Nat.le_refl _))
  · refine T_aload_n F dL_law_1257 rfl ?_
    refine T_iconst F (v := 0) dL_law_1258 (by decide) ?_
    refine T_lald0 F dL_law_1259 hw ⟨by decide, by decide⟩ ?_
    refine T_iload F dL_law_1260 rfl ?_
    refine T_i2l F dL_law_1262 ?_
    refine T_lcmp F dL_law_1263 ?_
    refine T_if_eq F 1269 dL_law_1264 (by decide) (fun _ => ?_) (fun z => absurd (by rw [ho hk]; exact cmp_self _) z)
    exact T_goto F 1711 dL_law_1269 (by decide) (K w2 _ _ _ _ _ _ hI (Nat.le_refl _) (Nat.le_refl _))
theorem lc_rain (C : LC p l s m args meth c D A ad0 a Ls xs) (hi : i + 5 ≤ Ls) (hB : B < 2147000000) (h : LI B w) (hk3 : k ≤ 3000) (hn3 : n ≤ 40000) (K : ∀ (w' : mj_W) (k' n' : Nat) (y5 y6 y7 y8 : Option Value), LI (B + 4000) w' → k' ≤ k + 1 → n' ≤ n + 6 → GT p l e s m args below meth c Q D A ad0 N ML_law 1711 [some (.ref 4000), some (.ref 0), some (.ref 11), some (.ref 17), some (.int (nI i)), y5, y6, y7, y8] [] w' k' n') : GT p l e s m args below meth c Q D A ad0 N ML_law 1272 [some (.ref 4000), some (.ref 0), some (.ref 11), some (.ref 17), some (.int (nI i)), z5, z6, z7, z8] [] w k n := by
  obtain ⟨F, hE, hX, hbl, hbA, hb0, hLs, hl⟩ := C
  obtain ⟨kk, bb, w1, w2, o, fs1, fs2, hH, hM, hT, g1, g2, hw, ho, hI⟩ := st_rain hl hB h (xs (i + 1))
  refine T_aload_n F dL_law_1272 rfl ?_
  refine T_aload_n F dL_law_1273 rfl ?_
  refine T_iload F dL_law_1274 rfl ?_
  refine T_iconst F (v := 1) dL_law_1276 (by decide) ?_
  refine T_iaddN F (a1 := i) (c1 := 1) (s1 := i + 1) dL_law_1277 rfl ?_
  refine T_scr F hX hbl hbA hb0 (j := i + 1) ⟨by omega, by omega⟩ dL_law_1278 ?_
  refine T_aload_n F dL_law_1279 rfl ?_
  refine T_callSEi F hE ctN_vm dL_law_1280 kLw_L_rain (show k + 1 ≤ 601024 ∧ n + 6 ≤ 7293034 from ⟨by omega, by omega⟩) hH rfl rfl rfl ?_
  refine T_istore F dL_law_1283 rfl (L' := [some (.ref 4000), some (.ref 0), some (.ref 11), some (.ref 17), some (.int (nI i)), some (.int kk), z6, z7, z8]) rfl ?_
  refine T_aload_n F dL_law_1285 rfl ?_
  refine T_aload_n F dL_law_1286 rfl ?_
  refine T_iload F dL_law_1287 rfl ?_
  refine T_iconst F (v := 1) dL_law_1289 (by decide) ?_
  refine T_iaddN F (a1 := i) (c1 := 1) (s1 := i + 1) dL_law_1290 rfl ?_
  refine T_scr F hX hbl hbA hb0 (j := i + 1) ⟨by omega, by omega⟩ dL_law_1291 ?_
  refine T_callM F dL_law_1292 kLw_X4_rain ⟨rfl, rfl⟩ (show k + 1 ≤ 601024 ∧ n + 6 ≤ 7293034 from ⟨by omega, by omega⟩) hM rfl rfl g1 rfl rfl ?_
  refine T_istore F dL_law_1295 rfl (L' := [some (.ref 4000), some (.ref 0), some (.ref 11), some (.ref 17), some (.int (nI i)), some (.int kk), some (.int bb), z7, z8]) rfl ?_
  refine T_aload_n F dL_law_1297 rfl ?_
  refine T_callM F dL_law_1298 kLw_X4_thrown ⟨rfl, rfl⟩ (show k + 1 ≤ 601024 ∧ n + 6 ≤ 7293034 from ⟨by omega, by omega⟩) hT rfl rfl g2 rfl rfl ?_
  refine T_iload F dL_law_1301 rfl ?_
  refine T_icmp_eq F 1308 dL_law_1303 (by decide) (fun _ => ?_) (fun z => absurd rfl z)
  refine T_iload F dL_law_1308 rfl ?_
  refine T_if_ne F 1325 dL_law_1310 (by decide) (fun _ => ?_) (fun hk => ?_)
  · exact T_goto F 1711 dL_law_1325 (by decide) (K w2 _ _ _ _ _ _ hI (Nat.le_refl _) (Nat.le_refl _))
  · refine T_aload_n F dL_law_1313 rfl ?_
    refine T_iconst F (v := 0) dL_law_1314 (by decide) ?_
    refine T_lald0 F dL_law_1315 hw ⟨by decide, by decide⟩ ?_
    refine T_iload F dL_law_1316 rfl ?_
    refine T_i2l F dL_law_1318 ?_
    refine T_lcmp F dL_law_1319 ?_
    refine T_if_eq F 1325 dL_law_1320 (by decide) (fun _ => ?_) (fun z => absurd (by rw [ho hk]; exact cmp_self _) z)
    exact T_goto F 1711 dL_law_1325 (by decide) (K w2 _ _ _ _ _ _ hI (Nat.le_refl _) (Nat.le_refl _))
theorem lc_count (C : LC p l s m args meth c D A ad0 a Ls xs) (hi : i + 5 ≤ Ls) (hB : B < 2147000000) (h : LI B w) (hk3 : k ≤ 3000) (hn3 : n ≤ 40000) (K : ∀ (w' : mj_W) (k' n' : Nat) (y5 y6 y7 y8 : Option Value), LI (B + 4000) w' → k' ≤ k + 1 → n' ≤ n + 6 → GT p l e s m args below meth c Q D A ad0 N ML_law 1711 [some (.ref 4000), some (.ref 0), some (.ref 11), some (.ref 17), some (.int (nI i)), y5, y6, y7, y8] [] w' k' n') : GT p l e s m args below meth c Q D A ad0 N ML_law 1328 [some (.ref 4000), some (.ref 0), some (.ref 11), some (.ref 17), some (.int (nI i)), z5, z6, z7, z8] [] w k n := by
  obtain ⟨F, hE, hX, hbl, hbA, hb0, hLs, hl⟩ := C
  obtain ⟨kk, bb, w1, w2, o, fs1, fs2, hH, hM, hT, g1, g2, hw, ho, hI⟩ := st_count hl hB h (xs (i + 1))
  refine T_aload_n F dL_law_1328 rfl ?_
  refine T_aload_n F dL_law_1329 rfl ?_
  refine T_iload F dL_law_1330 rfl ?_
  refine T_iconst F (v := 1) dL_law_1332 (by decide) ?_
  refine T_iaddN F (a1 := i) (c1 := 1) (s1 := i + 1) dL_law_1333 rfl ?_
  refine T_scr F hX hbl hbA hb0 (j := i + 1) ⟨by omega, by omega⟩ dL_law_1334 ?_
  refine T_aload_n F dL_law_1335 rfl ?_
  refine T_callSEi F hE ctN_vm dL_law_1336 kLw_L_count (show k + 1 ≤ 601024 ∧ n + 6 ≤ 7293034 from ⟨by omega, by omega⟩) hH rfl rfl rfl ?_
  refine T_istore F dL_law_1339 rfl (L' := [some (.ref 4000), some (.ref 0), some (.ref 11), some (.ref 17), some (.int (nI i)), some (.int kk), z6, z7, z8]) rfl ?_
  refine T_aload_n F dL_law_1341 rfl ?_
  refine T_aload_n F dL_law_1342 rfl ?_
  refine T_iload F dL_law_1343 rfl ?_
  refine T_iconst F (v := 1) dL_law_1345 (by decide) ?_
  refine T_iaddN F (a1 := i) (c1 := 1) (s1 := i + 1) dL_law_1346 rfl ?_
  refine T_scr F hX hbl hbA hb0 (j := i + 1) ⟨by omega, by omega⟩ dL_law_1347 ?_
  refine T_callM F dL_law_1348 kLw_X4_count ⟨rfl, rfl⟩ (show k + 1 ≤ 601024 ∧ n + 6 ≤ 7293034 from ⟨by omega, by omega⟩) hM rfl rfl g1 rfl rfl ?_
  refine T_istore F dL_law_1351 rfl (L' := [some (.ref 4000), some (.ref 0), some (.ref 11), some (.ref 17), some (.int (nI i)), some (.int kk), some (.int bb), z7, z8]) rfl ?_
  refine T_aload_n F dL_law_1353 rfl ?_
  refine T_callM F dL_law_1354 kLw_X4_thrown ⟨rfl, rfl⟩ (show k + 1 ≤ 601024 ∧ n + 6 ≤ 7293034 from ⟨by omega, by omega⟩) hT rfl rfl g2 rfl rfl ?_
  refine T_iload F dL_law_1357 rfl ?_
  refine T_icmp_eq F 1364 dL_law_1359 (by decide) (fun _ => ?_) (fun z => absurd rfl z)
  refine T_iload F dL_law_1364 rfl ?_
  refine T_if_ne F 1381 dL_law_1366 (by decide) (fun _ => ?_) (fun hk => ?_)
  · exact T_goto F 1711 dL_law_1381 (by decide) (K w2 _ _ _ _ _ _ hI (Nat.le_refl _) (Nat.le_refl _))
  · refine T_aload_n F dL_law_1369 rfl ?_
    refine T_iconst F (v := 0) dL_law_1370 (by decide) ?_
    refine T_lald0 F dL_law_1371 hw ⟨by decide, by decide⟩ ?_
    refine T_iload F dL_law_1372 rfl ?_
    refine T_i2l F dL_law_1374 ?_
    refine T_lcmp F dL_law_1375 ?_
    refine T_if_eq F 1381 dL_law_1376 (by decide) (fun _ => ?_) (fun z => absurd (by rw [ho hk]; exact cmp_self _) z)
    exact T_goto F 1711 dL_law_1381 (by decide) (K w2 _ _ _ _ _ _ hI (Nat.le_refl _) (Nat.le_refl _))
theorem lc_whyNot (C : LC p l s m args meth c D A ad0 a Ls xs) (hi : i + 5 ≤ Ls) (hB : B < 2147000000) (h : LI B w) (hk3 : k ≤ 3000) (hn3 : n ≤ 40000) (K : ∀ (w' : mj_W) (k' n' : Nat) (y5 y6 y7 y8 : Option Value), LI (B + 4000) w' → k' ≤ k + 1 → n' ≤ n + 6 → GT p l e s m args below meth c Q D A ad0 N ML_law 1711 [some (.ref 4000), some (.ref 0), some (.ref 11), some (.ref 17), some (.int (nI i)), y5, y6, y7, y8] [] w' k' n') : GT p l e s m args below meth c Q D A ad0 N ML_law 1384 [some (.ref 4000), some (.ref 0), some (.ref 11), some (.ref 17), some (.int (nI i)), z5, z6, z7, z8] [] w k n := by
  obtain ⟨F, hE, hX, hbl, hbA, hb0, hLs, hl⟩ := C
  obtain ⟨kk, bb, w1, w2, o, fs1, fs2, hH, hM, hT, g1, g2, hw, ho, hI⟩ := st_whyNot hl hB h (xs (i + 1)) (xs (i + 2)) (xs (i + 3))
  refine T_aload_n F dL_law_1384 rfl ?_
  refine T_aload_n F dL_law_1385 rfl ?_
  refine T_iload F dL_law_1386 rfl ?_
  refine T_iconst F (v := 1) dL_law_1388 (by decide) ?_
  refine T_iaddN F (a1 := i) (c1 := 1) (s1 := i + 1) dL_law_1389 rfl ?_
  refine T_scr F hX hbl hbA hb0 (j := i + 1) ⟨by omega, by omega⟩ dL_law_1390 ?_
  refine T_aload_n F dL_law_1391 rfl ?_
  refine T_iload F dL_law_1392 rfl ?_
  refine T_iconst F (v := 2) dL_law_1394 (by decide) ?_
  refine T_iaddN F (a1 := i) (c1 := 2) (s1 := i + 2) dL_law_1395 rfl ?_
  refine T_scr F hX hbl hbA hb0 (j := i + 2) ⟨by omega, by omega⟩ dL_law_1396 ?_
  refine T_aload_n F dL_law_1397 rfl ?_
  refine T_iload F dL_law_1398 rfl ?_
  refine T_iconst F (v := 3) dL_law_1400 (by decide) ?_
  refine T_iaddN F (a1 := i) (c1 := 3) (s1 := i + 3) dL_law_1401 rfl ?_
  refine T_scr F hX hbl hbA hb0 (j := i + 3) ⟨by omega, by omega⟩ dL_law_1402 ?_
  refine T_aload_n F dL_law_1403 rfl ?_
  refine T_callSEi F hE ctN_vm dL_law_1404 kLw_L_whyNot (show k + 1 ≤ 601024 ∧ n + 6 ≤ 7293034 from ⟨by omega, by omega⟩) hH rfl rfl rfl ?_
  refine T_istore F dL_law_1407 rfl (L' := [some (.ref 4000), some (.ref 0), some (.ref 11), some (.ref 17), some (.int (nI i)), some (.int kk), z6, z7, z8]) rfl ?_
  refine T_aload_n F dL_law_1409 rfl ?_
  refine T_aload_n F dL_law_1410 rfl ?_
  refine T_iload F dL_law_1411 rfl ?_
  refine T_iconst F (v := 1) dL_law_1413 (by decide) ?_
  refine T_iaddN F (a1 := i) (c1 := 1) (s1 := i + 1) dL_law_1414 rfl ?_
  refine T_scr F hX hbl hbA hb0 (j := i + 1) ⟨by omega, by omega⟩ dL_law_1415 ?_
  refine T_aload_n F dL_law_1416 rfl ?_
  refine T_iload F dL_law_1417 rfl ?_
  refine T_iconst F (v := 2) dL_law_1419 (by decide) ?_
  refine T_iaddN F (a1 := i) (c1 := 2) (s1 := i + 2) dL_law_1420 rfl ?_
  refine T_scr F hX hbl hbA hb0 (j := i + 2) ⟨by omega, by omega⟩ dL_law_1421 ?_
  refine T_aload_n F dL_law_1422 rfl ?_
  refine T_iload F dL_law_1423 rfl ?_
  refine T_iconst F (v := 3) dL_law_1425 (by decide) ?_
  refine T_iaddN F (a1 := i) (c1 := 3) (s1 := i + 3) dL_law_1426 rfl ?_
  refine T_scr F hX hbl hbA hb0 (j := i + 3) ⟨by omega, by omega⟩ dL_law_1427 ?_
  refine T_callM F dL_law_1428 kLw_X4_whyNot ⟨rfl, rfl⟩ (show k + 1 ≤ 601024 ∧ n + 6 ≤ 7293034 from ⟨by omega, by omega⟩) hM rfl rfl g1 rfl rfl ?_
  refine T_istore F dL_law_1431 rfl (L' := [some (.ref 4000), some (.ref 0), some (.ref 11), some (.ref 17), some (.int (nI i)), some (.int kk), some (.int bb), z7, z8]) rfl ?_
  refine T_aload_n F dL_law_1433 rfl ?_
  refine T_callM F dL_law_1434 kLw_X4_thrown ⟨rfl, rfl⟩ (show k + 1 ≤ 601024 ∧ n + 6 ≤ 7293034 from ⟨by omega, by omega⟩) hT rfl rfl g2 rfl rfl ?_
  refine T_iload F dL_law_1437 rfl ?_
  refine T_icmp_eq F 1444 dL_law_1439 (by decide) (fun _ => ?_) (fun z => absurd rfl z)
  refine T_iload F dL_law_1444 rfl ?_
  refine T_if_ne F 1461 dL_law_1446 (by decide) (fun _ => ?_) (fun hk => ?_)
  · exact T_goto F 1711 dL_law_1461 (by decide) (K w2 _ _ _ _ _ _ hI (Nat.le_refl _) (Nat.le_refl _))
  · refine T_aload_n F dL_law_1449 rfl ?_
    refine T_iconst F (v := 0) dL_law_1450 (by decide) ?_
    refine T_lald0 F dL_law_1451 hw ⟨by decide, by decide⟩ ?_
    refine T_iload F dL_law_1452 rfl ?_
    refine T_i2l F dL_law_1454 ?_
    refine T_lcmp F dL_law_1455 ?_
    refine T_if_eq F 1461 dL_law_1456 (by decide) (fun _ => ?_) (fun z => absurd (by rw [ho hk]; exact cmp_self _) z)
    exact T_goto F 1711 dL_law_1461 (by decide) (K w2 _ _ _ _ _ _ hI (Nat.le_refl _) (Nat.le_refl _))
theorem lc_ifPassed (C : LC p l s m args meth c D A ad0 a Ls xs) (hi : i + 5 ≤ Ls) (hB : B < 2147000000) (h : LI B w) (hk3 : k ≤ 3000) (hn3 : n ≤ 40000) (K : ∀ (w' : mj_W) (k' n' : Nat) (y5 y6 y7 y8 : Option Value), LI (B + 4000) w' → k' ≤ k + 1 → n' ≤ n + 6 → GT p l e s m args below meth c Q D A ad0 N ML_law 1711 [some (.ref 4000), some (.ref 0), some (.ref 11), some (.ref 17), some (.int (nI i)), y5, y6, y7, y8] [] w' k' n') : GT p l e s m args below meth c Q D A ad0 N ML_law 1464 [some (.ref 4000), some (.ref 0), some (.ref 11), some (.ref 17), some (.int (nI i)), z5, z6, z7, z8] [] w k n := by
  obtain ⟨F, hE, hX, hbl, hbA, hb0, hLs, hl⟩ := C
  obtain ⟨kk, bb, w1, w2, o, fs1, fs2, hH, hM, hT, g1, g2, hw, ho, hI⟩ := st_ifPassed hl hB h (xs (i + 1)) (xs (i + 2))
  refine T_aload_n F dL_law_1464 rfl ?_
  refine T_aload_n F dL_law_1465 rfl ?_
  refine T_iload F dL_law_1466 rfl ?_
  refine T_iconst F (v := 1) dL_law_1468 (by decide) ?_
  refine T_iaddN F (a1 := i) (c1 := 1) (s1 := i + 1) dL_law_1469 rfl ?_
  refine T_scr F hX hbl hbA hb0 (j := i + 1) ⟨by omega, by omega⟩ dL_law_1470 ?_
  refine T_aload_n F dL_law_1471 rfl ?_
  refine T_iload F dL_law_1472 rfl ?_
  refine T_iconst F (v := 2) dL_law_1474 (by decide) ?_
  refine T_iaddN F (a1 := i) (c1 := 2) (s1 := i + 2) dL_law_1475 rfl ?_
  refine T_scr F hX hbl hbA hb0 (j := i + 2) ⟨by omega, by omega⟩ dL_law_1476 ?_
  refine T_aload_n F dL_law_1477 rfl ?_
  refine T_callSEi F hE ctN_vm dL_law_1478 kLw_L_ifPassed (show k + 1 ≤ 601024 ∧ n + 6 ≤ 7293034 from ⟨by omega, by omega⟩) hH rfl rfl rfl ?_
  refine T_istore F dL_law_1481 rfl (L' := [some (.ref 4000), some (.ref 0), some (.ref 11), some (.ref 17), some (.int (nI i)), some (.int kk), z6, z7, z8]) rfl ?_
  refine T_aload_n F dL_law_1483 rfl ?_
  refine T_aload_n F dL_law_1484 rfl ?_
  refine T_iload F dL_law_1485 rfl ?_
  refine T_iconst F (v := 1) dL_law_1487 (by decide) ?_
  refine T_iaddN F (a1 := i) (c1 := 1) (s1 := i + 1) dL_law_1488 rfl ?_
  refine T_scr F hX hbl hbA hb0 (j := i + 1) ⟨by omega, by omega⟩ dL_law_1489 ?_
  refine T_aload_n F dL_law_1490 rfl ?_
  refine T_iload F dL_law_1491 rfl ?_
  refine T_iconst F (v := 2) dL_law_1493 (by decide) ?_
  refine T_iaddN F (a1 := i) (c1 := 2) (s1 := i + 2) dL_law_1494 rfl ?_
  refine T_scr F hX hbl hbA hb0 (j := i + 2) ⟨by omega, by omega⟩ dL_law_1495 ?_
  refine T_callM F dL_law_1496 kLw_X4_ifPassed ⟨rfl, rfl⟩ (show k + 1 ≤ 601024 ∧ n + 6 ≤ 7293034 from ⟨by omega, by omega⟩) hM rfl rfl g1 rfl rfl ?_
  refine T_istore F dL_law_1499 rfl (L' := [some (.ref 4000), some (.ref 0), some (.ref 11), some (.ref 17), some (.int (nI i)), some (.int kk), some (.int bb), z7, z8]) rfl ?_
  refine T_aload_n F dL_law_1501 rfl ?_
  refine T_callM F dL_law_1502 kLw_X4_thrown ⟨rfl, rfl⟩ (show k + 1 ≤ 601024 ∧ n + 6 ≤ 7293034 from ⟨by omega, by omega⟩) hT rfl rfl g2 rfl rfl ?_
  refine T_iload F dL_law_1505 rfl ?_
  refine T_icmp_eq F 1512 dL_law_1507 (by decide) (fun _ => ?_) (fun z => absurd rfl z)
  refine T_iload F dL_law_1512 rfl ?_
  refine T_if_ne F 1529 dL_law_1514 (by decide) (fun _ => ?_) (fun hk => ?_)
  · exact T_goto F 1711 dL_law_1529 (by decide) (K w2 _ _ _ _ _ _ hI (Nat.le_refl _) (Nat.le_refl _))
  · refine T_aload_n F dL_law_1517 rfl ?_
    refine T_iconst F (v := 0) dL_law_1518 (by decide) ?_
    refine T_lald0 F dL_law_1519 hw ⟨by decide, by decide⟩ ?_
    refine T_iload F dL_law_1520 rfl ?_
    refine T_i2l F dL_law_1522 ?_
    refine T_lcmp F dL_law_1523 ?_
    refine T_if_eq F 1529 dL_law_1524 (by decide) (fun _ => ?_) (fun z => absurd (by rw [ho hk]; exact cmp_self _) z)
    exact T_goto F 1711 dL_law_1529 (by decide) (K w2 _ _ _ _ _ _ hI (Nat.le_refl _) (Nat.le_refl _))
theorem lc_enoughIn (C : LC p l s m args meth c D A ad0 a Ls xs) (hi : i + 5 ≤ Ls) (hB : B < 2147000000) (h : LI B w) (hk3 : k ≤ 3000) (hn3 : n ≤ 40000) (K : ∀ (w' : mj_W) (k' n' : Nat) (y5 y6 y7 y8 : Option Value), LI (B + 4000) w' → k' ≤ k + 1 → n' ≤ n + 6 → GT p l e s m args below meth c Q D A ad0 N ML_law 1711 [some (.ref 4000), some (.ref 0), some (.ref 11), some (.ref 17), some (.int (nI i)), y5, y6, y7, y8] [] w' k' n') : GT p l e s m args below meth c Q D A ad0 N ML_law 1532 [some (.ref 4000), some (.ref 0), some (.ref 11), some (.ref 17), some (.int (nI i)), z5, z6, z7, z8] [] w k n := by
  obtain ⟨F, hE, hX, hbl, hbA, hb0, hLs, hl⟩ := C
  obtain ⟨kk, bb, w1, w2, o, fs1, fs2, hH, hM, hT, g1, g2, hw, ho, hI⟩ := st_enoughIn hl hB h (xs (i + 1))
  refine T_aload_n F dL_law_1532 rfl ?_
  refine T_aload_n F dL_law_1533 rfl ?_
  refine T_iload F dL_law_1534 rfl ?_
  refine T_iconst F (v := 1) dL_law_1536 (by decide) ?_
  refine T_iaddN F (a1 := i) (c1 := 1) (s1 := i + 1) dL_law_1537 rfl ?_
  refine T_scr F hX hbl hbA hb0 (j := i + 1) ⟨by omega, by omega⟩ dL_law_1538 ?_
  refine T_aload_n F dL_law_1539 rfl ?_
  refine T_callSEi F hE ctN_vm dL_law_1540 kLw_L_enoughIn (show k + 1 ≤ 601024 ∧ n + 6 ≤ 7293034 from ⟨by omega, by omega⟩) hH rfl rfl rfl ?_
  refine T_istore F dL_law_1543 rfl (L' := [some (.ref 4000), some (.ref 0), some (.ref 11), some (.ref 17), some (.int (nI i)), some (.int kk), z6, z7, z8]) rfl ?_
  refine T_aload_n F dL_law_1545 rfl ?_
  refine T_aload_n F dL_law_1546 rfl ?_
  refine T_iload F dL_law_1547 rfl ?_
  refine T_iconst F (v := 1) dL_law_1549 (by decide) ?_
  refine T_iaddN F (a1 := i) (c1 := 1) (s1 := i + 1) dL_law_1550 rfl ?_
  refine T_scr F hX hbl hbA hb0 (j := i + 1) ⟨by omega, by omega⟩ dL_law_1551 ?_
  refine T_callM F dL_law_1552 kLw_X4_enoughIn ⟨rfl, rfl⟩ (show k + 1 ≤ 601024 ∧ n + 6 ≤ 7293034 from ⟨by omega, by omega⟩) hM rfl rfl g1 rfl rfl ?_
  refine T_istore F dL_law_1555 rfl (L' := [some (.ref 4000), some (.ref 0), some (.ref 11), some (.ref 17), some (.int (nI i)), some (.int kk), some (.int bb), z7, z8]) rfl ?_
  refine T_aload_n F dL_law_1557 rfl ?_
  refine T_callM F dL_law_1558 kLw_X4_thrown ⟨rfl, rfl⟩ (show k + 1 ≤ 601024 ∧ n + 6 ≤ 7293034 from ⟨by omega, by omega⟩) hT rfl rfl g2 rfl rfl ?_
  refine T_iload F dL_law_1561 rfl ?_
  refine T_icmp_eq F 1568 dL_law_1563 (by decide) (fun _ => ?_) (fun z => absurd rfl z)
  refine T_iload F dL_law_1568 rfl ?_
  refine T_if_ne F 1585 dL_law_1570 (by decide) (fun _ => ?_) (fun hk => ?_)
  · exact T_goto F 1711 dL_law_1585 (by decide) (K w2 _ _ _ _ _ _ hI (Nat.le_refl _) (Nat.le_refl _))
  · refine T_aload_n F dL_law_1573 rfl ?_
    refine T_iconst F (v := 0) dL_law_1574 (by decide) ?_
    refine T_lald0 F dL_law_1575 hw ⟨by decide, by decide⟩ ?_
    refine T_iload F dL_law_1576 rfl ?_
    refine T_i2l F dL_law_1578 ?_
    refine T_lcmp F dL_law_1579 ?_
    refine T_if_eq F 1585 dL_law_1580 (by decide) (fun _ => ?_) (fun z => absurd (by rw [ho hk]; exact cmp_self _) z)
    exact T_goto F 1711 dL_law_1585 (by decide) (K w2 _ _ _ _ _ _ hI (Nat.le_refl _) (Nat.le_refl _))
theorem lc_bestBank (C : LC p l s m args meth c D A ad0 a Ls xs) (hi : i + 5 ≤ Ls) (hB : B < 2147000000) (h : LI B w) (hk3 : k ≤ 3000) (hn3 : n ≤ 40000) (K : ∀ (w' : mj_W) (k' n' : Nat) (y5 y6 y7 y8 : Option Value), LI (B + 4000) w' → k' ≤ k + 1 → n' ≤ n + 6 → GT p l e s m args below meth c Q D A ad0 N ML_law 1711 [some (.ref 4000), some (.ref 0), some (.ref 11), some (.ref 17), some (.int (nI i)), y5, y6, y7, y8] [] w' k' n') : GT p l e s m args below meth c Q D A ad0 N ML_law 1588 [some (.ref 4000), some (.ref 0), some (.ref 11), some (.ref 17), some (.int (nI i)), z5, z6, z7, z8] [] w k n := by
  obtain ⟨F, hE, hX, hbl, hbA, hb0, hLs, hl⟩ := C
  obtain ⟨kk, bb, w1, w2, o, fs1, fs2, hH, hM, hT, g1, g2, hw, ho, hI⟩ := st_bestBank hl hB h (xs (i + 1)) (xs (i + 2))
  refine T_aload_n F dL_law_1588 rfl ?_
  refine T_aload_n F dL_law_1589 rfl ?_
  refine T_iload F dL_law_1590 rfl ?_
  refine T_iconst F (v := 1) dL_law_1592 (by decide) ?_
  refine T_iaddN F (a1 := i) (c1 := 1) (s1 := i + 1) dL_law_1593 rfl ?_
  refine T_scr F hX hbl hbA hb0 (j := i + 1) ⟨by omega, by omega⟩ dL_law_1594 ?_
  refine T_aload_n F dL_law_1595 rfl ?_
  refine T_iload F dL_law_1596 rfl ?_
  refine T_iconst F (v := 2) dL_law_1598 (by decide) ?_
  refine T_iaddN F (a1 := i) (c1 := 2) (s1 := i + 2) dL_law_1599 rfl ?_
  refine T_scr F hX hbl hbA hb0 (j := i + 2) ⟨by omega, by omega⟩ dL_law_1600 ?_
  refine T_aload_n F dL_law_1601 rfl ?_
  refine T_callSEi F hE ctN_vm dL_law_1602 kLw_L_bestBank (show k + 1 ≤ 601024 ∧ n + 6 ≤ 7293034 from ⟨by omega, by omega⟩) hH rfl rfl rfl ?_
  refine T_istore F dL_law_1605 rfl (L' := [some (.ref 4000), some (.ref 0), some (.ref 11), some (.ref 17), some (.int (nI i)), some (.int kk), z6, z7, z8]) rfl ?_
  refine T_aload_n F dL_law_1607 rfl ?_
  refine T_aload_n F dL_law_1608 rfl ?_
  refine T_iload F dL_law_1609 rfl ?_
  refine T_iconst F (v := 1) dL_law_1611 (by decide) ?_
  refine T_iaddN F (a1 := i) (c1 := 1) (s1 := i + 1) dL_law_1612 rfl ?_
  refine T_scr F hX hbl hbA hb0 (j := i + 1) ⟨by omega, by omega⟩ dL_law_1613 ?_
  refine T_aload_n F dL_law_1614 rfl ?_
  refine T_iload F dL_law_1615 rfl ?_
  refine T_iconst F (v := 2) dL_law_1617 (by decide) ?_
  refine T_iaddN F (a1 := i) (c1 := 2) (s1 := i + 2) dL_law_1618 rfl ?_
  refine T_scr F hX hbl hbA hb0 (j := i + 2) ⟨by omega, by omega⟩ dL_law_1619 ?_
  refine T_callM F dL_law_1620 kLw_X4_bestBank ⟨rfl, rfl⟩ (show k + 1 ≤ 601024 ∧ n + 6 ≤ 7293034 from ⟨by omega, by omega⟩) hM rfl rfl g1 rfl rfl ?_
  refine T_istore F dL_law_1623 rfl (L' := [some (.ref 4000), some (.ref 0), some (.ref 11), some (.ref 17), some (.int (nI i)), some (.int kk), some (.int bb), z7, z8]) rfl ?_
  refine T_aload_n F dL_law_1625 rfl ?_
  refine T_callM F dL_law_1626 kLw_X4_thrown ⟨rfl, rfl⟩ (show k + 1 ≤ 601024 ∧ n + 6 ≤ 7293034 from ⟨by omega, by omega⟩) hT rfl rfl g2 rfl rfl ?_
  refine T_iload F dL_law_1629 rfl ?_
  refine T_icmp_eq F 1636 dL_law_1631 (by decide) (fun _ => ?_) (fun z => absurd rfl z)
  refine T_iload F dL_law_1636 rfl ?_
  refine T_if_ne F 1653 dL_law_1638 (by decide) (fun _ => ?_) (fun hk => ?_)
  · exact T_goto F 1711 dL_law_1653 (by decide) (K w2 _ _ _ _ _ _ hI (Nat.le_refl _) (Nat.le_refl _))
  · refine T_aload_n F dL_law_1641 rfl ?_
    refine T_iconst F (v := 0) dL_law_1642 (by decide) ?_
    refine T_lald0 F dL_law_1643 hw ⟨by decide, by decide⟩ ?_
    refine T_iload F dL_law_1644 rfl ?_
    refine T_i2l F dL_law_1646 ?_
    refine T_lcmp F dL_law_1647 ?_
    refine T_if_eq F 1653 dL_law_1648 (by decide) (fun _ => ?_) (fun z => absurd (by rw [ho hk]; exact cmp_self _) z)
    exact T_goto F 1711 dL_law_1653 (by decide) (K w2 _ _ _ _ _ _ hI (Nat.le_refl _) (Nat.le_refl _))
theorem lc_dryness (C : LC p l s m args meth c D A ad0 a Ls xs) (hi : i + 5 ≤ Ls) (hB : B < 2147000000) (h : LI B w) (hk3 : k ≤ 3000) (hn3 : n ≤ 40000) (K : ∀ (w' : mj_W) (k' n' : Nat) (y5 y6 y7 y8 : Option Value), LI (B + 4000) w' → k' ≤ k + 1 → n' ≤ n + 6 → GT p l e s m args below meth c Q D A ad0 N ML_law 1711 [some (.ref 4000), some (.ref 0), some (.ref 11), some (.ref 17), some (.int (nI i)), y5, y6, y7, y8] [] w' k' n') : GT p l e s m args below meth c Q D A ad0 N ML_law 1656 [some (.ref 4000), some (.ref 0), some (.ref 11), some (.ref 17), some (.int (nI i)), z5, z6, z7, z8] [] w k n := by
  obtain ⟨F, hE, hX, hbl, hbA, hb0, hLs, hl⟩ := C
  obtain ⟨u, w1, w2, fs0, fs1, hX1, hM, g0, g1, hI⟩ := sv_dryness (l := l) hB h
  refine T_aload_n F dL_law_1656 rfl ?_
  refine T_callM F dL_law_1657 kLw_X3_dryness ⟨rfl, rfl⟩ (show k ≤ 601024 ∧ n ≤ 7293034 from ⟨by omega, by omega⟩) hX1 rfl rfl g0 rfl rfl ?_
  refine T_dstore F dL_law_1660 rfl (L' := [some (.ref 4000), some (.ref 0), some (.ref 11), some (.ref 17), some (.int (nI i)), some (.double u), none, z7, z8]) rfl ?_
  refine T_aload_n F dL_law_1662 rfl ?_
  refine T_callM F dL_law_1663 kLw_X4_dryness ⟨rfl, rfl⟩ (show k ≤ 601024 ∧ n ≤ 7293034 from ⟨by omega, by omega⟩) hM rfl rfl g1 rfl rfl ?_
  refine T_dstore F dL_law_1666 rfl (L' := [some (.ref 4000), some (.ref 0), some (.ref 11), some (.ref 17), some (.int (nI i)), some (.double u), none, some (.double u), none]) rfl ?_
  refine T_dload F dL_law_1668 rfl ?_
  refine T_dload F dL_law_1670 rfl ?_
  refine T_dcmp F dL_law_1672 ?_
  refine T_if_eq F 1694 dL_law_1673 (by decide) (fun _ => ?_) (fun hne => ?_)
  · exact T_goto F 1711 dL_law_1694 (by decide) (K w2 _ _ _ _ _ _ hI (Nat.le_succ _) (Nat.le_add_right _ _))
  · skip
    refine T_dload F dL_law_1676 rfl ?_
    refine T_dload F dL_law_1678 rfl ?_
    refine T_dcmp F dL_law_1680 ?_
    refine T_if_eq F 1692 dL_law_1681 (by decide) (fun z => absurd z hne) (fun _ => ?_)
    refine T_dload F dL_law_1684 rfl ?_
    refine T_dload F dL_law_1686 rfl ?_
    refine T_dcmp F dL_law_1688 ?_
    refine T_if_ne F 1694 dL_law_1689 (by decide) (fun _ => ?_) (fun z => absurd z hne)
    exact T_goto F 1711 dL_law_1694 (by decide) (K w2 _ _ _ _ _ _ hI (Nat.le_succ _) (Nat.le_add_right _ _))
theorem lc_digest (C : LC p l s m args meth c D A ad0 a Ls xs) (hi : i + 5 ≤ Ls) (hB : B < 2147000000) (h : LI B w) (hk3 : k ≤ 3000) (hn3 : n ≤ 40000) (K : ∀ (w' : mj_W) (k' n' : Nat) (y5 y6 y7 y8 : Option Value), LI (B + 4000) w' → k' ≤ k + 1 → n' ≤ n + 6 → GT p l e s m args below meth c Q D A ad0 N ML_law 1711 [some (.ref 4000), some (.ref 0), some (.ref 11), some (.ref 17), some (.int (nI i)), y5, y6, y7, y8] [] w' k' n') : GT p l e s m args below meth c Q D A ad0 N ML_law 1697 [some (.ref 4000), some (.ref 0), some (.ref 11), some (.ref 17), some (.int (nI i)), z5, z6, z7, z8] [] w k n := by
  obtain ⟨F, hE, hX, hbl, hbA, hb0, hLs, hl⟩ := C
  obtain ⟨u, w1, w2, fs0, fs1, hX1, hM, g0, g1, hI⟩ := sv_digest (l := l) hB h
  refine T_aload_n F dL_law_1697 rfl ?_
  refine T_callM F dL_law_1698 kLw_X3_digest ⟨rfl, rfl⟩ (show k ≤ 601024 ∧ n ≤ 7293034 from ⟨by omega, by omega⟩) hX1 rfl rfl g0 rfl rfl ?_
  refine T_aload_n F dL_law_1701 rfl ?_
  refine T_callM F dL_law_1702 kLw_X4_digest ⟨rfl, rfl⟩ (show k ≤ 601024 ∧ n ≤ 7293034 from ⟨by omega, by omega⟩) hM rfl rfl g1 rfl rfl ?_
  refine T_lcmp F dL_law_1705 ?_
  refine T_if_eq F 1711 dL_law_1706 (by decide) (fun _ => ?_) (fun z => absurd (cmp_self _) z)
  exact (K w2 _ _ _ _ _ _ hI (Nat.le_succ _) (Nat.le_add_right _ _))
end LCs

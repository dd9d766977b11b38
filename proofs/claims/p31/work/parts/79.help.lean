/-! HELPERS of the law: a call, and what it throws told by a number -/
abbrev r0L_hearth : Room := { frames := 9, cells := 0, slots := 0, locals := 165 }
abbrev M0L_hearth : mj_M := (RL, 5, wsL_hearth ++ ctN, r0L_hearth, false, some (tableOf [(0, 7, 8, 16), (0, 7, 13, 18)]))
theorem kX3L_hearth : mj_cwV M0L_hearth 10 RX3 yX3_hearth wsX3_hearth rmX3_hearth 3 := ⟨_, _, _, _, fun w h => ⟨List.mem_append_left _ (gL_hearth_X3_hearth w h).1, (gL_hearth_X3_hearth w h).2⟩, rfl, by decide +kernel, by decide⟩
abbrev r0L_track : Room := { frames := 9, cells := 0, slots := 0, locals := 164 }
abbrev M0L_track : mj_M := (RL, 4, wsL_track ++ ctN, r0L_track, false, some (tableOf [(0, 6, 7, 16), (0, 6, 11, 18)]))
theorem kX3L_track : mj_cwV M0L_track 20 RX3 yX3_track wsX3_track rmX3_track 2 := ⟨_, _, _, _, fun w h => ⟨List.mem_append_left _ (gL_track_X3_track w h).1, (gL_track_X3_track w h).2⟩, rfl, by decide +kernel, by decide⟩
abbrev r0L_strength : Room := { frames := 9, cells := 0, slots := 0, locals := 164 }
abbrev M0L_strength : mj_M := (RL, 4, wsL_strength ++ ctN, r0L_strength, false, some (tableOf [(0, 6, 7, 16), (0, 6, 11, 18)]))
theorem kX3L_strength : mj_cwV M0L_strength 24 RX3 yX3_strength wsX3_strength rmX3_strength 2 := ⟨_, _, _, _, fun w h => ⟨List.mem_append_left _ (gL_strength_X3_strength w h).1, (gL_strength_X3_strength w h).2⟩, rfl, by decide +kernel, by decide⟩
abbrev r0L_work : Room := { frames := 8, cells := 0, slots := 0, locals := 144 }
abbrev M0L_work : mj_M := (RL, 5, wsL_work ++ ctN, r0L_work, false, some (tableOf [(0, 7, 8, 16), (0, 7, 13, 31)]))
theorem kX3L_work : mj_cwV M0L_work 27 RX3 yX3_work wsX3_work rmX3_work 3 := ⟨_, _, _, _, fun w h => ⟨List.mem_append_left _ (gL_work_X3_work w h).1, (gL_work_X3_work w h).2⟩, rfl, by decide +kernel, by decide⟩
abbrev rmL_work : Room := { frames := 8, cells := 1, slots := 6, locals := 144 }
abbrev ML_work : mj_M := (RL, 5, wsL_work ++ ctN, rmL_work, false, some (tableOf [(0, 7, 8, 16), (0, 7, 13, 31)]))
theorem kT3L_work : mj_cwV ML_work 27 RX3 yX3_work wsX3_work rmT3_work 3 := ⟨_, _, _, _, fun w h => ⟨List.mem_append_left _ (gL_work_X3_work w h).1, (gL_work_X3_work w h).2⟩, rfl, by decide +kernel, by decide⟩
theorem lkL_work_16 : Cond.classLink RL 16 xIO ∈ wsL_work ++ ctN := List.mem_append_left _ (by decide +kernel)
theorem lkL_work_31 : Cond.classLink RL 31 xIS ∈ wsL_work ++ ctN := List.mem_append_left _ (by decide +kernel)
abbrev r0L_rest : Room := { frames := 8, cells := 0, slots := 0, locals := 142 }
abbrev M0L_rest : mj_M := (RL, 3, wsL_rest ++ ctN, r0L_rest, false, some (tableOf [(0, 5, 6, 16)]))
theorem kX3L_rest : mj_cwV M0L_rest 33 RX3 yX3_rest wsX3_rest rmX3_rest 1 := ⟨_, _, _, _, fun w h => ⟨List.mem_append_left _ (gL_rest_X3_rest w h).1, (gL_rest_X3_rest w h).2⟩, rfl, by decide +kernel, by decide⟩
abbrev r0L_give : Room := { frames := 9, cells := 0, slots := 0, locals := 168 }
abbrev M0L_give : mj_M := (RL, 6, wsL_give ++ ctN, r0L_give, false, some (tableOf [(0, 9, 10, 16), (0, 9, 15, 18), (0, 9, 20, 31)]))
theorem kX3L_give : mj_cwV M0L_give 37 RX3 yX3_give wsX3_give rmX3_give 4 := ⟨_, _, _, _, fun w h => ⟨List.mem_append_left _ (gL_give_X3_give w h).1, (gL_give_X3_give w h).2⟩, rfl, by decide +kernel, by decide⟩
abbrev rmL_give : Room := { frames := 9, cells := 1, slots := 6, locals := 168 }
abbrev ML_give : mj_M := (RL, 6, wsL_give ++ ctN, rmL_give, false, some (tableOf [(0, 9, 10, 16), (0, 9, 15, 18), (0, 9, 20, 31)]))
theorem kT3L_give : mj_cwV ML_give 37 RX3 yX3_give wsX3_give rmT3_give 4 := ⟨_, _, _, _, fun w h => ⟨List.mem_append_left _ (gL_give_X3_give w h).1, (gL_give_X3_give w h).2⟩, rfl, by decide +kernel, by decide⟩
theorem lkL_give_16 : Cond.classLink RL 16 xIO ∈ wsL_give ++ ctN := List.mem_append_left _ (by decide +kernel)
theorem lkL_give_18 : Cond.classLink RL 18 xIA ∈ wsL_give ++ ctN := List.mem_append_left _ (by decide +kernel)
theorem lkL_give_31 : Cond.classLink RL 31 xIS ∈ wsL_give ++ ctN := List.mem_append_left _ (by decide +kernel)
abbrev r0L_pass : Room := { frames := 9, cells := 0, slots := 0, locals := 163 }
abbrev M0L_pass : mj_M := (RL, 3, wsL_pass ++ ctN, r0L_pass, false, some (tableOf [(0, 5, 6, 18)]))
theorem kX3L_pass : mj_cwV M0L_pass 41 RX3 yX3_pass wsX3_pass rmX3_pass 1 := ⟨_, _, _, _, fun w h => ⟨List.mem_append_left _ (gL_pass_X3_pass w h).1, (gL_pass_X3_pass w h).2⟩, rfl, by decide +kernel, by decide⟩
abbrev r0L_set : Room := { frames := 9, cells := 0, slots := 0, locals := 164 }
abbrev M0L_set : mj_M := (RL, 4, wsL_set ++ ctN, r0L_set, false, some (tableOf [(0, 6, 7, 16), (0, 6, 11, 18)]))
theorem kX3L_set : mj_cwV M0L_set 44 RX3 yX3_set wsX3_set rmX3_set 2 := ⟨_, _, _, _, fun w h => ⟨List.mem_append_left _ (gL_set_X3_set w h).1, (gL_set_X3_set w h).2⟩, rfl, by decide +kernel, by decide⟩
abbrev r0L_undo : Room := { frames := 8, cells := 0, slots := 0, locals := 140 }
abbrev M0L_undo : mj_M := (RL, 2, wsL_undo ++ ctN, r0L_undo, false, some (tableOf [(0, 4, 5, 31)]))
theorem kX3L_undo : mj_cwV M0L_undo 47 RX3 yX3_undo wsX3_undo rmX3_undo 0 := ⟨_, _, _, _, fun w h => ⟨List.mem_append_left _ (gL_undo_X3_undo w h).1, (gL_undo_X3_undo w h).2⟩, rfl, by decide +kernel, by decide⟩
abbrev r0L_hearthOf : Room := { frames := 9, cells := 0, slots := 0, locals := 164 }
abbrev M0L_hearthOf : mj_M := (RL, 4, wsL_hearthOf ++ ctN, r0L_hearthOf, false, some (tableOf [(0, 6, 7, 16), (0, 6, 11, 18)]))
theorem kX3L_hearthOf : mj_cwV M0L_hearthOf 51 RX3 yX3_hearthOf wsX3_hearthOf rmX3_hearthOf 2 := ⟨_, _, _, _, fun w h => ⟨List.mem_append_left _ (gL_hearthOf_X3_hearthOf w h).1, (gL_hearthOf_X3_hearthOf w h).2⟩, rfl, by decide +kernel, by decide⟩
abbrev r0L_bankOf : Room := { frames := 9, cells := 0, slots := 0, locals := 164 }
abbrev M0L_bankOf : mj_M := (RL, 4, wsL_bankOf ++ ctN, r0L_bankOf, false, some (tableOf [(0, 6, 7, 16), (0, 6, 11, 18)]))
theorem kX3L_bankOf : mj_cwV M0L_bankOf 54 RX3 yX3_bankOf wsX3_bankOf rmX3_bankOf 2 := ⟨_, _, _, _, fun w h => ⟨List.mem_append_left _ (gL_bankOf_X3_bankOf w h).1, (gL_bankOf_X3_bankOf w h).2⟩, rfl, by decide +kernel, by decide⟩
abbrev r0L_plot : Room := { frames := 9, cells := 0, slots := 0, locals := 165 }
abbrev M0L_plot : mj_M := (RL, 5, wsL_plot ++ ctN, r0L_plot, false, some (tableOf [(0, 7, 8, 16), (0, 7, 13, 18)]))
theorem kX3L_plot : mj_cwV M0L_plot 57 RX3 yX3_plot wsX3_plot rmX3_plot 3 := ⟨_, _, _, _, fun w h => ⟨List.mem_append_left _ (gL_plot_X3_plot w h).1, (gL_plot_X3_plot w h).2⟩, rfl, by decide +kernel, by decide⟩
abbrev r0L_cutter : Room := { frames := 9, cells := 0, slots := 0, locals := 164 }
abbrev M0L_cutter : mj_M := (RL, 4, wsL_cutter ++ ctN, r0L_cutter, false, some (tableOf [(0, 6, 7, 16), (0, 6, 11, 18)]))
theorem kX3L_cutter : mj_cwV M0L_cutter 60 RX3 yX3_cutter wsX3_cutter rmX3_cutter 2 := ⟨_, _, _, _, fun w h => ⟨List.mem_append_left _ (gL_cutter_X3_cutter w h).1, (gL_cutter_X3_cutter w h).2⟩, rfl, by decide +kernel, by decide⟩
abbrev r0L_rain : Room := { frames := 8, cells := 0, slots := 0, locals := 141 }
abbrev M0L_rain : mj_M := (RL, 3, wsL_rain ++ ctN, r0L_rain, false, some (tableOf [(0, 5, 6, 18)]))
theorem kX3L_rain : mj_cwV M0L_rain 63 RX3 yX3_rain wsX3_rain rmX3_rain 1 := ⟨_, _, _, _, fun w h => ⟨List.mem_append_left _ (gL_rain_X3_rain w h).1, (gL_rain_X3_rain w h).2⟩, rfl, by decide +kernel, by decide⟩
abbrev r0L_count : Room := { frames := 9, cells := 0, slots := 0, locals := 163 }
abbrev M0L_count : mj_M := (RL, 3, wsL_count ++ ctN, r0L_count, false, some (tableOf [(0, 5, 6, 18)]))
theorem kX3L_count : mj_cwV M0L_count 66 RX3 yX3_count wsX3_count rmX3_count 1 := ⟨_, _, _, _, fun w h => ⟨List.mem_append_left _ (gL_count_X3_count w h).1, (gL_count_X3_count w h).2⟩, rfl, by decide +kernel, by decide⟩
abbrev r0L_whyNot : Room := { frames := 8, cells := 0, slots := 0, locals := 144 }
abbrev M0L_whyNot : mj_M := (RL, 5, wsL_whyNot ++ ctN, r0L_whyNot, false, some (tableOf [(0, 7, 8, 16)]))
theorem kX3L_whyNot : mj_cwV M0L_whyNot 69 RX3 yX3_whyNot wsX3_whyNot rmX3_whyNot 3 := ⟨_, _, _, _, fun w h => ⟨List.mem_append_left _ (gL_whyNot_X3_whyNot w h).1, (gL_whyNot_X3_whyNot w h).2⟩, rfl, by decide +kernel, by decide⟩
section HD
variable {l : Launch} {xp : Nat} {w w1 : mj_W} {x0 x1 x2 x3 v : Int32} {fs : List Value}
theorem lh_hearth_0 (hM : MC l yX3_hearth wsX3_hearth rmX3_hearth false [.ref xp, .int x0, .int x1, .int x2] w (some (.int v)) w1) (hx : w[xp]? = some (.inr (3, fs))) : MCE l yL_hearth wsL_hearth r0L_hearth ctN false [.ref xp, .int x0, .int x1, .int x2] w (some (.int v)) (w1) := by
  refine mj_MCEH (cc := cL_hearth) (nl := 5) (hh := [(0, 7, 8, 16), (0, 7, 13, 18)]) ctN_vm (by decide +kernel) rfl (Nat.le_of_ble_eq_true rfl) ?_
  show GG l cL_hearth M0L_hearth false (.inl (some (.int v), w1)) 0 [some (.ref xp), some (.int x0), some (.int x1), some (.int x2), none] [] w 0 0
  refine G_aload_n dL_hearth_0 rfl ?_
  refine G_iload_n dL_hearth_1 rfl ?_
  refine G_iload_n dL_hearth_2 rfl ?_
  refine G_iload_n dL_hearth_3 rfl ?_
  refine G_callVi dL_hearth_4 kX3L_hearth ⟨rfl, rfl⟩ ⟨Nat.zero_le _, Nat.zero_le _⟩ hM rfl rfl hx rfl rfl ?_
  exact G_iret dL_hearth_7 ⟨Nat.zero_le _, Nat.zero_le _⟩ rfl
theorem lh_track_0 (hM : MC l yX3_track wsX3_track rmX3_track false [.ref xp, .int x0, .int x1] w (some (.int v)) w1) (hx : w[xp]? = some (.inr (3, fs))) : MCE l yL_track wsL_track r0L_track ctN false [.ref xp, .int x0, .int x1] w (some (.int v)) (w1) := by
  refine mj_MCEH (cc := cL_track) (nl := 4) (hh := [(0, 6, 7, 16), (0, 6, 11, 18)]) ctN_vm (by decide +kernel) rfl (Nat.le_of_ble_eq_true rfl) ?_
  show GG l cL_track M0L_track false (.inl (some (.int v), w1)) 0 [some (.ref xp), some (.int x0), some (.int x1), none] [] w 0 0
  refine G_aload_n dL_track_0 rfl ?_
  refine G_iload_n dL_track_1 rfl ?_
  refine G_iload_n dL_track_2 rfl ?_
  refine G_callVi dL_track_3 kX3L_track ⟨rfl, rfl⟩ ⟨Nat.zero_le _, Nat.zero_le _⟩ hM rfl rfl hx rfl rfl ?_
  exact G_iret dL_track_6 ⟨Nat.zero_le _, Nat.zero_le _⟩ rfl
theorem lh_strength_0 (hM : MC l yX3_strength wsX3_strength rmX3_strength false [.ref xp, .int x0, .int x1] w (some (.int v)) w1) (hx : w[xp]? = some (.inr (3, fs))) : MCE l yL_strength wsL_strength r0L_strength ctN false [.ref xp, .int x0, .int x1] w (some (.int v)) (w1) := by
  refine mj_MCEH (cc := cL_strength) (nl := 4) (hh := [(0, 6, 7, 16), (0, 6, 11, 18)]) ctN_vm (by decide +kernel) rfl (Nat.le_of_ble_eq_true rfl) ?_
  show GG l cL_strength M0L_strength false (.inl (some (.int v), w1)) 0 [some (.ref xp), some (.int x0), some (.int x1), none] [] w 0 0
  refine G_aload_n dL_strength_0 rfl ?_
  refine G_iload_n dL_strength_1 rfl ?_
  refine G_iload_n dL_strength_2 rfl ?_
  refine G_callVi dL_strength_3 kX3L_strength ⟨rfl, rfl⟩ ⟨Nat.zero_le _, Nat.zero_le _⟩ hM rfl rfl hx rfl rfl ?_
  exact G_iret dL_strength_6 ⟨Nat.zero_le _, Nat.zero_le _⟩ rfl
theorem lh_work_0 (hM : MC l yX3_work wsX3_work rmX3_work false [.ref xp, .int x0, .int x1, .int x2] w (some (.int v)) w1) (hx : w[xp]? = some (.inr (3, fs))) : MCE l yL_work wsL_work r0L_work ctN false [.ref xp, .int x0, .int x1, .int x2] w (some (.int v)) (w1) := by
  refine mj_MCEH (cc := cL_work) (nl := 5) (hh := [(0, 7, 8, 16), (0, 7, 13, 31)]) ctN_vm (by decide +kernel) rfl (Nat.le_of_ble_eq_true rfl) ?_
  show GG l cL_work M0L_work false (.inl (some (.int v), w1)) 0 [some (.ref xp), some (.int x0), some (.int x1), some (.int x2), none] [] w 0 0
  refine G_aload_n dL_work_0 rfl ?_
  refine G_iload_n dL_work_1 rfl ?_
  refine G_iload_n dL_work_2 rfl ?_
  refine G_iload_n dL_work_3 rfl ?_
  refine G_callVi dL_work_4 kX3L_work ⟨rfl, rfl⟩ ⟨Nat.zero_le _, Nat.zero_le _⟩ hM rfl rfl hx rfl rfl ?_
  exact G_iret dL_work_7 ⟨Nat.zero_le _, Nat.zero_le _⟩ rfl
theorem lh_work_2 (hM : MCX l yX3_work wsX3_work rmT3_work [.ref xp, .int x0, .int x1, .int x2] w xIS w1) (hx : w[xp]? = some (.inr (3, fs))) : MCE l yL_work wsL_work rmL_work ctN false [.ref xp, .int x0, .int x1, .int x2] w (some (.int (-103))) (w1) := by
  refine mj_MCEH (cc := cL_work) (nl := 5) (hh := [(0, 7, 8, 16), (0, 7, 13, 31)]) ctN_vm (by decide +kernel) rfl (Nat.le_of_ble_eq_true rfl) ?_
  show GG l cL_work ML_work false (.inl (some (.int (-103)), w1)) 0 [some (.ref xp), some (.int x0), some (.int x1), some (.int x2), none] [] w 0 0
  refine G_aload_n dL_work_0 rfl ?_
  refine G_iload_n dL_work_1 rfl ?_
  refine G_iload_n dL_work_2 rfl ?_
  refine G_iload_n dL_work_3 rfl ?_
  refine G_callVC (i := 4) (q2 := 15) dL_work_4 kT3L_work (by decide) hM rfl rfl hx rfl rfl (tb := tableOf [(0, 7, 8, 16), (0, 7, 13, 31)]) rfl [⟨0, 7, 8, 16⟩] ⟨0, 7, 13, 31⟩ [] rfl (List.forall_mem_cons.mpr ⟨⟨xIO, by decide, lkL_work_16, List.mem_append_right _ (by decide +kernel)⟩, (fun _ h => absurd h List.not_mem_nil)⟩) ⟨rfl, by decide⟩ lkL_work_31 (List.mem_append_right _ (by decide +kernel)) (Or.inl ⟨dL_work_13, rfl⟩) rfl ?_
  refine G_bipush (v := (-103)) dL_work_15 (by decide) ?_
  exact G_iret dL_work_17 (by decide) rfl
theorem lh_rest_0 (hM : MC l yX3_rest wsX3_rest rmX3_rest false [.ref xp, .int x0] w (some (.int v)) w1) (hx : w[xp]? = some (.inr (3, fs))) : MCE l yL_rest wsL_rest r0L_rest ctN false [.ref xp, .int x0] w (some (.int v)) (w1) := by
  refine mj_MCEH (cc := cL_rest) (nl := 3) (hh := [(0, 5, 6, 16)]) ctN_vm (by decide +kernel) rfl (Nat.le_of_ble_eq_true rfl) ?_
  show GG l cL_rest M0L_rest false (.inl (some (.int v), w1)) 0 [some (.ref xp), some (.int x0), none] [] w 0 0
  refine G_aload_n dL_rest_0 rfl ?_
  refine G_iload_n dL_rest_1 rfl ?_
  refine G_callVi dL_rest_2 kX3L_rest ⟨rfl, rfl⟩ ⟨Nat.zero_le _, Nat.zero_le _⟩ hM rfl rfl hx rfl rfl ?_
  exact G_iret dL_rest_5 ⟨Nat.zero_le _, Nat.zero_le _⟩ rfl
theorem lh_give_0 (hM : MC l yX3_give wsX3_give rmX3_give false [.ref xp, .int x0, .int x1, .int x2, .int x3] w (some (.int v)) w1) (hx : w[xp]? = some (.inr (3, fs))) : MCE l yL_give wsL_give r0L_give ctN false [.ref xp, .int x0, .int x1, .int x2, .int x3] w (some (.int v)) (w1) := by
  refine mj_MCEH (cc := cL_give) (nl := 6) (hh := [(0, 9, 10, 16), (0, 9, 15, 18), (0, 9, 20, 31)]) ctN_vm (by decide +kernel) rfl (Nat.le_of_ble_eq_true rfl) ?_
  show GG l cL_give M0L_give false (.inl (some (.int v), w1)) 0 [some (.ref xp), some (.int x0), some (.int x1), some (.int x2), some (.int x3), none] [] w 0 0
  refine G_aload_n dL_give_0 rfl ?_
  refine G_iload_n dL_give_1 rfl ?_
  refine G_iload_n dL_give_2 rfl ?_
  refine G_iload_n dL_give_3 rfl ?_
  refine G_iload dL_give_4 rfl ?_
  refine G_callVi dL_give_6 kX3L_give ⟨rfl, rfl⟩ ⟨Nat.zero_le _, Nat.zero_le _⟩ hM rfl rfl hx rfl rfl ?_
  exact G_iret dL_give_9 ⟨Nat.zero_le _, Nat.zero_le _⟩ rfl
theorem lh_give_2 (hM : MCX l yX3_give wsX3_give rmT3_give [.ref xp, .int x0, .int x1, .int x2, .int x3] w xIA w1) (hx : w[xp]? = some (.inr (3, fs))) : MCE l yL_give wsL_give rmL_give ctN false [.ref xp, .int x0, .int x1, .int x2, .int x3] w (some (.int (-102))) (w1) := by
  refine mj_MCEH (cc := cL_give) (nl := 6) (hh := [(0, 9, 10, 16), (0, 9, 15, 18), (0, 9, 20, 31)]) ctN_vm (by decide +kernel) rfl (Nat.le_of_ble_eq_true rfl) ?_
  show GG l cL_give ML_give false (.inl (some (.int (-102)), w1)) 0 [some (.ref xp), some (.int x0), some (.int x1), some (.int x2), some (.int x3), none] [] w 0 0
  refine G_aload_n dL_give_0 rfl ?_
  refine G_iload_n dL_give_1 rfl ?_
  refine G_iload_n dL_give_2 rfl ?_
  refine G_iload_n dL_give_3 rfl ?_
  refine G_iload dL_give_4 rfl ?_
  refine G_callVC (i := 5) (q2 := 17) dL_give_6 kT3L_give (by decide) hM rfl rfl hx rfl rfl (tb := tableOf [(0, 9, 10, 16), (0, 9, 15, 18), (0, 9, 20, 31)]) rfl [⟨0, 9, 10, 16⟩] ⟨0, 9, 15, 18⟩ [⟨0, 9, 20, 31⟩] rfl (List.forall_mem_cons.mpr ⟨⟨xIO, by decide, lkL_give_16, List.mem_append_right _ (by decide +kernel)⟩, (fun _ h => absurd h List.not_mem_nil)⟩) ⟨rfl, by decide⟩ lkL_give_18 (List.mem_append_right _ (by decide +kernel)) (Or.inl ⟨dL_give_15, rfl⟩) rfl ?_
  refine G_bipush (v := (-102)) dL_give_17 (by decide) ?_
  exact G_iret dL_give_19 (by decide) rfl
theorem lh_give_3 (hM : MCX l yX3_give wsX3_give rmT3_give [.ref xp, .int x0, .int x1, .int x2, .int x3] w xIS w1) (hx : w[xp]? = some (.inr (3, fs))) : MCE l yL_give wsL_give rmL_give ctN false [.ref xp, .int x0, .int x1, .int x2, .int x3] w (some (.int (-103))) (w1) := by
  refine mj_MCEH (cc := cL_give) (nl := 6) (hh := [(0, 9, 10, 16), (0, 9, 15, 18), (0, 9, 20, 31)]) ctN_vm (by decide +kernel) rfl (Nat.le_of_ble_eq_true rfl) ?_
  show GG l cL_give ML_give false (.inl (some (.int (-103)), w1)) 0 [some (.ref xp), some (.int x0), some (.int x1), some (.int x2), some (.int x3), none] [] w 0 0
  refine G_aload_n dL_give_0 rfl ?_
  refine G_iload_n dL_give_1 rfl ?_
  refine G_iload_n dL_give_2 rfl ?_
  refine G_iload_n dL_give_3 rfl ?_
  refine G_iload dL_give_4 rfl ?_
  refine G_callVC (i := 5) (q2 := 22) dL_give_6 kT3L_give (by decide) hM rfl rfl hx rfl rfl (tb := tableOf [(0, 9, 10, 16), (0, 9, 15, 18), (0, 9, 20, 31)]) rfl [⟨0, 9, 10, 16⟩, ⟨0, 9, 15, 18⟩] ⟨0, 9, 20, 31⟩ [] rfl (List.forall_mem_cons.mpr ⟨⟨xIO, by decide, lkL_give_16, List.mem_append_right _ (by decide +kernel)⟩, (List.forall_mem_cons.mpr ⟨⟨xIA, by decide, lkL_give_18, List.mem_append_right _ (by decide +kernel)⟩, (fun _ h => absurd h List.not_mem_nil)⟩)⟩) ⟨rfl, by decide⟩ lkL_give_31 (List.mem_append_right _ (by decide +kernel)) (Or.inl ⟨dL_give_20, rfl⟩) rfl ?_
  refine G_bipush (v := (-103)) dL_give_22 (by decide) ?_
  exact G_iret dL_give_24 (by decide) rfl
theorem lh_pass_0 (hM : MC l yX3_pass wsX3_pass rmX3_pass false [.ref xp, .int x0] w (some (.int v)) w1) (hx : w[xp]? = some (.inr (3, fs))) : MCE l yL_pass wsL_pass r0L_pass ctN false [.ref xp, .int x0] w (some (.int v)) (w1) := by
  refine mj_MCEH (cc := cL_pass) (nl := 3) (hh := [(0, 5, 6, 18)]) ctN_vm (by decide +kernel) rfl (Nat.le_of_ble_eq_true rfl) ?_
  show GG l cL_pass M0L_pass false (.inl (some (.int v), w1)) 0 [some (.ref xp), some (.int x0), none] [] w 0 0
  refine G_aload_n dL_pass_0 rfl ?_
  refine G_iload_n dL_pass_1 rfl ?_
  refine G_callVi dL_pass_2 kX3L_pass ⟨rfl, rfl⟩ ⟨Nat.zero_le _, Nat.zero_le _⟩ hM rfl rfl hx rfl rfl ?_
  exact G_iret dL_pass_5 ⟨Nat.zero_le _, Nat.zero_le _⟩ rfl
theorem lh_set_0 (hM : MC l yX3_set wsX3_set rmX3_set false [.ref xp, .int x0, .int x1] w (some (.int v)) w1) (hx : w[xp]? = some (.inr (3, fs))) : MCE l yL_set wsL_set r0L_set ctN false [.ref xp, .int x0, .int x1] w (some (.int v)) (w1) := by
  refine mj_MCEH (cc := cL_set) (nl := 4) (hh := [(0, 6, 7, 16), (0, 6, 11, 18)]) ctN_vm (by decide +kernel) rfl (Nat.le_of_ble_eq_true rfl) ?_
  show GG l cL_set M0L_set false (.inl (some (.int v), w1)) 0 [some (.ref xp), some (.int x0), some (.int x1), none] [] w 0 0
  refine G_aload_n dL_set_0 rfl ?_
  refine G_iload_n dL_set_1 rfl ?_
  refine G_iload_n dL_set_2 rfl ?_
  refine G_callVi dL_set_3 kX3L_set ⟨rfl, rfl⟩ ⟨Nat.zero_le _, Nat.zero_le _⟩ hM rfl rfl hx rfl rfl ?_
  exact G_iret dL_set_6 ⟨Nat.zero_le _, Nat.zero_le _⟩ rfl
theorem lh_undo_0 (hM : MC l yX3_undo wsX3_undo rmX3_undo false [.ref xp] w (some (.int v)) w1) (hx : w[xp]? = some (.inr (3, fs))) : MCE l yL_undo wsL_undo r0L_undo ctN false [.ref xp] w (some (.int v)) (w1) := by
  refine mj_MCEH (cc := cL_undo) (nl := 2) (hh := [(0, 4, 5, 31)]) ctN_vm (by decide +kernel) rfl (Nat.le_of_ble_eq_true rfl) ?_
  show GG l cL_undo M0L_undo false (.inl (some (.int v), w1)) 0 [some (.ref xp), none] [] w 0 0
  refine G_aload_n dL_undo_0 rfl ?_
  refine G_callVi dL_undo_1 kX3L_undo ⟨rfl, rfl⟩ ⟨Nat.zero_le _, Nat.zero_le _⟩ hM rfl rfl hx rfl rfl ?_
  exact G_iret dL_undo_4 ⟨Nat.zero_le _, Nat.zero_le _⟩ rfl
theorem lh_hearthOf_0 (hM : MC l yX3_hearthOf wsX3_hearthOf rmX3_hearthOf false [.ref xp, .int x0, .int x1] w (some (.int v)) w1) (hx : w[xp]? = some (.inr (3, fs))) : MCE l yL_hearthOf wsL_hearthOf r0L_hearthOf ctN false [.ref xp, .int x0, .int x1] w (some (.int v)) (w1) := by
  refine mj_MCEH (cc := cL_hearthOf) (nl := 4) (hh := [(0, 6, 7, 16), (0, 6, 11, 18)]) ctN_vm (by decide +kernel) rfl (Nat.le_of_ble_eq_true rfl) ?_
  show GG l cL_hearthOf M0L_hearthOf false (.inl (some (.int v), w1)) 0 [some (.ref xp), some (.int x0), some (.int x1), none] [] w 0 0
  refine G_aload_n dL_hearthOf_0 rfl ?_
  refine G_iload_n dL_hearthOf_1 rfl ?_
  refine G_iload_n dL_hearthOf_2 rfl ?_
  refine G_callVi dL_hearthOf_3 kX3L_hearthOf ⟨rfl, rfl⟩ ⟨Nat.zero_le _, Nat.zero_le _⟩ hM rfl rfl hx rfl rfl ?_
  exact G_iret dL_hearthOf_6 ⟨Nat.zero_le _, Nat.zero_le _⟩ rfl
theorem lh_bankOf_0 (hM : MC l yX3_bankOf wsX3_bankOf rmX3_bankOf false [.ref xp, .int x0, .int x1] w (some (.int v)) w1) (hx : w[xp]? = some (.inr (3, fs))) : MCE l yL_bankOf wsL_bankOf r0L_bankOf ctN false [.ref xp, .int x0, .int x1] w (some (.int v)) (w1) := by
  refine mj_MCEH (cc := cL_bankOf) (nl := 4) (hh := [(0, 6, 7, 16), (0, 6, 11, 18)]) ctN_vm (by decide +kernel) rfl (Nat.le_of_ble_eq_true rfl) ?_
  show GG l cL_bankOf M0L_bankOf false (.inl (some (.int v), w1)) 0 [some (.ref xp), some (.int x0), some (.int x1), none] [] w 0 0
  refine G_aload_n dL_bankOf_0 rfl ?_
  refine G_iload_n dL_bankOf_1 rfl ?_
  refine G_iload_n dL_bankOf_2 rfl ?_
  refine G_callVi dL_bankOf_3 kX3L_bankOf ⟨rfl, rfl⟩ ⟨Nat.zero_le _, Nat.zero_le _⟩ hM rfl rfl hx rfl rfl ?_
  exact G_iret dL_bankOf_6 ⟨Nat.zero_le _, Nat.zero_le _⟩ rfl
theorem lh_plot_0 (hM : MC l yX3_plot wsX3_plot rmX3_plot false [.ref xp, .int x0, .int x1, .int x2] w (some (.int v)) w1) (hx : w[xp]? = some (.inr (3, fs))) : MCE l yL_plot wsL_plot r0L_plot ctN false [.ref xp, .int x0, .int x1, .int x2] w (some (.int v)) (w1) := by
  refine mj_MCEH (cc := cL_plot) (nl := 5) (hh := [(0, 7, 8, 16), (0, 7, 13, 18)]) ctN_vm (by decide +kernel) rfl (Nat.le_of_ble_eq_true rfl) ?_
  show GG l cL_plot M0L_plot false (.inl (some (.int v), w1)) 0 [some (.ref xp), some (.int x0), some (.int x1), some (.int x2), none] [] w 0 0
  refine G_aload_n dL_plot_0 rfl ?_
  refine G_iload_n dL_plot_1 rfl ?_
  refine G_iload_n dL_plot_2 rfl ?_
  refine G_iload_n dL_plot_3 rfl ?_
  refine G_callVi dL_plot_4 kX3L_plot ⟨rfl, rfl⟩ ⟨Nat.zero_le _, Nat.zero_le _⟩ hM rfl rfl hx rfl rfl ?_
  exact G_iret dL_plot_7 ⟨Nat.zero_le _, Nat.zero_le _⟩ rfl
theorem lh_cutter_0 (hM : MC l yX3_cutter wsX3_cutter rmX3_cutter false [.ref xp, .int x0, .int x1] w (some (.int v)) w1) (hx : w[xp]? = some (.inr (3, fs))) : MCE l yL_cutter wsL_cutter r0L_cutter ctN false [.ref xp, .int x0, .int x1] w (some (.int v)) (w1) := by
  refine mj_MCEH (cc := cL_cutter) (nl := 4) (hh := [(0, 6, 7, 16), (0, 6, 11, 18)]) ctN_vm (by decide +kernel) rfl (Nat.le_of_ble_eq_true rfl) ?_
  show GG l cL_cutter M0L_cutter false (.inl (some (.int v), w1)) 0 [some (.ref xp), some (.int x0), some (.int x1), none] [] w 0 0
  refine G_aload_n dL_cutter_0 rfl ?_
  refine G_iload_n dL_cutter_1 rfl ?_
  refine G_iload_n dL_cutter_2 rfl ?_
  refine G_callVi dL_cutter_3 kX3L_cutter ⟨rfl, rfl⟩ ⟨Nat.zero_le _, Nat.zero_le _⟩ hM rfl rfl hx rfl rfl ?_
  exact G_iret dL_cutter_6 ⟨Nat.zero_le _, Nat.zero_le _⟩ rfl
theorem lh_rain_0 (hM : MC l yX3_rain wsX3_rain rmX3_rain false [.ref xp, .int x0] w (some (.int v)) w1) (hx : w[xp]? = some (.inr (3, fs))) : MCE l yL_rain wsL_rain r0L_rain ctN false [.ref xp, .int x0] w (some (.int v)) (w1) := by
  refine mj_MCEH (cc := cL_rain) (nl := 3) (hh := [(0, 5, 6, 18)]) ctN_vm (by decide +kernel) rfl (Nat.le_of_ble_eq_true rfl) ?_
  show GG l cL_rain M0L_rain false (.inl (some (.int v), w1)) 0 [some (.ref xp), some (.int x0), none] [] w 0 0
  refine G_aload_n dL_rain_0 rfl ?_
  refine G_iload_n dL_rain_1 rfl ?_
  refine G_callVi dL_rain_2 kX3L_rain ⟨rfl, rfl⟩ ⟨Nat.zero_le _, Nat.zero_le _⟩ hM rfl rfl hx rfl rfl ?_
  exact G_iret dL_rain_5 ⟨Nat.zero_le _, Nat.zero_le _⟩ rfl
theorem lh_count_0 (hM : MC l yX3_count wsX3_count rmX3_count false [.ref xp, .int x0] w (some (.int v)) w1) (hx : w[xp]? = some (.inr (3, fs))) : MCE l yL_count wsL_count r0L_count ctN false [.ref xp, .int x0] w (some (.int v)) (w1) := by
  refine mj_MCEH (cc := cL_count) (nl := 3) (hh := [(0, 5, 6, 18)]) ctN_vm (by decide +kernel) rfl (Nat.le_of_ble_eq_true rfl) ?_
  show GG l cL_count M0L_count false (.inl (some (.int v), w1)) 0 [some (.ref xp), some (.int x0), none] [] w 0 0
  refine G_aload_n dL_count_0 rfl ?_
  refine G_iload_n dL_count_1 rfl ?_
  refine G_callVi dL_count_2 kX3L_count ⟨rfl, rfl⟩ ⟨Nat.zero_le _, Nat.zero_le _⟩ hM rfl rfl hx rfl rfl ?_
  exact G_iret dL_count_5 ⟨Nat.zero_le _, Nat.zero_le _⟩ rfl
theorem lh_whyNot_0 (hM : MC l yX3_whyNot wsX3_whyNot rmX3_whyNot false [.ref xp, .int x0, .int x1, .int x2] w (some (.int v)) w1) (hx : w[xp]? = some (.inr (3, fs))) : MCE l yL_whyNot wsL_whyNot r0L_whyNot ctN false [.ref xp, .int x0, .int x1, .int x2] w (some (.int v)) (w1) := by
  refine mj_MCEH (cc := cL_whyNot) (nl := 5) (hh := [(0, 7, 8, 16)]) ctN_vm (by decide +kernel) rfl (Nat.le_of_ble_eq_true rfl) ?_
  show GG l cL_whyNot M0L_whyNot false (.inl (some (.int v), w1)) 0 [some (.ref xp), some (.int x0), some (.int x1), some (.int x2), none] [] w 0 0
  refine G_aload_n dL_whyNot_0 rfl ?_
  refine G_iload_n dL_whyNot_1 rfl ?_
  refine G_iload_n dL_whyNot_2 rfl ?_
  refine G_iload_n dL_whyNot_3 rfl ?_
  refine G_callVi dL_whyNot_4 kX3L_whyNot ⟨rfl, rfl⟩ ⟨Nat.zero_le _, Nat.zero_le _⟩ hM rfl rfl hx rfl rfl ?_
  exact G_iret dL_whyNot_7 ⟨Nat.zero_le _, Nat.zero_le _⟩ rfl
end HD
/-- every look of the class in the world w tells of the state f -/
def LK (l : Launch) (f : mj_S) (w : mj_W) : Prop := (∃ fs, w[0]? = some (.inr (3, fs))) ∧
  (∀ h k, h < 5 → k < 12 → MCE l yL_hearthOf wsL_hearthOf r0L_hearthOf ctN false [.ref 0, .int (nI h), .int (nI k)] w (some (.int (s_ofH f h k))) w) ∧
  (∀ b k, b < 4 → k < 5 → MCE l yL_bankOf wsL_bankOf r0L_bankOf ctN false [.ref 0, .int (nI b), .int (nI k)] w (some (.int (s_ofB (s_com f) f b k))) w) ∧
  (∀ h b k, h < 5 → b < 4 → k < 5 → MCE l yL_plot wsL_plot r0L_plot ctN false [.ref 0, .int (nI h), .int (nI b), .int (nI k)] w (some (.int (s_ofP f h b k))) w) ∧
  (∀ c k, c < 6 → k < 4 → MCE l yL_cutter wsL_cutter r0L_cutter ctN false [.ref 0, .int (nI c), .int (nI k)] w (some (.int (f (133 + 6 * k + c)))) w) ∧
  (∀ k, k < 12 → MCE l yL_count wsL_count r0L_count ctN false [.ref 0, .int (nI k)] w (some (.int (s_ofA f k))) w) ∧
  (∀ c h b, c < 6 → h < 5 → b < 4 → MCE l yL_whyNot wsL_whyNot r0L_whyNot ctN false [.ref 0, .int (nI c), .int (nI h), .int (nI b)] w (some (.int (s_why f h b))) w) ∧
  (∀ d, d < 2147483648 → MCE l yL_rain wsL_rain r0L_rain ctN false [.ref 0, .int (nI d)] w (some (.int (nI (s_rain f d)))) w) ∧
  MC l yX3_dryness wsX3_dryness rmX3_dryness false [.ref 0] w (some (.double (s_share f))) w
theorem lk_of {l : Launch} {lp ap tp up hp rp kp sp yp zp : Nat} {Ω : CT} (hΩ : CV 0 lp ap tp up hp rp kp sp yp zp Ω) {f rt R R1 g : mj_S} {T m T1 m1 n D : Nat} (ho : oA f D) (hv : vt f) : LK l f (Ω (row (s_com f) f) rt R T m R1 T1 m1 g n) := by
  have hx := hΩ.1 (row (s_com f) f) rt R T m R1 T1 m1 g n
  obtain ⟨si, hsi9, hsi⟩ := ho.2.2.1
  exact ⟨⟨_, hx⟩, fun h k hh hk => lh_hearthOf_0 (x_hearthOf hΩ hh hk) hx, fun b k hb hk => lh_bankOf_0 (x_bankOf hΩ hb hk) hx, fun h b k hh hb hk => lh_plot_0 (x_plot hΩ hh hb hk) hx, fun c k hc hk => lh_cutter_0 (x_cutter hΩ hc hk) hx, fun k hk => lh_count_0 (x_count hΩ hk) hx, fun c h b hc hh hb => lh_whyNot_0 (x_whyNot hΩ hc hh hb) hx, fun d hd => lh_rain_0 (x_rain hΩ hd hsi hsi9) hx, x_dryness hΩ hv⟩

abbrev rmX4_allWorkers : Room := { frames := 2, cells := 0, slots := 0, locals := 47 }
abbrev MX4_allWorkers : mj_M := (RX4, 3, wsX4_allWorkers, rmX4_allWorkers, false, none)
abbrev rmX4_append : Room := { frames := 1, cells := 0, slots := 0, locals := 22 }
abbrev MX4_append : mj_M := (RX4, 2, wsX4_append, rmX4_append, false, none)
abbrev rmX4_atLeastNone : Room := { frames := 0, cells := 0, slots := 0, locals := 0 }
abbrev MX4_atLeastNone : mj_M := (RX4, 1, wsX4_atLeastNone, rmX4_atLeastNone, false, none)
abbrev rmX4_bankOf : Room := { frames := 3, cells := 0, slots := 0, locals := 69 }
abbrev MX4_bankOf : mj_M := (RX4, 3, wsX4_bankOf, rmX4_bankOf, false, none)
abbrev rmX4_bestBank : Room := { frames := 7, cells := 0, slots := 0, locals := 171 }
abbrev MX4_bestBank : mj_M := (RX4, 3, wsX4_bestBank, rmX4_bestBank, false, none)
abbrev rmX4_bestFor : Room := { frames := 6, cells := 0, slots := 0, locals := 144 }
abbrev MX4_bestFor : mj_M := (RX4, 8, wsX4_bestFor, rmX4_bestFor, false, none)
abbrev rmX4_bringHome : Room := { frames := 1, cells := 0, slots := 0, locals := 23 }
abbrev MX4_bringHome : mj_M := (RX4, 6, wsX4_bringHome, rmX4_bringHome, false, none)
abbrev rmX4_burnAll : Room := { frames := 1, cells := 0, slots := 0, locals := 21 }
abbrev MX4_burnAll : mj_M := (RX4, 3, wsX4_burnAll, rmX4_burnAll, false, none)
abbrev rmX4_cart : Room := { frames := 2, cells := 0, slots := 0, locals := 48 }
abbrev MX4_cart : mj_M := (RX4, 6, wsX4_cart, rmX4_cart, false, none)
abbrev rmX4_clearBuffer : Room := { frames := 0, cells := 0, slots := 0, locals := 0 }
abbrev MX4_clearBuffer : mj_M := (RX4, 2, wsX4_clearBuffer, rmX4_clearBuffer, false, none)
abbrev rmX4_commons : Room := { frames := 0, cells := 0, slots := 0, locals := 0 }
abbrev MX4_commons : mj_M := (RX4, 4, wsX4_commons, rmX4_commons, false, none)
abbrev rmX4_count : Room := { frames := 5, cells := 0, slots := 0, locals := 112 }
abbrev MX4_count : mj_M := (RX4, 2, wsX4_count, rmX4_count, false, none)
abbrev rmX4_cutAll : Room := { frames := 1, cells := 0, slots := 0, locals := 21 }
abbrev MX4_cutAll : mj_M := (RX4, 5, wsX4_cutAll, rmX4_cutAll, false, none)
abbrev rmX4_cutter : Room := { frames := 2, cells := 0, slots := 0, locals := 42 }
abbrev MX4_cutter : mj_M := (RX4, 3, wsX4_cutter, rmX4_cutter, false, none)
abbrev rmX4_daysUntil : Room := { frames := 4, cells := 0, slots := 0, locals := 97 }
abbrev MX4_daysUntil : mj_M := (RX4, 3, wsX4_daysUntil, rmX4_daysUntil, false, none)
abbrev rmX4_digest : Room := { frames := 8, cells := 0, slots := 0, locals := 193 }
abbrev MX4_digest : mj_M := (RX4, 2, wsX4_digest, rmX4_digest, false, none)
abbrev rmX4_doesPart : Room := { frames := 5, cells := 0, slots := 0, locals := 120 }
abbrev MX4_doesPart : mj_M := (RX4, 1, wsX4_doesPart, rmX4_doesPart, false, none)
abbrev rmX4_dry : Room := { frames := 1, cells := 0, slots := 0, locals := 21 }
abbrev MX4_dry : mj_M := (RX4, 4, wsX4_dry, rmX4_dry, false, none)
abbrev rmX4_dryness : Room := { frames := 2, cells := 0, slots := 0, locals := 45 }
abbrev MX4_dryness : mj_M := (RX4, 1, wsX4_dryness, rmX4_dryness, false, none)
abbrev rmX4_enoughIn : Room := { frames := 5, cells := 0, slots := 0, locals := 119 }
abbrev MX4_enoughIn : mj_M := (RX4, 2, wsX4_enoughIn, rmX4_enoughIn, false, none)
abbrev rmX4_fails : Room := { frames := 0, cells := 0, slots := 0, locals := 0 }
abbrev MX4_fails : mj_M := (RX4, 2, wsX4_fails, rmX4_fails, false, none)
abbrev rmX4_findError : Room := { frames := 4, cells := 0, slots := 0, locals := 86 }
abbrev MX4_findError : mj_M := (RX4, 1, wsX4_findError, rmX4_findError, false, none)
abbrev rmX4_firstError : Room := { frames := 5, cells := 0, slots := 0, locals := 106 }
abbrev MX4_firstError : mj_M := (RX4, 2, wsX4_firstError, rmX4_firstError, false, none)
abbrev rmX4_give : Room := { frames := 2, cells := 0, slots := 0, locals := 45 }
abbrev MX4_give : mj_M := (RX4, 5, wsX4_give, rmX4_give, false, none)
abbrev rmX4_hearth : Room := { frames := 2, cells := 0, slots := 0, locals := 42 }
abbrev MX4_hearth : mj_M := (RX4, 5, wsX4_hearth, rmX4_hearth, false, none)
abbrev rmX4_hearthOf : Room := { frames := 4, cells := 0, slots := 0, locals := 89 }
abbrev MX4_hearthOf : mj_M := (RX4, 3, wsX4_hearthOf, rmX4_hearthOf, false, none)
abbrev rmX4_homeWith : Room := { frames := 5, cells := 0, slots := 0, locals := 120 }
abbrev MX4_homeWith : mj_M := (RX4, 5, wsX4_homeWith, rmX4_homeWith, false, none)
abbrev rmX4_ifPassed : Room := { frames := 6, cells := 0, slots := 0, locals := 145 }
abbrev MX4_ifPassed : mj_M := (RX4, 3, wsX4_ifPassed, rmX4_ifPassed, false, none)
abbrev rmX4_init : Room := { frames := 1, cells := 5, slots := 1473, locals := 21 }
abbrev MX4_init : mj_M := (RX4, 2, wsX4_init, rmX4_init, true, none)
abbrev rmX4_isBank : Room := { frames := 1, cells := 0, slots := 0, locals := 22 }
abbrev MX4_isBank : mj_M := (RX4, 1, wsX4_isBank, rmX4_isBank, false, none)
abbrev rmX4_isCutter : Room := { frames := 1, cells := 0, slots := 0, locals := 22 }
abbrev MX4_isCutter : mj_M := (RX4, 1, wsX4_isCutter, rmX4_isCutter, false, none)
abbrev rmX4_isHearth : Room := { frames := 1, cells := 0, slots := 0, locals := 22 }
abbrev MX4_isHearth : mj_M := (RX4, 1, wsX4_isHearth, rmX4_isHearth, false, none)
abbrev rmX4_keep : Room := { frames := 0, cells := 0, slots := 0, locals := 0 }
abbrev MX4_keep : mj_M := (RX4, 2, wsX4_keep, rmX4_keep, false, none)
abbrev rmX4_leastOf : Room := { frames := 0, cells := 0, slots := 0, locals := 0 }
abbrev MX4_leastOf : mj_M := (RX4, 1, wsX4_leastOf, rmX4_leastOf, false, none)
abbrev rmX4_less : Room := { frames := 0, cells := 0, slots := 0, locals := 0 }
abbrev MX4_less : mj_M := (RX4, 2, wsX4_less, rmX4_less, false, none)
abbrev rmX4_lieOn : Room := { frames := 1, cells := 0, slots := 0, locals := 23 }
abbrev MX4_lieOn : mj_M := (RX4, 4, wsX4_lieOn, rmX4_lieOn, false, none)
abbrev rmX4_mix : Room := { frames := 0, cells := 0, slots := 0, locals := 0 }
abbrev MX4_mix : mj_M := (RX4, 3, wsX4_mix, rmX4_mix, false, none)
abbrev rmX4_mixHearth : Room := { frames := 7, cells := 0, slots := 0, locals := 171 }
abbrev MX4_mixHearth : mj_M := (RX4, 3, wsX4_mixHearth, rmX4_mixHearth, false, none)
abbrev rmX4_mostOf : Room := { frames := 0, cells := 0, slots := 0, locals := 0 }
abbrev MX4_mostOf : mj_M := (RX4, 1, wsX4_mostOf, rmX4_mostOf, false, none)
abbrev rmX4_next : Room := { frames := 0, cells := 0, slots := 0, locals := 0 }
abbrev MX4_next : mj_M := (RX4, 1, wsX4_next, rmX4_next, false, none)
abbrev rmX4_ofHearth : Room := { frames := 1, cells := 0, slots := 0, locals := 23 }
abbrev MX4_ofHearth : mj_M := (RX4, 4, wsX4_ofHearth, rmX4_ofHearth, false, none)
abbrev rmX4_pass : Room := { frames := 5, cells := 0, slots := 0, locals := 120 }
abbrev MX4_pass : mj_M := (RX4, 2, wsX4_pass, rmX4_pass, false, none)
abbrev rmX4_passOne : Room := { frames := 3, cells := 0, slots := 0, locals := 73 }
abbrev MX4_passOne : mj_M := (RX4, 5, wsX4_passOne, rmX4_passOne, false, none)
abbrev rmX4_passes : Room := { frames := 4, cells := 0, slots := 0, locals := 97 }
abbrev MX4_passes : mj_M := (RX4, 4, wsX4_passes, rmX4_passes, false, none)
abbrev rmX4_play : Room := { frames := 6, cells := 0, slots := 0, locals := 140 }
abbrev MX4_play : mj_M := (RX4, 3, wsX4_play, rmX4_play, false, none)
abbrev rmX4_plot : Room := { frames := 2, cells := 0, slots := 0, locals := 48 }
abbrev MX4_plot : mj_M := (RX4, 4, wsX4_plot, rmX4_plot, false, none)
abbrev rmX4_poorest : Room := { frames := 0, cells := 0, slots := 0, locals := 0 }
abbrev MX4_poorest : mj_M := (RX4, 4, wsX4_poorest, rmX4_poorest, false, none)
abbrev rmX4_putAside : Room := { frames := 0, cells := 0, slots := 0, locals := 0 }
abbrev MX4_putAside : mj_M := (RX4, 2, wsX4_putAside, rmX4_putAside, false, none)
abbrev rmX4_rain : Room := { frames := 1, cells := 0, slots := 0, locals := 23 }
abbrev MX4_rain : mj_M := (RX4, 2, wsX4_rain, rmX4_rain, false, none)
abbrev rmX4_rainOf : Room := { frames := 0, cells := 0, slots := 0, locals := 0 }
abbrev MX4_rainOf : mj_M := (RX4, 4, wsX4_rainOf, rmX4_rainOf, false, none)
abbrev rmX4_readsDays : Room := { frames := 2, cells := 0, slots := 0, locals := 45 }
abbrev MX4_readsDays : mj_M := (RX4, 2, wsX4_readsDays, rmX4_readsDays, false, none)
abbrev rmX4_readsPart : Room := { frames := 3, cells := 0, slots := 0, locals := 66 }
abbrev MX4_readsPart : mj_M := (RX4, 1, wsX4_readsPart, rmX4_readsPart, false, none)
abbrev rmX4_readsWork : Room := { frames := 2, cells := 0, slots := 0, locals := 45 }
abbrev MX4_readsWork : mj_M := (RX4, 1, wsX4_readsWork, rmX4_readsWork, false, none)
abbrev rmX4_reason : Room := { frames := 2, cells := 0, slots := 0, locals := 45 }
abbrev MX4_reason : mj_M := (RX4, 4, wsX4_reason, rmX4_reason, false, none)
abbrev rmX4_rest : Room := { frames := 3, cells := 0, slots := 0, locals := 69 }
abbrev MX4_rest : mj_M := (RX4, 2, wsX4_rest, rmX4_rest, false, none)
abbrev rmX4_restore : Room := { frames := 1, cells := 0, slots := 0, locals := 21 }
abbrev MX4_restore : mj_M := (RX4, 2, wsX4_restore, rmX4_restore, false, none)
abbrev rmX4_save : Room := { frames := 0, cells := 0, slots := 0, locals := 0 }
abbrev MX4_save : mj_M := (RX4, 2, wsX4_save, rmX4_save, false, none)
abbrev rmX4_set : Room := { frames := 1, cells := 0, slots := 0, locals := 22 }
abbrev MX4_set : mj_M := (RX4, 4, wsX4_set, rmX4_set, false, none)
abbrev rmX4_setToWork : Room := { frames := 0, cells := 0, slots := 0, locals := 0 }
abbrev MX4_setToWork : mj_M := (RX4, 4, wsX4_setToWork, rmX4_setToWork, false, none)
abbrev rmX4_share : Room := { frames := 1, cells := 0, slots := 0, locals := 24 }
abbrev MX4_share : mj_M := (RX4, 2, wsX4_share, rmX4_share, false, none)
abbrev rmX4_sharesOf : Room := { frames := 1, cells := 0, slots := 0, locals := 23 }
abbrev MX4_sharesOf : mj_M := (RX4, 3, wsX4_sharesOf, rmX4_sharesOf, false, none)
abbrev rmX4_shortByBook : Room := { frames := 1, cells := 0, slots := 0, locals := 20 }
abbrev MX4_shortByBook : mj_M := (RX4, 3, wsX4_shortByBook, rmX4_shortByBook, false, none)
abbrev rmX4_shortHearths : Room := { frames := 3, cells := 0, slots := 0, locals := 67 }
abbrev MX4_shortHearths : mj_M := (RX4, 5, wsX4_shortHearths, rmX4_shortHearths, false, none)
abbrev rmX4_shortNow : Room := { frames := 1, cells := 0, slots := 0, locals := 20 }
abbrev MX4_shortNow : mj_M := (RX4, 2, wsX4_shortNow, rmX4_shortNow, false, none)
abbrev rmX4_shortThen : Room := { frames := 2, cells := 0, slots := 0, locals := 46 }
abbrev MX4_shortThen : mj_M := (RX4, 2, wsX4_shortThen, rmX4_shortThen, false, none)
abbrev rmX4_snow : Room := { frames := 2, cells := 0, slots := 0, locals := 44 }
abbrev MX4_snow : mj_M := (RX4, 1, wsX4_snow, rmX4_snow, false, none)
abbrev rmX4_soak : Room := { frames := 0, cells := 0, slots := 0, locals := 0 }
abbrev MX4_soak : mj_M := (RX4, 4, wsX4_soak, rmX4_soak, false, none)
abbrev rmX4_strength : Room := { frames := 2, cells := 0, slots := 0, locals := 42 }
abbrev MX4_strength : mj_M := (RX4, 4, wsX4_strength, rmX4_strength, false, none)
abbrev rmX4_sumOf : Room := { frames := 0, cells := 0, slots := 0, locals := 0 }
abbrev MX4_sumOf : mj_M := (RX4, 5, wsX4_sumOf, rmX4_sumOf, false, none)
abbrev rmX4_takeBack : Room := { frames := 0, cells := 0, slots := 0, locals := 0 }
abbrev MX4_takeBack : mj_M := (RX4, 2, wsX4_takeBack, rmX4_takeBack, false, none)
abbrev rmX4_takeDigit : Room := { frames := 1, cells := 0, slots := 0, locals := 22 }
abbrev MX4_takeDigit : mj_M := (RX4, 4, wsX4_takeDigit, rmX4_takeDigit, false, none)
abbrev rmX4_takes : Room := { frames := 1, cells := 0, slots := 0, locals := 20 }
abbrev MX4_takes : mj_M := (RX4, 3, wsX4_takes, rmX4_takes, false, none)
abbrev rmX4_tellsBank : Room := { frames := 2, cells := 0, slots := 0, locals := 47 }
abbrev MX4_tellsBank : mj_M := (RX4, 3, wsX4_tellsBank, rmX4_tellsBank, false, none)
abbrev rmX4_tellsCount : Room := { frames := 4, cells := 0, slots := 0, locals := 91 }
abbrev MX4_tellsCount : mj_M := (RX4, 2, wsX4_tellsCount, rmX4_tellsCount, false, none)
abbrev rmX4_tellsCutter : Room := { frames := 0, cells := 0, slots := 0, locals := 0 }
abbrev MX4_tellsCutter : mj_M := (RX4, 3, wsX4_tellsCutter, rmX4_tellsCutter, false, none)
abbrev rmX4_tellsHearth : Room := { frames := 3, cells := 0, slots := 0, locals := 67 }
abbrev MX4_tellsHearth : mj_M := (RX4, 3, wsX4_tellsHearth, rmX4_tellsHearth, false, none)
abbrev rmX4_tellsPlot : Room := { frames := 1, cells := 0, slots := 0, locals := 24 }
abbrev MX4_tellsPlot : mj_M := (RX4, 5, wsX4_tellsPlot, rmX4_tellsPlot, false, none)
abbrev rmX4_thrown : Room := { frames := 0, cells := 0, slots := 0, locals := 0 }
abbrev MX4_thrown : mj_M := (RX4, 1, wsX4_thrown, rmX4_thrown, false, none)
abbrev rmX4_track : Room := { frames := 2, cells := 0, slots := 0, locals := 42 }
abbrev MX4_track : mj_M := (RX4, 4, wsX4_track, rmX4_track, false, none)
abbrev rmX4_turnSnow : Room := { frames := 1, cells := 0, slots := 0, locals := 23 }
abbrev MX4_turnSnow : mj_M := (RX4, 2, wsX4_turnSnow, rmX4_turnSnow, false, none)
abbrev rmX4_turvesOn : Room := { frames := 0, cells := 0, slots := 0, locals := 0 }
abbrev MX4_turvesOn : mj_M := (RX4, 4, wsX4_turvesOn, rmX4_turvesOn, false, none)
abbrev rmX4_undo : Room := { frames := 1, cells := 0, slots := 0, locals := 21 }
abbrev MX4_undo : mj_M := (RX4, 2, wsX4_undo, rmX4_undo, false, none)
abbrev rmX4_whyNot : Room := { frames := 3, cells := 0, slots := 0, locals := 68 }
abbrev MX4_whyNot : mj_M := (RX4, 4, wsX4_whyNot, rmX4_whyNot, false, none)
abbrev rmX4_within : Room := { frames := 0, cells := 0, slots := 0, locals := 0 }
abbrev MX4_within : mj_M := (RX4, 3, wsX4_within, rmX4_within, false, none)
abbrev rmX4_work : Room := { frames := 3, cells := 0, slots := 0, locals := 68 }
abbrev MX4_work : mj_M := (RX4, 4, wsX4_work, rmX4_work, false, none)
abbrev rmX4_workers : Room := { frames := 0, cells := 0, slots := 0, locals := 0 }
abbrev MX4_workers : mj_M := (RX4, 5, wsX4_workers, rmX4_workers, false, none)
abbrev rmX4_workersOn : Room := { frames := 1, cells := 0, slots := 0, locals := 24 }
abbrev MX4_workersOn : mj_M := (RX4, 4, wsX4_workersOn, rmX4_workersOn, false, none)
abbrev rmX4_wouldPass : Room := { frames := 5, cells := 0, slots := 0, locals := 120 }
abbrev MX4_wouldPass : mj_M := (RX4, 6, wsX4_wouldPass, rmX4_wouldPass, false, none)
theorem kX4_allWorkers_X4_workersOn : mj_cwV MX4_allWorkers 91 RX4 yX4_workersOn wsX4_workersOn rmX4_workersOn 1 := ⟨_, _, _, _, gX4_allWorkers_X4_workersOn, rfl, by decide +kernel, by decide⟩
theorem kX4_append_X4_within : mj_cwS MX4_append 29 yX4_within wsX4_within rmX4_within 3 := ⟨_, _, _, _, gX4_append_X4_within, rfl, by decide +kernel, by decide⟩
theorem kX4_append_X4_fails : mj_cwV MX4_append 36 RX4 yX4_fails wsX4_fails rmX4_fails 1 := ⟨_, _, _, _, gX4_append_X4_fails, rfl, by decide +kernel, by decide⟩
theorem pX4_append_25 : mj_flp MX4_append 25 4 0 .int := ⟨_, _, _, tyX4, rfl, by decide +kernel, by decide, by decide +kernel, tyX4_ok, nmX4, by decide +kernel, by decide +kernel⟩
theorem fX4_append_137 : mj_fl MX4_append 137 4 8 := ⟨_, _, _, rfl, by decide +kernel, by decide, by decide +kernel⟩
theorem fX4_append_22 : mj_fl MX4_append 22 4 7 := ⟨_, _, _, rfl, by decide +kernel, by decide, by decide +kernel⟩
theorem pX4_append_137 : mj_flp MX4_append 137 4 8 .int := ⟨_, _, _, tyX4, rfl, by decide +kernel, by decide, by decide +kernel, tyX4_ok, nmX4, by decide +kernel, by decide +kernel⟩
theorem kX4_bankOf_X4_isBank : mj_cwS MX4_bankOf 113 yX4_isBank wsX4_isBank rmX4_isBank 1 := ⟨_, _, _, _, gX4_bankOf_X4_isBank, rfl, by decide +kernel, by decide⟩
theorem kX4_bankOf_X4_fails : mj_cwV MX4_bankOf 36 RX4 yX4_fails wsX4_fails rmX4_fails 1 := ⟨_, _, _, _, gX4_bankOf_X4_fails, rfl, by decide +kernel, by decide⟩
theorem kX4_bankOf_X4_within : mj_cwS MX4_bankOf 29 yX4_within wsX4_within rmX4_within 3 := ⟨_, _, _, _, gX4_bankOf_X4_within, rfl, by decide +kernel, by decide⟩
theorem kX4_bankOf_X4_tellsBank : mj_cwV MX4_bankOf 195 RX4 yX4_tellsBank wsX4_tellsBank rmX4_tellsBank 2 := ⟨_, _, _, _, gX4_bankOf_X4_tellsBank, rfl, by decide +kernel, by decide⟩
theorem pX4_bankOf_25 : mj_flp MX4_bankOf 25 4 0 .int := ⟨_, _, _, tyX4, rfl, by decide +kernel, by decide, by decide +kernel, tyX4_ok, nmX4, by decide +kernel, by decide +kernel⟩
theorem kX4_bestBank_X4_isCutter : mj_cwS MX4_bestBank 116 yX4_isCutter wsX4_isCutter rmX4_isCutter 1 := ⟨_, _, _, _, gX4_bestBank_X4_isCutter, rfl, by decide +kernel, by decide⟩
theorem kX4_bestBank_X4_isHearth : mj_cwS MX4_bestBank 109 yX4_isHearth wsX4_isHearth rmX4_isHearth 1 := ⟨_, _, _, _, gX4_bestBank_X4_isHearth, rfl, by decide +kernel, by decide⟩
theorem kX4_bestBank_X4_bestFor : mj_cwV MX4_bestBank 230 RX4 yX4_bestFor wsX4_bestFor rmX4_bestFor 2 := ⟨_, _, _, _, gX4_bestBank_X4_bestFor, rfl, by decide +kernel, by decide⟩
theorem kX4_bestBank_X4_fails : mj_cwV MX4_bestBank 36 RX4 yX4_fails wsX4_fails rmX4_fails 1 := ⟨_, _, _, _, gX4_bestBank_X4_fails, rfl, by decide +kernel, by decide⟩
theorem pX4_bestBank_25 : mj_flp MX4_bestBank 25 4 0 .int := ⟨_, _, _, tyX4, rfl, by decide +kernel, by decide, by decide +kernel, tyX4_ok, nmX4, by decide +kernel, by decide +kernel⟩
theorem kX4_bestFor_X4_reason : mj_cwV MX4_bestFor 119 RX4 yX4_reason wsX4_reason rmX4_reason 2 := ⟨_, _, _, _, gX4_bestFor_X4_reason, rfl, by decide +kernel, by decide⟩
theorem kX4_bestFor_X4_homeWith : mj_cwV MX4_bestFor 227 RX4 yX4_homeWith wsX4_homeWith rmX4_homeWith 3 := ⟨_, _, _, _, gX4_bestFor_X4_homeWith, rfl, by decide +kernel, by decide⟩
theorem kX4_bringHome_X4_poorest : mj_cwV MX4_bringHome 55 RX4 yX4_poorest wsX4_poorest rmX4_poorest 0 := ⟨_, _, _, _, gX4_bringHome_X4_poorest, rfl, by decide +kernel, by decide⟩
theorem fX4_bringHome_7 : mj_fl MX4_bringHome 7 4 1 := ⟨_, _, _, rfl, by decide +kernel, by decide, by decide +kernel⟩
theorem kX4_burnAll_X4_less : mj_cwS MX4_burnAll 51 yX4_less wsX4_less rmX4_less 2 := ⟨_, _, _, _, gX4_burnAll_X4_less, rfl, by decide +kernel, by decide⟩
theorem fX4_burnAll_7 : mj_fl MX4_burnAll 7 4 1 := ⟨_, _, _, rfl, by decide +kernel, by decide, by decide +kernel⟩
theorem kX4_cart_X4_less : mj_cwS MX4_cart 51 yX4_less wsX4_less rmX4_less 2 := ⟨_, _, _, _, gX4_cart_X4_less, rfl, by decide +kernel, by decide⟩
theorem kX4_cart_X4_bringHome : mj_cwV MX4_cart 59 RX4 yX4_bringHome wsX4_bringHome rmX4_bringHome 3 := ⟨_, _, _, _, gX4_cart_X4_bringHome, rfl, by decide +kernel, by decide⟩
theorem fX4_cart_7 : mj_fl MX4_cart 7 4 1 := ⟨_, _, _, rfl, by decide +kernel, by decide, by decide +kernel⟩
theorem pX4_clearBuffer_25 : mj_flp MX4_clearBuffer 25 4 0 .int := ⟨_, _, _, tyX4, rfl, by decide +kernel, by decide, by decide +kernel, tyX4_ok, nmX4, by decide +kernel, by decide +kernel⟩
theorem fX4_clearBuffer_137 : mj_fl MX4_clearBuffer 137 4 8 := ⟨_, _, _, rfl, by decide +kernel, by decide, by decide +kernel⟩
theorem pX4_clearBuffer_137 : mj_flp MX4_clearBuffer 137 4 8 .int := ⟨_, _, _, tyX4, rfl, by decide +kernel, by decide, by decide +kernel, tyX4_ok, nmX4, by decide +kernel, by decide +kernel⟩
theorem fX4_commons_7 : mj_fl MX4_commons 7 4 1 := ⟨_, _, _, rfl, by decide +kernel, by decide, by decide +kernel⟩
theorem kX4_count_X4_within : mj_cwS MX4_count 29 yX4_within wsX4_within rmX4_within 3 := ⟨_, _, _, _, gX4_count_X4_within, rfl, by decide +kernel, by decide⟩
theorem kX4_count_X4_tellsCount : mj_cwV MX4_count 212 RX4 yX4_tellsCount wsX4_tellsCount rmX4_tellsCount 1 := ⟨_, _, _, _, gX4_count_X4_tellsCount, rfl, by decide +kernel, by decide⟩
theorem kX4_count_X4_fails : mj_cwV MX4_count 36 RX4 yX4_fails wsX4_fails rmX4_fails 1 := ⟨_, _, _, _, gX4_count_X4_fails, rfl, by decide +kernel, by decide⟩
theorem pX4_count_25 : mj_flp MX4_count 25 4 0 .int := ⟨_, _, _, tyX4, rfl, by decide +kernel, by decide, by decide +kernel, tyX4_ok, nmX4, by decide +kernel, by decide +kernel⟩
theorem kX4_cutAll_X4_less : mj_cwS MX4_cutAll 51 yX4_less wsX4_less rmX4_less 2 := ⟨_, _, _, _, gX4_cutAll_X4_less, rfl, by decide +kernel, by decide⟩
theorem fX4_cutAll_7 : mj_fl MX4_cutAll 7 4 1 := ⟨_, _, _, rfl, by decide +kernel, by decide, by decide +kernel⟩
theorem kX4_cutter_X4_isCutter : mj_cwS MX4_cutter 116 yX4_isCutter wsX4_isCutter rmX4_isCutter 1 := ⟨_, _, _, _, gX4_cutter_X4_isCutter, rfl, by decide +kernel, by decide⟩
theorem kX4_cutter_X4_fails : mj_cwV MX4_cutter 36 RX4 yX4_fails wsX4_fails rmX4_fails 1 := ⟨_, _, _, _, gX4_cutter_X4_fails, rfl, by decide +kernel, by decide⟩
theorem kX4_cutter_X4_within : mj_cwS MX4_cutter 29 yX4_within wsX4_within rmX4_within 3 := ⟨_, _, _, _, gX4_cutter_X4_within, rfl, by decide +kernel, by decide⟩
theorem kX4_cutter_X4_tellsCutter : mj_cwV MX4_cutter 202 RX4 yX4_tellsCutter wsX4_tellsCutter rmX4_tellsCutter 2 := ⟨_, _, _, _, gX4_cutter_X4_tellsCutter, rfl, by decide +kernel, by decide⟩
theorem pX4_cutter_25 : mj_flp MX4_cutter 25 4 0 .int := ⟨_, _, _, tyX4, rfl, by decide +kernel, by decide, by decide +kernel, tyX4_ok, nmX4, by decide +kernel, by decide +kernel⟩
theorem kX4_daysUntil_X4_putAside : mj_cwV MX4_daysUntil 215 RX4 yX4_putAside wsX4_putAside rmX4_putAside 0 := ⟨_, _, _, _, gX4_daysUntil_X4_putAside, rfl, by decide +kernel, by decide⟩
theorem kX4_daysUntil_X4_shortNow : mj_cwV MX4_daysUntil 180 RX4 yX4_shortNow wsX4_shortNow rmX4_shortNow 1 := ⟨_, _, _, _, gX4_daysUntil_X4_shortNow, rfl, by decide +kernel, by decide⟩
theorem kX4_daysUntil_X4_passOne : mj_cwV MX4_daysUntil 82 RX4 yX4_passOne wsX4_passOne rmX4_passOne 0 := ⟨_, _, _, _, gX4_daysUntil_X4_passOne, rfl, by decide +kernel, by decide⟩
theorem kX4_daysUntil_X4_takeBack : mj_cwV MX4_daysUntil 218 RX4 yX4_takeBack wsX4_takeBack rmX4_takeBack 0 := ⟨_, _, _, _, gX4_daysUntil_X4_takeBack, rfl, by decide +kernel, by decide⟩
theorem kX4_digest_X4_tellsCount : mj_cwV MX4_digest 212 RX4 yX4_tellsCount wsX4_tellsCount rmX4_tellsCount 1 := ⟨_, _, _, _, gX4_digest_X4_tellsCount, rfl, by decide +kernel, by decide⟩
theorem kX4_digest_X4_mix : mj_cwV MX4_digest 243 RX4 yX4_mix wsX4_mix rmX4_mix 1 := ⟨_, _, _, _, gX4_digest_X4_mix, rfl, by decide +kernel, by decide⟩
theorem kX4_digest_X4_mixHearth : mj_cwV MX4_digest 249 RX4 yX4_mixHearth wsX4_mixHearth rmX4_mixHearth 1 := ⟨_, _, _, _, gX4_digest_X4_mixHearth, rfl, by decide +kernel, by decide⟩
theorem kX4_digest_X4_tellsBank : mj_cwV MX4_digest 195 RX4 yX4_tellsBank wsX4_tellsBank rmX4_tellsBank 2 := ⟨_, _, _, _, gX4_digest_X4_tellsBank, rfl, by decide +kernel, by decide⟩
theorem kX4_digest_X4_tellsCutter : mj_cwV MX4_digest 202 RX4 yX4_tellsCutter wsX4_tellsCutter rmX4_tellsCutter 2 := ⟨_, _, _, _, gX4_digest_X4_tellsCutter, rfl, by decide +kernel, by decide⟩
theorem kX4_digest_X4_rainOf : mj_cwV MX4_digest 63 RX4 yX4_rainOf wsX4_rainOf rmX4_rainOf 1 := ⟨_, _, _, _, gX4_digest_X4_rainOf, rfl, by decide +kernel, by decide⟩
theorem kX4_digest_X4_wouldPass : mj_cwV MX4_digest 221 RX4 yX4_wouldPass wsX4_wouldPass rmX4_wouldPass 2 := ⟨_, _, _, _, gX4_digest_X4_wouldPass, rfl, by decide +kernel, by decide⟩
theorem kX4_digest_X4_share : mj_cwV MX4_digest 233 RX4 yX4_share wsX4_share rmX4_share 0 := ⟨_, _, _, _, gX4_digest_X4_share, rfl, by decide +kernel, by decide⟩
theorem pX4_digest_25 : mj_flp MX4_digest 25 4 0 .int := ⟨_, _, _, tyX4, rfl, by decide +kernel, by decide, by decide +kernel, tyX4_ok, nmX4, by decide +kernel, by decide +kernel⟩
theorem pX4_digest_239 : mj_flp MX4_digest 239 4 14 .long := ⟨_, _, _, tyX4, rfl, by decide +kernel, by decide, by decide +kernel, tyX4_ok, nmX4, by decide +kernel, by decide +kernel⟩
theorem fX4_digest_137 : mj_fl MX4_digest 137 4 8 := ⟨_, _, _, rfl, by decide +kernel, by decide, by decide +kernel⟩
theorem fX4_digest_22 : mj_fl MX4_digest 22 4 7 := ⟨_, _, _, rfl, by decide +kernel, by decide, by decide +kernel⟩
theorem fX4_digest_239 : mj_fl MX4_digest 239 4 14 := ⟨_, _, _, rfl, by decide +kernel, by decide, by decide +kernel⟩
theorem kX4_doesPart_X4_reason : mj_cwV MX4_doesPart 119 RX4 yX4_reason wsX4_reason rmX4_reason 2 := ⟨_, _, _, _, gX4_doesPart_X4_reason, rfl, by decide +kernel, by decide⟩
theorem kX4_doesPart_X4_setToWork : mj_cwV MX4_doesPart 106 RX4 yX4_setToWork wsX4_setToWork rmX4_setToWork 3 := ⟨_, _, _, _, gX4_doesPart_X4_setToWork, rfl, by decide +kernel, by decide⟩
theorem kX4_doesPart_X4_passes : mj_cwV MX4_doesPart 128 RX4 yX4_passes wsX4_passes rmX4_passes 1 := ⟨_, _, _, _, gX4_doesPart_X4_passes, rfl, by decide +kernel, by decide⟩
theorem kX4_doesPart_X4_turnSnow : mj_cwV MX4_doesPart 125 RX4 yX4_turnSnow wsX4_turnSnow rmX4_turnSnow 0 := ⟨_, _, _, _, gX4_doesPart_X4_turnSnow, rfl, by decide +kernel, by decide⟩
theorem fX4_doesPart_161 : mj_fl MX4_doesPart 161 4 10 := ⟨_, _, _, rfl, by decide +kernel, by decide, by decide +kernel⟩
theorem fX4_doesPart_155 : mj_fl MX4_doesPart 155 4 12 := ⟨_, _, _, rfl, by decide +kernel, by decide, by decide +kernel⟩
theorem fX4_doesPart_158 : mj_fl MX4_doesPart 158 4 13 := ⟨_, _, _, rfl, by decide +kernel, by decide, by decide +kernel⟩
theorem fX4_doesPart_149 : mj_fl MX4_doesPart 149 4 11 := ⟨_, _, _, rfl, by decide +kernel, by decide, by decide +kernel⟩
theorem kX4_dry_X4_less : mj_cwS MX4_dry 51 yX4_less wsX4_less rmX4_less 2 := ⟨_, _, _, _, gX4_dry_X4_less, rfl, by decide +kernel, by decide⟩
theorem fX4_dry_7 : mj_fl MX4_dry 7 4 1 := ⟨_, _, _, rfl, by decide +kernel, by decide, by decide +kernel⟩
theorem kX4_dryness_X4_share : mj_cwV MX4_dryness 233 RX4 yX4_share wsX4_share rmX4_share 0 := ⟨_, _, _, _, gX4_dryness_X4_share, rfl, by decide +kernel, by decide⟩
theorem pX4_dryness_25 : mj_flp MX4_dryness 25 4 0 .int := ⟨_, _, _, tyX4, rfl, by decide +kernel, by decide, by decide +kernel, tyX4_ok, nmX4, by decide +kernel, by decide +kernel⟩
theorem kX4_enoughIn_X4_isHearth : mj_cwS MX4_enoughIn 109 yX4_isHearth wsX4_isHearth rmX4_isHearth 1 := ⟨_, _, _, _, gX4_enoughIn_X4_isHearth, rfl, by decide +kernel, by decide⟩
theorem kX4_enoughIn_X4_daysUntil : mj_cwV MX4_enoughIn 224 RX4 yX4_daysUntil wsX4_daysUntil rmX4_daysUntil 1 := ⟨_, _, _, _, gX4_enoughIn_X4_daysUntil, rfl, by decide +kernel, by decide⟩
theorem kX4_enoughIn_X4_fails : mj_cwV MX4_enoughIn 36 RX4 yX4_fails wsX4_fails rmX4_fails 1 := ⟨_, _, _, _, gX4_enoughIn_X4_fails, rfl, by decide +kernel, by decide⟩
theorem pX4_enoughIn_25 : mj_flp MX4_enoughIn 25 4 0 .int := ⟨_, _, _, tyX4, rfl, by decide +kernel, by decide, by decide +kernel, tyX4_ok, nmX4, by decide +kernel, by decide +kernel⟩
theorem pX4_fails_25 : mj_flp MX4_fails 25 4 0 .int := ⟨_, _, _, tyX4, rfl, by decide +kernel, by decide, by decide +kernel, tyX4_ok, nmX4, by decide +kernel, by decide +kernel⟩
theorem kX4_findError_X4_readsPart : mj_cwV MX4_findError 171 RX4 yX4_readsPart wsX4_readsPart rmX4_readsPart 0 := ⟨_, _, _, _, gX4_findError_X4_readsPart, rfl, by decide +kernel, by decide⟩
theorem kX4_findError_X4_takes : mj_cwV MX4_findError 152 RX4 yX4_takes wsX4_takes rmX4_takes 1 := ⟨_, _, _, _, gX4_findError_X4_takes, rfl, by decide +kernel, by decide⟩
theorem pX4_findError_140 : mj_flp MX4_findError 140 4 9 .int := ⟨_, _, _, tyX4, rfl, by decide +kernel, by decide, by decide +kernel, tyX4_ok, nmX4, by decide +kernel, by decide +kernel⟩
theorem fX4_findError_140 : mj_fl MX4_findError 140 4 9 := ⟨_, _, _, rfl, by decide +kernel, by decide, by decide +kernel⟩
theorem fX4_findError_137 : mj_fl MX4_findError 137 4 8 := ⟨_, _, _, rfl, by decide +kernel, by decide, by decide +kernel⟩
theorem kX4_firstError_X4_findError : mj_cwV MX4_firstError 174 RX4 yX4_findError wsX4_findError rmX4_findError 0 := ⟨_, _, _, _, gX4_firstError_X4_findError, rfl, by decide +kernel, by decide⟩
theorem pX4_firstError_25 : mj_flp MX4_firstError 25 4 0 .int := ⟨_, _, _, tyX4, rfl, by decide +kernel, by decide, by decide +kernel, tyX4_ok, nmX4, by decide +kernel, by decide +kernel⟩
theorem fX4_firstError_137 : mj_fl MX4_firstError 137 4 8 := ⟨_, _, _, rfl, by decide +kernel, by decide, by decide +kernel⟩
theorem kX4_give_X4_within : mj_cwS MX4_give 29 yX4_within wsX4_within rmX4_within 3 := ⟨_, _, _, _, gX4_give_X4_within, rfl, by decide +kernel, by decide⟩
theorem kX4_give_X4_isBank : mj_cwS MX4_give 113 yX4_isBank wsX4_isBank rmX4_isBank 1 := ⟨_, _, _, _, gX4_give_X4_isBank, rfl, by decide +kernel, by decide⟩
theorem kX4_give_X4_fails : mj_cwV MX4_give 36 RX4 yX4_fails wsX4_fails rmX4_fails 1 := ⟨_, _, _, _, gX4_give_X4_fails, rfl, by decide +kernel, by decide⟩
theorem kX4_give_X4_sharesOf : mj_cwV MX4_give 103 RX4 yX4_sharesOf wsX4_sharesOf rmX4_sharesOf 2 := ⟨_, _, _, _, gX4_give_X4_sharesOf, rfl, by decide +kernel, by decide⟩
theorem kX4_give_X4_save : mj_cwV MX4_give 44 RX4 yX4_save wsX4_save rmX4_save 0 := ⟨_, _, _, _, gX4_give_X4_save, rfl, by decide +kernel, by decide⟩
theorem pX4_give_25 : mj_flp MX4_give 25 4 0 .int := ⟨_, _, _, tyX4, rfl, by decide +kernel, by decide, by decide +kernel, tyX4_ok, nmX4, by decide +kernel, by decide +kernel⟩
theorem fX4_give_7 : mj_fl MX4_give 7 4 1 := ⟨_, _, _, rfl, by decide +kernel, by decide, by decide +kernel⟩
theorem kX4_hearth_X4_isHearth : mj_cwS MX4_hearth 109 yX4_isHearth wsX4_isHearth rmX4_isHearth 1 := ⟨_, _, _, _, gX4_hearth_X4_isHearth, rfl, by decide +kernel, by decide⟩
theorem kX4_hearth_X4_fails : mj_cwV MX4_hearth 36 RX4 yX4_fails wsX4_fails rmX4_fails 1 := ⟨_, _, _, _, gX4_hearth_X4_fails, rfl, by decide +kernel, by decide⟩
theorem kX4_hearth_X4_within : mj_cwS MX4_hearth 29 yX4_within wsX4_within rmX4_within 3 := ⟨_, _, _, _, gX4_hearth_X4_within, rfl, by decide +kernel, by decide⟩
theorem kX4_hearth_X4_save : mj_cwV MX4_hearth 44 RX4 yX4_save wsX4_save rmX4_save 0 := ⟨_, _, _, _, gX4_hearth_X4_save, rfl, by decide +kernel, by decide⟩
theorem pX4_hearth_25 : mj_flp MX4_hearth 25 4 0 .int := ⟨_, _, _, tyX4, rfl, by decide +kernel, by decide, by decide +kernel, tyX4_ok, nmX4, by decide +kernel, by decide +kernel⟩
theorem fX4_hearth_7 : mj_fl MX4_hearth 7 4 1 := ⟨_, _, _, rfl, by decide +kernel, by decide, by decide +kernel⟩
theorem kX4_hearthOf_X4_isHearth : mj_cwS MX4_hearthOf 109 yX4_isHearth wsX4_isHearth rmX4_isHearth 1 := ⟨_, _, _, _, gX4_hearthOf_X4_isHearth, rfl, by decide +kernel, by decide⟩
theorem kX4_hearthOf_X4_fails : mj_cwV MX4_hearthOf 36 RX4 yX4_fails wsX4_fails rmX4_fails 1 := ⟨_, _, _, _, gX4_hearthOf_X4_fails, rfl, by decide +kernel, by decide⟩
theorem kX4_hearthOf_X4_within : mj_cwS MX4_hearthOf 29 yX4_within wsX4_within rmX4_within 3 := ⟨_, _, _, _, gX4_hearthOf_X4_within, rfl, by decide +kernel, by decide⟩
theorem kX4_hearthOf_X4_tellsHearth : mj_cwV MX4_hearthOf 189 RX4 yX4_tellsHearth wsX4_tellsHearth rmX4_tellsHearth 2 := ⟨_, _, _, _, gX4_hearthOf_X4_tellsHearth, rfl, by decide +kernel, by decide⟩
theorem pX4_hearthOf_25 : mj_flp MX4_hearthOf 25 4 0 .int := ⟨_, _, _, tyX4, rfl, by decide +kernel, by decide, by decide +kernel, tyX4_ok, nmX4, by decide +kernel, by decide +kernel⟩
theorem kX4_homeWith_X4_putAside : mj_cwV MX4_homeWith 215 RX4 yX4_putAside wsX4_putAside rmX4_putAside 0 := ⟨_, _, _, _, gX4_homeWith_X4_putAside, rfl, by decide +kernel, by decide⟩
theorem kX4_homeWith_X4_setToWork : mj_cwV MX4_homeWith 106 RX4 yX4_setToWork wsX4_setToWork rmX4_setToWork 3 := ⟨_, _, _, _, gX4_homeWith_X4_setToWork, rfl, by decide +kernel, by decide⟩
theorem kX4_homeWith_X4_passes : mj_cwV MX4_homeWith 128 RX4 yX4_passes wsX4_passes rmX4_passes 1 := ⟨_, _, _, _, gX4_homeWith_X4_passes, rfl, by decide +kernel, by decide⟩
theorem kX4_homeWith_X4_takeBack : mj_cwV MX4_homeWith 218 RX4 yX4_takeBack wsX4_takeBack rmX4_takeBack 0 := ⟨_, _, _, _, gX4_homeWith_X4_takeBack, rfl, by decide +kernel, by decide⟩
theorem fX4_homeWith_7 : mj_fl MX4_homeWith 7 4 1 := ⟨_, _, _, rfl, by decide +kernel, by decide, by decide +kernel⟩
theorem kX4_ifPassed_X4_within : mj_cwS MX4_ifPassed 29 yX4_within wsX4_within rmX4_within 3 := ⟨_, _, _, _, gX4_ifPassed_X4_within, rfl, by decide +kernel, by decide⟩
theorem kX4_ifPassed_X4_wouldPass : mj_cwV MX4_ifPassed 221 RX4 yX4_wouldPass wsX4_wouldPass rmX4_wouldPass 2 := ⟨_, _, _, _, gX4_ifPassed_X4_wouldPass, rfl, by decide +kernel, by decide⟩
theorem kX4_ifPassed_X4_fails : mj_cwV MX4_ifPassed 36 RX4 yX4_fails wsX4_fails rmX4_fails 1 := ⟨_, _, _, _, gX4_ifPassed_X4_fails, rfl, by decide +kernel, by decide⟩
theorem pX4_ifPassed_25 : mj_flp MX4_ifPassed 25 4 0 .int := ⟨_, _, _, tyX4, rfl, by decide +kernel, by decide, by decide +kernel, tyX4_ok, nmX4, by decide +kernel, by decide +kernel⟩
theorem pX4_init_7 : mj_flp MX4_init 7 4 1 (.array .int) := ⟨_, _, _, tyX4, rfl, by decide +kernel, by decide, by decide +kernel, tyX4_ok, nmX4, by decide +kernel, by decide +kernel⟩
theorem pX4_init_13 : mj_flp MX4_init 13 4 2 (.array .int) := ⟨_, _, _, tyX4, rfl, by decide +kernel, by decide, by decide +kernel, tyX4_ok, nmX4, by decide +kernel, by decide +kernel⟩
theorem pX4_init_16 : mj_flp MX4_init 16 4 3 (.array .int) := ⟨_, _, _, tyX4, rfl, by decide +kernel, by decide, by decide +kernel, tyX4_ok, nmX4, by decide +kernel, by decide +kernel⟩
theorem pX4_init_19 : mj_flp MX4_init 19 4 5 (.array .int) := ⟨_, _, _, tyX4, rfl, by decide +kernel, by decide, by decide +kernel, tyX4_ok, nmX4, by decide +kernel, by decide +kernel⟩
theorem pX4_init_22 : mj_flp MX4_init 22 4 7 (.array .int) := ⟨_, _, _, tyX4, rfl, by decide +kernel, by decide, by decide +kernel, tyX4_ok, nmX4, by decide +kernel, by decide +kernel⟩
theorem fX4_init_7 : mj_fl MX4_init 7 4 1 := ⟨_, _, _, rfl, by decide +kernel, by decide, by decide +kernel⟩
theorem kX4_isBank_X4_within : mj_cwS MX4_isBank 29 yX4_within wsX4_within rmX4_within 3 := ⟨_, _, _, _, gX4_isBank_X4_within, rfl, by decide +kernel, by decide⟩
theorem kX4_isCutter_X4_within : mj_cwS MX4_isCutter 29 yX4_within wsX4_within rmX4_within 3 := ⟨_, _, _, _, gX4_isCutter_X4_within, rfl, by decide +kernel, by decide⟩
theorem kX4_isHearth_X4_within : mj_cwS MX4_isHearth 29 yX4_within wsX4_within rmX4_within 3 := ⟨_, _, _, _, gX4_isHearth_X4_within, rfl, by decide +kernel, by decide⟩
theorem pX4_keep_25 : mj_flp MX4_keep 25 4 0 .int := ⟨_, _, _, tyX4, rfl, by decide +kernel, by decide, by decide +kernel, tyX4_ok, nmX4, by decide +kernel, by decide +kernel⟩
theorem fX4_keep_19 : mj_fl MX4_keep 19 4 5 := ⟨_, _, _, rfl, by decide +kernel, by decide, by decide +kernel⟩
theorem fX4_keep_7 : mj_fl MX4_keep 7 4 1 := ⟨_, _, _, rfl, by decide +kernel, by decide, by decide +kernel⟩
theorem pX4_keep_40 : mj_flp MX4_keep 40 4 6 .boolean := ⟨_, _, _, tyX4, rfl, by decide +kernel, by decide, by decide +kernel, tyX4_ok, nmX4, by decide +kernel, by decide +kernel⟩
theorem kX4_lieOn_X4_turvesOn : mj_cwV MX4_lieOn 94 RX4 yX4_turvesOn wsX4_turvesOn rmX4_turvesOn 2 := ⟨_, _, _, _, gX4_lieOn_X4_turvesOn, rfl, by decide +kernel, by decide⟩
theorem fX4_mix_239 : mj_fl MX4_mix 239 4 14 := ⟨_, _, _, rfl, by decide +kernel, by decide, by decide +kernel⟩
theorem pX4_mix_239 : mj_flp MX4_mix 239 4 14 .long := ⟨_, _, _, tyX4, rfl, by decide +kernel, by decide, by decide +kernel, tyX4_ok, nmX4, by decide +kernel, by decide +kernel⟩
theorem kX4_mixHearth_X4_tellsHearth : mj_cwV MX4_mixHearth 189 RX4 yX4_tellsHearth wsX4_tellsHearth rmX4_tellsHearth 2 := ⟨_, _, _, _, gX4_mixHearth_X4_tellsHearth, rfl, by decide +kernel, by decide⟩
theorem kX4_mixHearth_X4_mix : mj_cwV MX4_mixHearth 243 RX4 yX4_mix wsX4_mix rmX4_mix 1 := ⟨_, _, _, _, gX4_mixHearth_X4_mix, rfl, by decide +kernel, by decide⟩
theorem kX4_mixHearth_X4_tellsPlot : mj_cwV MX4_mixHearth 198 RX4 yX4_tellsPlot wsX4_tellsPlot rmX4_tellsPlot 3 := ⟨_, _, _, _, gX4_mixHearth_X4_tellsPlot, rfl, by decide +kernel, by decide⟩
theorem kX4_mixHearth_X4_daysUntil : mj_cwV MX4_mixHearth 224 RX4 yX4_daysUntil wsX4_daysUntil rmX4_daysUntil 1 := ⟨_, _, _, _, gX4_mixHearth_X4_daysUntil, rfl, by decide +kernel, by decide⟩
theorem kX4_mixHearth_X4_bestFor : mj_cwV MX4_mixHearth 230 RX4 yX4_bestFor wsX4_bestFor rmX4_bestFor 2 := ⟨_, _, _, _, gX4_mixHearth_X4_bestFor, rfl, by decide +kernel, by decide⟩
theorem fX4_next_140 : mj_fl MX4_next 140 4 9 := ⟨_, _, _, rfl, by decide +kernel, by decide, by decide +kernel⟩
theorem fX4_next_137 : mj_fl MX4_next 137 4 8 := ⟨_, _, _, rfl, by decide +kernel, by decide, by decide +kernel⟩
theorem fX4_next_22 : mj_fl MX4_next 22 4 7 := ⟨_, _, _, rfl, by decide +kernel, by decide, by decide +kernel⟩
theorem kX4_ofHearth_X4_turvesOn : mj_cwV MX4_ofHearth 94 RX4 yX4_turvesOn wsX4_turvesOn rmX4_turvesOn 2 := ⟨_, _, _, _, gX4_ofHearth_X4_turvesOn, rfl, by decide +kernel, by decide⟩
theorem kX4_pass_X4_within : mj_cwS MX4_pass 29 yX4_within wsX4_within rmX4_within 3 := ⟨_, _, _, _, gX4_pass_X4_within, rfl, by decide +kernel, by decide⟩
theorem kX4_pass_X4_fails : mj_cwV MX4_pass 36 RX4 yX4_fails wsX4_fails rmX4_fails 1 := ⟨_, _, _, _, gX4_pass_X4_fails, rfl, by decide +kernel, by decide⟩
theorem kX4_pass_X4_save : mj_cwV MX4_pass 44 RX4 yX4_save wsX4_save rmX4_save 0 := ⟨_, _, _, _, gX4_pass_X4_save, rfl, by decide +kernel, by decide⟩
theorem kX4_pass_X4_passes : mj_cwV MX4_pass 128 RX4 yX4_passes wsX4_passes rmX4_passes 1 := ⟨_, _, _, _, gX4_pass_X4_passes, rfl, by decide +kernel, by decide⟩
theorem pX4_pass_25 : mj_flp MX4_pass 25 4 0 .int := ⟨_, _, _, tyX4, rfl, by decide +kernel, by decide, by decide +kernel, tyX4_ok, nmX4, by decide +kernel, by decide +kernel⟩
theorem kX4_passOne_X4_rainOf : mj_cwV MX4_passOne 63 RX4 yX4_rainOf wsX4_rainOf rmX4_rainOf 1 := ⟨_, _, _, _, gX4_passOne_X4_rainOf, rfl, by decide +kernel, by decide⟩
theorem kX4_passOne_X4_cutAll : mj_cwV MX4_passOne 66 RX4 yX4_cutAll wsX4_cutAll rmX4_cutAll 0 := ⟨_, _, _, _, gX4_passOne_X4_cutAll, rfl, by decide +kernel, by decide⟩
theorem kX4_passOne_X4_soak : mj_cwV MX4_passOne 69 RX4 yX4_soak wsX4_soak rmX4_soak 1 := ⟨_, _, _, _, gX4_passOne_X4_soak, rfl, by decide +kernel, by decide⟩
theorem kX4_passOne_X4_dry : mj_cwV MX4_passOne 73 RX4 yX4_dry wsX4_dry rmX4_dry 1 := ⟨_, _, _, _, gX4_passOne_X4_dry, rfl, by decide +kernel, by decide⟩
theorem kX4_passOne_X4_burnAll : mj_cwV MX4_passOne 76 RX4 yX4_burnAll wsX4_burnAll rmX4_burnAll 0 := ⟨_, _, _, _, gX4_passOne_X4_burnAll, rfl, by decide +kernel, by decide⟩
theorem kX4_passOne_X4_cart : mj_cwV MX4_passOne 79 RX4 yX4_cart wsX4_cart rmX4_cart 1 := ⟨_, _, _, _, gX4_passOne_X4_cart, rfl, by decide +kernel, by decide⟩
theorem fX4_passOne_7 : mj_fl MX4_passOne 7 4 1 := ⟨_, _, _, rfl, by decide +kernel, by decide, by decide +kernel⟩
theorem kX4_passes_X4_passOne : mj_cwV MX4_passes 82 RX4 yX4_passOne wsX4_passOne rmX4_passOne 0 := ⟨_, _, _, _, gX4_passes_X4_passOne, rfl, by decide +kernel, by decide⟩
theorem kX4_play_X4_findError : mj_cwV MX4_play 174 RX4 yX4_findError wsX4_findError rmX4_findError 0 := ⟨_, _, _, _, gX4_play_X4_findError, rfl, by decide +kernel, by decide⟩
theorem kX4_play_X4_fails : mj_cwV MX4_play 36 RX4 yX4_fails wsX4_fails rmX4_fails 1 := ⟨_, _, _, _, gX4_play_X4_fails, rfl, by decide +kernel, by decide⟩
theorem kX4_play_X4_save : mj_cwV MX4_play 44 RX4 yX4_save wsX4_save rmX4_save 0 := ⟨_, _, _, _, gX4_play_X4_save, rfl, by decide +kernel, by decide⟩
theorem kX4_play_X4_readsPart : mj_cwV MX4_play 171 RX4 yX4_readsPart wsX4_readsPart rmX4_readsPart 0 := ⟨_, _, _, _, gX4_play_X4_readsPart, rfl, by decide +kernel, by decide⟩
theorem kX4_play_X4_doesPart : mj_cwV MX4_play 177 RX4 yX4_doesPart wsX4_doesPart rmX4_doesPart 0 := ⟨_, _, _, _, gX4_play_X4_doesPart, rfl, by decide +kernel, by decide⟩
theorem pX4_play_25 : mj_flp MX4_play 25 4 0 .int := ⟨_, _, _, tyX4, rfl, by decide +kernel, by decide, by decide +kernel, tyX4_ok, nmX4, by decide +kernel, by decide +kernel⟩
theorem pX4_play_140 : mj_flp MX4_play 140 4 9 .int := ⟨_, _, _, tyX4, rfl, by decide +kernel, by decide, by decide +kernel, tyX4_ok, nmX4, by decide +kernel, by decide +kernel⟩
theorem fX4_play_140 : mj_fl MX4_play 140 4 9 := ⟨_, _, _, rfl, by decide +kernel, by decide, by decide +kernel⟩
theorem fX4_play_137 : mj_fl MX4_play 137 4 8 := ⟨_, _, _, rfl, by decide +kernel, by decide, by decide +kernel⟩
theorem pX4_play_137 : mj_flp MX4_play 137 4 8 .int := ⟨_, _, _, tyX4, rfl, by decide +kernel, by decide, by decide +kernel, tyX4_ok, nmX4, by decide +kernel, by decide +kernel⟩
theorem kX4_plot_X4_isHearth : mj_cwS MX4_plot 109 yX4_isHearth wsX4_isHearth rmX4_isHearth 1 := ⟨_, _, _, _, gX4_plot_X4_isHearth, rfl, by decide +kernel, by decide⟩
theorem kX4_plot_X4_isBank : mj_cwS MX4_plot 113 yX4_isBank wsX4_isBank rmX4_isBank 1 := ⟨_, _, _, _, gX4_plot_X4_isBank, rfl, by decide +kernel, by decide⟩
theorem kX4_plot_X4_fails : mj_cwV MX4_plot 36 RX4 yX4_fails wsX4_fails rmX4_fails 1 := ⟨_, _, _, _, gX4_plot_X4_fails, rfl, by decide +kernel, by decide⟩
theorem kX4_plot_X4_within : mj_cwS MX4_plot 29 yX4_within wsX4_within rmX4_within 3 := ⟨_, _, _, _, gX4_plot_X4_within, rfl, by decide +kernel, by decide⟩
theorem kX4_plot_X4_tellsPlot : mj_cwV MX4_plot 198 RX4 yX4_tellsPlot wsX4_tellsPlot rmX4_tellsPlot 3 := ⟨_, _, _, _, gX4_plot_X4_tellsPlot, rfl, by decide +kernel, by decide⟩
theorem pX4_plot_25 : mj_flp MX4_plot 25 4 0 .int := ⟨_, _, _, tyX4, rfl, by decide +kernel, by decide, by decide +kernel, tyX4_ok, nmX4, by decide +kernel, by decide +kernel⟩
theorem fX4_poorest_7 : mj_fl MX4_poorest 7 4 1 := ⟨_, _, _, rfl, by decide +kernel, by decide, by decide +kernel⟩
theorem fX4_putAside_13 : mj_fl MX4_putAside 13 4 2 := ⟨_, _, _, rfl, by decide +kernel, by decide, by decide +kernel⟩
theorem fX4_putAside_7 : mj_fl MX4_putAside 7 4 1 := ⟨_, _, _, rfl, by decide +kernel, by decide, by decide +kernel⟩
theorem kX4_rain_X4_fails : mj_cwV MX4_rain 36 RX4 yX4_fails wsX4_fails rmX4_fails 1 := ⟨_, _, _, _, gX4_rain_X4_fails, rfl, by decide +kernel, by decide⟩
theorem kX4_rain_X4_rainOf : mj_cwV MX4_rain 63 RX4 yX4_rainOf wsX4_rainOf rmX4_rainOf 1 := ⟨_, _, _, _, gX4_rain_X4_rainOf, rfl, by decide +kernel, by decide⟩
theorem pX4_rain_25 : mj_flp MX4_rain 25 4 0 .int := ⟨_, _, _, tyX4, rfl, by decide +kernel, by decide, by decide +kernel, tyX4_ok, nmX4, by decide +kernel, by decide +kernel⟩
theorem fX4_rainOf_7 : mj_fl MX4_rainOf 7 4 1 := ⟨_, _, _, rfl, by decide +kernel, by decide, by decide +kernel⟩
theorem kX4_readsDays_X4_next : mj_cwV MX4_readsDays 143 RX4 yX4_next wsX4_next rmX4_next 0 := ⟨_, _, _, _, gX4_readsDays_X4_next, rfl, by decide +kernel, by decide⟩
theorem kX4_readsDays_X4_within : mj_cwS MX4_readsDays 29 yX4_within wsX4_within rmX4_within 3 := ⟨_, _, _, _, gX4_readsDays_X4_within, rfl, by decide +kernel, by decide⟩
theorem kX4_readsDays_X4_takeDigit : mj_cwV MX4_readsDays 146 RX4 yX4_takeDigit wsX4_takeDigit rmX4_takeDigit 1 := ⟨_, _, _, _, gX4_readsDays_X4_takeDigit, rfl, by decide +kernel, by decide⟩
theorem pX4_readsDays_149 : mj_flp MX4_readsDays 149 4 11 .int := ⟨_, _, _, tyX4, rfl, by decide +kernel, by decide, by decide +kernel, tyX4_ok, nmX4, by decide +kernel, by decide +kernel⟩
theorem fX4_readsDays_149 : mj_fl MX4_readsDays 149 4 11 := ⟨_, _, _, rfl, by decide +kernel, by decide, by decide +kernel⟩
theorem kX4_readsPart_X4_next : mj_cwV MX4_readsPart 143 RX4 yX4_next wsX4_next rmX4_next 0 := ⟨_, _, _, _, gX4_readsPart_X4_next, rfl, by decide +kernel, by decide⟩
theorem kX4_readsPart_X4_takeDigit : mj_cwV MX4_readsPart 146 RX4 yX4_takeDigit wsX4_takeDigit rmX4_takeDigit 1 := ⟨_, _, _, _, gX4_readsPart_X4_takeDigit, rfl, by decide +kernel, by decide⟩
theorem kX4_readsPart_X4_readsWork : mj_cwV MX4_readsPart 164 RX4 yX4_readsWork wsX4_readsWork rmX4_readsWork 0 := ⟨_, _, _, _, gX4_readsPart_X4_readsWork, rfl, by decide +kernel, by decide⟩
theorem kX4_readsPart_X4_readsDays : mj_cwV MX4_readsPart 168 RX4 yX4_readsDays wsX4_readsDays rmX4_readsDays 0 := ⟨_, _, _, _, gX4_readsPart_X4_readsDays, rfl, by decide +kernel, by decide⟩
theorem pX4_readsPart_161 : mj_flp MX4_readsPart 161 4 10 .int := ⟨_, _, _, tyX4, rfl, by decide +kernel, by decide, by decide +kernel, tyX4_ok, nmX4, by decide +kernel, by decide +kernel⟩
theorem fX4_readsPart_161 : mj_fl MX4_readsPart 161 4 10 := ⟨_, _, _, rfl, by decide +kernel, by decide, by decide +kernel⟩
theorem fX4_readsPart_140 : mj_fl MX4_readsPart 140 4 9 := ⟨_, _, _, rfl, by decide +kernel, by decide, by decide +kernel⟩
theorem pX4_readsPart_140 : mj_flp MX4_readsPart 140 4 9 .int := ⟨_, _, _, tyX4, rfl, by decide +kernel, by decide, by decide +kernel, tyX4_ok, nmX4, by decide +kernel, by decide +kernel⟩
theorem pX4_readsPart_149 : mj_flp MX4_readsPart 149 4 11 .int := ⟨_, _, _, tyX4, rfl, by decide +kernel, by decide, by decide +kernel, tyX4_ok, nmX4, by decide +kernel, by decide +kernel⟩
theorem fX4_readsPart_149 : mj_fl MX4_readsPart 149 4 11 := ⟨_, _, _, rfl, by decide +kernel, by decide, by decide +kernel⟩
theorem kX4_readsWork_X4_takeDigit : mj_cwV MX4_readsWork 146 RX4 yX4_takeDigit wsX4_takeDigit rmX4_takeDigit 1 := ⟨_, _, _, _, gX4_readsWork_X4_takeDigit, rfl, by decide +kernel, by decide⟩
theorem kX4_readsWork_X4_takes : mj_cwV MX4_readsWork 152 RX4 yX4_takes wsX4_takes rmX4_takes 1 := ⟨_, _, _, _, gX4_readsWork_X4_takes, rfl, by decide +kernel, by decide⟩
theorem pX4_readsWork_149 : mj_flp MX4_readsWork 149 4 11 .int := ⟨_, _, _, tyX4, rfl, by decide +kernel, by decide, by decide +kernel, tyX4_ok, nmX4, by decide +kernel, by decide +kernel⟩
theorem fX4_readsWork_149 : mj_fl MX4_readsWork 149 4 11 := ⟨_, _, _, rfl, by decide +kernel, by decide, by decide +kernel⟩
theorem pX4_readsWork_155 : mj_flp MX4_readsWork 155 4 12 .int := ⟨_, _, _, tyX4, rfl, by decide +kernel, by decide, by decide +kernel, tyX4_ok, nmX4, by decide +kernel, by decide +kernel⟩
theorem fX4_readsWork_155 : mj_fl MX4_readsWork 155 4 12 := ⟨_, _, _, rfl, by decide +kernel, by decide, by decide +kernel⟩
theorem pX4_readsWork_158 : mj_flp MX4_readsWork 158 4 13 .int := ⟨_, _, _, tyX4, rfl, by decide +kernel, by decide, by decide +kernel, tyX4_ok, nmX4, by decide +kernel, by decide +kernel⟩
theorem fX4_readsWork_158 : mj_fl MX4_readsWork 158 4 13 := ⟨_, _, _, rfl, by decide +kernel, by decide, by decide +kernel⟩
theorem kX4_reason_X4_sharesOf : mj_cwV MX4_reason 103 RX4 yX4_sharesOf wsX4_sharesOf rmX4_sharesOf 2 := ⟨_, _, _, _, gX4_reason_X4_sharesOf, rfl, by decide +kernel, by decide⟩
theorem kX4_reason_X4_workers : mj_cwV MX4_reason 88 RX4 yX4_workers wsX4_workers rmX4_workers 2 := ⟨_, _, _, _, gX4_reason_X4_workers, rfl, by decide +kernel, by decide⟩
theorem fX4_reason_7 : mj_fl MX4_reason 7 4 1 := ⟨_, _, _, rfl, by decide +kernel, by decide, by decide +kernel⟩
theorem kX4_rest_X4_isCutter : mj_cwS MX4_rest 116 yX4_isCutter wsX4_isCutter rmX4_isCutter 1 := ⟨_, _, _, _, gX4_rest_X4_isCutter, rfl, by decide +kernel, by decide⟩
theorem kX4_rest_X4_fails : mj_cwV MX4_rest 36 RX4 yX4_fails wsX4_fails rmX4_fails 1 := ⟨_, _, _, _, gX4_rest_X4_fails, rfl, by decide +kernel, by decide⟩
theorem kX4_rest_X4_save : mj_cwV MX4_rest 44 RX4 yX4_save wsX4_save rmX4_save 0 := ⟨_, _, _, _, gX4_rest_X4_save, rfl, by decide +kernel, by decide⟩
theorem kX4_rest_X4_setToWork : mj_cwV MX4_rest 106 RX4 yX4_setToWork wsX4_setToWork rmX4_setToWork 3 := ⟨_, _, _, _, gX4_rest_X4_setToWork, rfl, by decide +kernel, by decide⟩
theorem kX4_rest_X4_allWorkers : mj_cwV MX4_rest 122 RX4 yX4_allWorkers wsX4_allWorkers rmX4_allWorkers 0 := ⟨_, _, _, _, gX4_rest_X4_allWorkers, rfl, by decide +kernel, by decide⟩
theorem pX4_rest_25 : mj_flp MX4_rest 25 4 0 .int := ⟨_, _, _, tyX4, rfl, by decide +kernel, by decide, by decide +kernel, tyX4_ok, nmX4, by decide +kernel, by decide +kernel⟩
theorem kX4_restore_X4_fails : mj_cwV MX4_restore 36 RX4 yX4_fails wsX4_fails rmX4_fails 1 := ⟨_, _, _, _, gX4_restore_X4_fails, rfl, by decide +kernel, by decide⟩
theorem kX4_restore_X4_save : mj_cwV MX4_restore 44 RX4 yX4_save wsX4_save rmX4_save 0 := ⟨_, _, _, _, gX4_restore_X4_save, rfl, by decide +kernel, by decide⟩
theorem pX4_restore_25 : mj_flp MX4_restore 25 4 0 .int := ⟨_, _, _, tyX4, rfl, by decide +kernel, by decide, by decide +kernel, tyX4_ok, nmX4, by decide +kernel, by decide +kernel⟩
theorem fX4_restore_40 : mj_fl MX4_restore 40 4 6 := ⟨_, _, _, rfl, by decide +kernel, by decide, by decide +kernel⟩
theorem fX4_restore_7 : mj_fl MX4_restore 7 4 1 := ⟨_, _, _, rfl, by decide +kernel, by decide, by decide +kernel⟩
theorem fX4_restore_19 : mj_fl MX4_restore 19 4 5 := ⟨_, _, _, rfl, by decide +kernel, by decide, by decide +kernel⟩
theorem fX4_save_33 : mj_fl MX4_save 33 4 4 := ⟨_, _, _, rfl, by decide +kernel, by decide, by decide +kernel⟩
theorem fX4_save_16 : mj_fl MX4_save 16 4 3 := ⟨_, _, _, rfl, by decide +kernel, by decide, by decide +kernel⟩
theorem pX4_save_33 : mj_flp MX4_save 33 4 4 .int := ⟨_, _, _, tyX4, rfl, by decide +kernel, by decide, by decide +kernel, tyX4_ok, nmX4, by decide +kernel, by decide +kernel⟩
theorem fX4_save_7 : mj_fl MX4_save 7 4 1 := ⟨_, _, _, rfl, by decide +kernel, by decide, by decide +kernel⟩
theorem kX4_set_X4_within : mj_cwS MX4_set 29 yX4_within wsX4_within rmX4_within 3 := ⟨_, _, _, _, gX4_set_X4_within, rfl, by decide +kernel, by decide⟩
theorem kX4_set_X4_fails : mj_cwV MX4_set 36 RX4 yX4_fails wsX4_fails rmX4_fails 1 := ⟨_, _, _, _, gX4_set_X4_fails, rfl, by decide +kernel, by decide⟩
theorem kX4_set_X4_leastOf : mj_cwS MX4_set 131 yX4_leastOf wsX4_leastOf rmX4_leastOf 1 := ⟨_, _, _, _, gX4_set_X4_leastOf, rfl, by decide +kernel, by decide⟩
theorem kX4_set_X4_mostOf : mj_cwS MX4_set 134 yX4_mostOf wsX4_mostOf rmX4_mostOf 1 := ⟨_, _, _, _, gX4_set_X4_mostOf, rfl, by decide +kernel, by decide⟩
theorem kX4_set_X4_save : mj_cwV MX4_set 44 RX4 yX4_save wsX4_save rmX4_save 0 := ⟨_, _, _, _, gX4_set_X4_save, rfl, by decide +kernel, by decide⟩
theorem pX4_set_25 : mj_flp MX4_set 25 4 0 .int := ⟨_, _, _, tyX4, rfl, by decide +kernel, by decide, by decide +kernel, tyX4_ok, nmX4, by decide +kernel, by decide +kernel⟩
theorem fX4_set_7 : mj_fl MX4_set 7 4 1 := ⟨_, _, _, rfl, by decide +kernel, by decide, by decide +kernel⟩
theorem fX4_setToWork_7 : mj_fl MX4_setToWork 7 4 1 := ⟨_, _, _, rfl, by decide +kernel, by decide, by decide +kernel⟩
theorem kX4_share_X4_sumOf : mj_cwV MX4_share 205 RX4 yX4_sumOf wsX4_sumOf rmX4_sumOf 2 := ⟨_, _, _, _, gX4_share_X4_sumOf, rfl, by decide +kernel, by decide⟩
theorem kX4_sharesOf_X4_commons : mj_cwV MX4_sharesOf 85 RX4 yX4_commons wsX4_commons rmX4_commons 1 := ⟨_, _, _, _, gX4_sharesOf_X4_commons, rfl, by decide +kernel, by decide⟩
theorem fX4_sharesOf_7 : mj_fl MX4_sharesOf 7 4 1 := ⟨_, _, _, rfl, by decide +kernel, by decide, by decide +kernel⟩
theorem kX4_shortByBook_X4_atLeastNone : mj_cwS MX4_shortByBook 97 yX4_atLeastNone wsX4_atLeastNone rmX4_atLeastNone 1 := ⟨_, _, _, _, gX4_shortByBook_X4_atLeastNone, rfl, by decide +kernel, by decide⟩
theorem fX4_shortByBook_7 : mj_fl MX4_shortByBook 7 4 1 := ⟨_, _, _, rfl, by decide +kernel, by decide, by decide +kernel⟩
theorem kX4_shortHearths_X4_shortNow : mj_cwV MX4_shortHearths 180 RX4 yX4_shortNow wsX4_shortNow rmX4_shortNow 1 := ⟨_, _, _, _, gX4_shortHearths_X4_shortNow, rfl, by decide +kernel, by decide⟩
theorem kX4_shortHearths_X4_shortThen : mj_cwV MX4_shortHearths 183 RX4 yX4_shortThen wsX4_shortThen rmX4_shortThen 1 := ⟨_, _, _, _, gX4_shortHearths_X4_shortThen, rfl, by decide +kernel, by decide⟩
theorem kX4_shortNow_X4_atLeastNone : mj_cwS MX4_shortNow 97 yX4_atLeastNone wsX4_atLeastNone rmX4_atLeastNone 1 := ⟨_, _, _, _, gX4_shortNow_X4_atLeastNone, rfl, by decide +kernel, by decide⟩
theorem fX4_shortNow_7 : mj_fl MX4_shortNow 7 4 1 := ⟨_, _, _, rfl, by decide +kernel, by decide, by decide +kernel⟩
theorem kX4_shortThen_X4_ofHearth : mj_cwV MX4_shortThen 100 RX4 yX4_ofHearth wsX4_ofHearth rmX4_ofHearth 1 := ⟨_, _, _, _, gX4_shortThen_X4_ofHearth, rfl, by decide +kernel, by decide⟩
theorem kX4_shortThen_X4_atLeastNone : mj_cwS MX4_shortThen 97 yX4_atLeastNone wsX4_atLeastNone rmX4_atLeastNone 1 := ⟨_, _, _, _, gX4_shortThen_X4_atLeastNone, rfl, by decide +kernel, by decide⟩
theorem fX4_shortThen_7 : mj_fl MX4_shortThen 7 4 1 := ⟨_, _, _, rfl, by decide +kernel, by decide, by decide +kernel⟩
theorem kX4_snow_X4_save : mj_cwV MX4_snow 44 RX4 yX4_save wsX4_save rmX4_save 0 := ⟨_, _, _, _, gX4_snow_X4_save, rfl, by decide +kernel, by decide⟩
theorem kX4_snow_X4_turnSnow : mj_cwV MX4_snow 125 RX4 yX4_turnSnow wsX4_turnSnow rmX4_turnSnow 0 := ⟨_, _, _, _, gX4_snow_X4_turnSnow, rfl, by decide +kernel, by decide⟩
theorem pX4_snow_25 : mj_flp MX4_snow 25 4 0 .int := ⟨_, _, _, tyX4, rfl, by decide +kernel, by decide, by decide +kernel, tyX4_ok, nmX4, by decide +kernel, by decide +kernel⟩
theorem fX4_soak_7 : mj_fl MX4_soak 7 4 1 := ⟨_, _, _, rfl, by decide +kernel, by decide, by decide +kernel⟩
theorem kX4_strength_X4_isCutter : mj_cwS MX4_strength 116 yX4_isCutter wsX4_isCutter rmX4_isCutter 1 := ⟨_, _, _, _, gX4_strength_X4_isCutter, rfl, by decide +kernel, by decide⟩
theorem kX4_strength_X4_fails : mj_cwV MX4_strength 36 RX4 yX4_fails wsX4_fails rmX4_fails 1 := ⟨_, _, _, _, gX4_strength_X4_fails, rfl, by decide +kernel, by decide⟩
theorem kX4_strength_X4_within : mj_cwS MX4_strength 29 yX4_within wsX4_within rmX4_within 3 := ⟨_, _, _, _, gX4_strength_X4_within, rfl, by decide +kernel, by decide⟩
theorem kX4_strength_X4_save : mj_cwV MX4_strength 44 RX4 yX4_save wsX4_save rmX4_save 0 := ⟨_, _, _, _, gX4_strength_X4_save, rfl, by decide +kernel, by decide⟩
theorem pX4_strength_25 : mj_flp MX4_strength 25 4 0 .int := ⟨_, _, _, tyX4, rfl, by decide +kernel, by decide, by decide +kernel, tyX4_ok, nmX4, by decide +kernel, by decide +kernel⟩
theorem fX4_strength_7 : mj_fl MX4_strength 7 4 1 := ⟨_, _, _, rfl, by decide +kernel, by decide, by decide +kernel⟩
theorem fX4_sumOf_7 : mj_fl MX4_sumOf 7 4 1 := ⟨_, _, _, rfl, by decide +kernel, by decide, by decide +kernel⟩
theorem fX4_takeBack_7 : mj_fl MX4_takeBack 7 4 1 := ⟨_, _, _, rfl, by decide +kernel, by decide, by decide +kernel⟩
theorem fX4_takeBack_13 : mj_fl MX4_takeBack 13 4 2 := ⟨_, _, _, rfl, by decide +kernel, by decide, by decide +kernel⟩
theorem kX4_takeDigit_X4_next : mj_cwV MX4_takeDigit 143 RX4 yX4_next wsX4_next rmX4_next 0 := ⟨_, _, _, _, gX4_takeDigit_X4_next, rfl, by decide +kernel, by decide⟩
theorem kX4_takeDigit_X4_within : mj_cwS MX4_takeDigit 29 yX4_within wsX4_within rmX4_within 3 := ⟨_, _, _, _, gX4_takeDigit_X4_within, rfl, by decide +kernel, by decide⟩
theorem fX4_takeDigit_140 : mj_fl MX4_takeDigit 140 4 9 := ⟨_, _, _, rfl, by decide +kernel, by decide, by decide +kernel⟩
theorem pX4_takeDigit_140 : mj_flp MX4_takeDigit 140 4 9 .int := ⟨_, _, _, tyX4, rfl, by decide +kernel, by decide, by decide +kernel, tyX4_ok, nmX4, by decide +kernel, by decide +kernel⟩
theorem kX4_takes_X4_next : mj_cwV MX4_takes 143 RX4 yX4_next wsX4_next rmX4_next 0 := ⟨_, _, _, _, gX4_takes_X4_next, rfl, by decide +kernel, by decide⟩
theorem fX4_takes_140 : mj_fl MX4_takes 140 4 9 := ⟨_, _, _, rfl, by decide +kernel, by decide, by decide +kernel⟩
theorem pX4_takes_140 : mj_flp MX4_takes 140 4 9 .int := ⟨_, _, _, tyX4, rfl, by decide +kernel, by decide, by decide +kernel, tyX4_ok, nmX4, by decide +kernel, by decide +kernel⟩
theorem kX4_tellsBank_X4_commons : mj_cwV MX4_tellsBank 85 RX4 yX4_commons wsX4_commons rmX4_commons 1 := ⟨_, _, _, _, gX4_tellsBank_X4_commons, rfl, by decide +kernel, by decide⟩
theorem kX4_tellsBank_X4_workersOn : mj_cwV MX4_tellsBank 91 RX4 yX4_workersOn wsX4_workersOn rmX4_workersOn 1 := ⟨_, _, _, _, gX4_tellsBank_X4_workersOn, rfl, by decide +kernel, by decide⟩
theorem kX4_tellsBank_X4_lieOn : mj_cwV MX4_tellsBank 192 RX4 yX4_lieOn wsX4_lieOn rmX4_lieOn 1 := ⟨_, _, _, _, gX4_tellsBank_X4_lieOn, rfl, by decide +kernel, by decide⟩
theorem fX4_tellsBank_7 : mj_fl MX4_tellsBank 7 4 1 := ⟨_, _, _, rfl, by decide +kernel, by decide, by decide +kernel⟩
theorem kX4_tellsCount_X4_allWorkers : mj_cwV MX4_tellsCount 122 RX4 yX4_allWorkers wsX4_allWorkers rmX4_allWorkers 0 := ⟨_, _, _, _, gX4_tellsCount_X4_allWorkers, rfl, by decide +kernel, by decide⟩
theorem kX4_tellsCount_X4_sumOf : mj_cwV MX4_tellsCount 205 RX4 yX4_sumOf wsX4_sumOf rmX4_sumOf 2 := ⟨_, _, _, _, gX4_tellsCount_X4_sumOf, rfl, by decide +kernel, by decide⟩
theorem kX4_tellsCount_X4_shortHearths : mj_cwV MX4_tellsCount 208 RX4 yX4_shortHearths wsX4_shortHearths rmX4_shortHearths 1 := ⟨_, _, _, _, gX4_tellsCount_X4_shortHearths, rfl, by decide +kernel, by decide⟩
theorem fX4_tellsCount_7 : mj_fl MX4_tellsCount 7 4 1 := ⟨_, _, _, rfl, by decide +kernel, by decide, by decide +kernel⟩
theorem fX4_tellsCount_33 : mj_fl MX4_tellsCount 33 4 4 := ⟨_, _, _, rfl, by decide +kernel, by decide, by decide +kernel⟩
theorem fX4_tellsCutter_7 : mj_fl MX4_tellsCutter 7 4 1 := ⟨_, _, _, rfl, by decide +kernel, by decide, by decide +kernel⟩
theorem kX4_tellsHearth_X4_ofHearth : mj_cwV MX4_tellsHearth 100 RX4 yX4_ofHearth wsX4_ofHearth rmX4_ofHearth 1 := ⟨_, _, _, _, gX4_tellsHearth_X4_ofHearth, rfl, by decide +kernel, by decide⟩
theorem kX4_tellsHearth_X4_shortNow : mj_cwV MX4_tellsHearth 180 RX4 yX4_shortNow wsX4_shortNow rmX4_shortNow 1 := ⟨_, _, _, _, gX4_tellsHearth_X4_shortNow, rfl, by decide +kernel, by decide⟩
theorem kX4_tellsHearth_X4_shortThen : mj_cwV MX4_tellsHearth 183 RX4 yX4_shortThen wsX4_shortThen rmX4_shortThen 1 := ⟨_, _, _, _, gX4_tellsHearth_X4_shortThen, rfl, by decide +kernel, by decide⟩
theorem kX4_tellsHearth_X4_shortByBook : mj_cwV MX4_tellsHearth 186 RX4 yX4_shortByBook wsX4_shortByBook rmX4_shortByBook 1 := ⟨_, _, _, _, gX4_tellsHearth_X4_shortByBook, rfl, by decide +kernel, by decide⟩
theorem fX4_tellsHearth_7 : mj_fl MX4_tellsHearth 7 4 1 := ⟨_, _, _, rfl, by decide +kernel, by decide, by decide +kernel⟩
theorem kX4_tellsPlot_X4_workers : mj_cwV MX4_tellsPlot 88 RX4 yX4_workers wsX4_workers rmX4_workers 2 := ⟨_, _, _, _, gX4_tellsPlot_X4_workers, rfl, by decide +kernel, by decide⟩
theorem fX4_tellsPlot_7 : mj_fl MX4_tellsPlot 7 4 1 := ⟨_, _, _, rfl, by decide +kernel, by decide, by decide +kernel⟩
theorem fX4_thrown_25 : mj_fl MX4_thrown 25 4 0 := ⟨_, _, _, rfl, by decide +kernel, by decide, by decide +kernel⟩
theorem kX4_track_X4_isBank : mj_cwS MX4_track 113 yX4_isBank wsX4_isBank rmX4_isBank 1 := ⟨_, _, _, _, gX4_track_X4_isBank, rfl, by decide +kernel, by decide⟩
theorem kX4_track_X4_fails : mj_cwV MX4_track 36 RX4 yX4_fails wsX4_fails rmX4_fails 1 := ⟨_, _, _, _, gX4_track_X4_fails, rfl, by decide +kernel, by decide⟩
theorem kX4_track_X4_within : mj_cwS MX4_track 29 yX4_within wsX4_within rmX4_within 3 := ⟨_, _, _, _, gX4_track_X4_within, rfl, by decide +kernel, by decide⟩
theorem kX4_track_X4_save : mj_cwV MX4_track 44 RX4 yX4_save wsX4_save rmX4_save 0 := ⟨_, _, _, _, gX4_track_X4_save, rfl, by decide +kernel, by decide⟩
theorem pX4_track_25 : mj_flp MX4_track 25 4 0 .int := ⟨_, _, _, tyX4, rfl, by decide +kernel, by decide, by decide +kernel, tyX4_ok, nmX4, by decide +kernel, by decide +kernel⟩
theorem fX4_track_7 : mj_fl MX4_track 7 4 1 := ⟨_, _, _, rfl, by decide +kernel, by decide, by decide +kernel⟩
theorem kX4_turnSnow_X4_setToWork : mj_cwV MX4_turnSnow 106 RX4 yX4_setToWork wsX4_setToWork rmX4_setToWork 3 := ⟨_, _, _, _, gX4_turnSnow_X4_setToWork, rfl, by decide +kernel, by decide⟩
theorem fX4_turnSnow_7 : mj_fl MX4_turnSnow 7 4 1 := ⟨_, _, _, rfl, by decide +kernel, by decide, by decide +kernel⟩
theorem fX4_turvesOn_7 : mj_fl MX4_turvesOn 7 4 1 := ⟨_, _, _, rfl, by decide +kernel, by decide, by decide +kernel⟩
theorem kX4_undo_X4_fails : mj_cwV MX4_undo 36 RX4 yX4_fails wsX4_fails rmX4_fails 1 := ⟨_, _, _, _, gX4_undo_X4_fails, rfl, by decide +kernel, by decide⟩
theorem pX4_undo_25 : mj_flp MX4_undo 25 4 0 .int := ⟨_, _, _, tyX4, rfl, by decide +kernel, by decide, by decide +kernel, tyX4_ok, nmX4, by decide +kernel, by decide +kernel⟩
theorem fX4_undo_33 : mj_fl MX4_undo 33 4 4 := ⟨_, _, _, rfl, by decide +kernel, by decide, by decide +kernel⟩
theorem pX4_undo_33 : mj_flp MX4_undo 33 4 4 .int := ⟨_, _, _, tyX4, rfl, by decide +kernel, by decide, by decide +kernel, tyX4_ok, nmX4, by decide +kernel, by decide +kernel⟩
theorem fX4_undo_7 : mj_fl MX4_undo 7 4 1 := ⟨_, _, _, rfl, by decide +kernel, by decide, by decide +kernel⟩
theorem fX4_undo_16 : mj_fl MX4_undo 16 4 3 := ⟨_, _, _, rfl, by decide +kernel, by decide, by decide +kernel⟩
theorem kX4_whyNot_X4_isCutter : mj_cwS MX4_whyNot 116 yX4_isCutter wsX4_isCutter rmX4_isCutter 1 := ⟨_, _, _, _, gX4_whyNot_X4_isCutter, rfl, by decide +kernel, by decide⟩
theorem kX4_whyNot_X4_isHearth : mj_cwS MX4_whyNot 109 yX4_isHearth wsX4_isHearth rmX4_isHearth 1 := ⟨_, _, _, _, gX4_whyNot_X4_isHearth, rfl, by decide +kernel, by decide⟩
theorem kX4_whyNot_X4_isBank : mj_cwS MX4_whyNot 113 yX4_isBank wsX4_isBank rmX4_isBank 1 := ⟨_, _, _, _, gX4_whyNot_X4_isBank, rfl, by decide +kernel, by decide⟩
theorem kX4_whyNot_X4_reason : mj_cwV MX4_whyNot 119 RX4 yX4_reason wsX4_reason rmX4_reason 2 := ⟨_, _, _, _, gX4_whyNot_X4_reason, rfl, by decide +kernel, by decide⟩
theorem kX4_whyNot_X4_fails : mj_cwV MX4_whyNot 36 RX4 yX4_fails wsX4_fails rmX4_fails 1 := ⟨_, _, _, _, gX4_whyNot_X4_fails, rfl, by decide +kernel, by decide⟩
theorem pX4_whyNot_25 : mj_flp MX4_whyNot 25 4 0 .int := ⟨_, _, _, tyX4, rfl, by decide +kernel, by decide, by decide +kernel, tyX4_ok, nmX4, by decide +kernel, by decide +kernel⟩
theorem kX4_work_X4_isCutter : mj_cwS MX4_work 116 yX4_isCutter wsX4_isCutter rmX4_isCutter 1 := ⟨_, _, _, _, gX4_work_X4_isCutter, rfl, by decide +kernel, by decide⟩
theorem kX4_work_X4_isHearth : mj_cwS MX4_work 109 yX4_isHearth wsX4_isHearth rmX4_isHearth 1 := ⟨_, _, _, _, gX4_work_X4_isHearth, rfl, by decide +kernel, by decide⟩
theorem kX4_work_X4_isBank : mj_cwS MX4_work 113 yX4_isBank wsX4_isBank rmX4_isBank 1 := ⟨_, _, _, _, gX4_work_X4_isBank, rfl, by decide +kernel, by decide⟩
theorem kX4_work_X4_fails : mj_cwV MX4_work 36 RX4 yX4_fails wsX4_fails rmX4_fails 1 := ⟨_, _, _, _, gX4_work_X4_fails, rfl, by decide +kernel, by decide⟩
theorem kX4_work_X4_reason : mj_cwV MX4_work 119 RX4 yX4_reason wsX4_reason rmX4_reason 2 := ⟨_, _, _, _, gX4_work_X4_reason, rfl, by decide +kernel, by decide⟩
theorem kX4_work_X4_save : mj_cwV MX4_work 44 RX4 yX4_save wsX4_save rmX4_save 0 := ⟨_, _, _, _, gX4_work_X4_save, rfl, by decide +kernel, by decide⟩
theorem kX4_work_X4_setToWork : mj_cwV MX4_work 106 RX4 yX4_setToWork wsX4_setToWork rmX4_setToWork 3 := ⟨_, _, _, _, gX4_work_X4_setToWork, rfl, by decide +kernel, by decide⟩
theorem kX4_work_X4_workers : mj_cwV MX4_work 88 RX4 yX4_workers wsX4_workers rmX4_workers 2 := ⟨_, _, _, _, gX4_work_X4_workers, rfl, by decide +kernel, by decide⟩
theorem pX4_work_25 : mj_flp MX4_work 25 4 0 .int := ⟨_, _, _, tyX4, rfl, by decide +kernel, by decide, by decide +kernel, tyX4_ok, nmX4, by decide +kernel, by decide +kernel⟩
theorem fX4_workers_7 : mj_fl MX4_workers 7 4 1 := ⟨_, _, _, rfl, by decide +kernel, by decide, by decide +kernel⟩
theorem kX4_workersOn_X4_workers : mj_cwV MX4_workersOn 88 RX4 yX4_workers wsX4_workers rmX4_workers 2 := ⟨_, _, _, _, gX4_workersOn_X4_workers, rfl, by decide +kernel, by decide⟩
theorem kX4_wouldPass_X4_putAside : mj_cwV MX4_wouldPass 215 RX4 yX4_putAside wsX4_putAside rmX4_putAside 0 := ⟨_, _, _, _, gX4_wouldPass_X4_putAside, rfl, by decide +kernel, by decide⟩
theorem kX4_wouldPass_X4_sumOf : mj_cwV MX4_wouldPass 205 RX4 yX4_sumOf wsX4_sumOf rmX4_sumOf 2 := ⟨_, _, _, _, gX4_wouldPass_X4_sumOf, rfl, by decide +kernel, by decide⟩
theorem kX4_wouldPass_X4_passes : mj_cwV MX4_wouldPass 128 RX4 yX4_passes wsX4_passes rmX4_passes 1 := ⟨_, _, _, _, gX4_wouldPass_X4_passes, rfl, by decide +kernel, by decide⟩
theorem kX4_wouldPass_X4_shortHearths : mj_cwV MX4_wouldPass 208 RX4 yX4_shortHearths wsX4_shortHearths rmX4_shortHearths 1 := ⟨_, _, _, _, gX4_wouldPass_X4_shortHearths, rfl, by decide +kernel, by decide⟩
theorem kX4_wouldPass_X4_takeBack : mj_cwV MX4_wouldPass 218 RX4 yX4_takeBack wsX4_takeBack rmX4_takeBack 0 := ⟨_, _, _, _, gX4_wouldPass_X4_takeBack, rfl, by decide +kernel, by decide⟩

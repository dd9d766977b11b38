abbrev rmX3_bankOf : Room := { frames := 8, cells := 0, slots := 0, locals := 142 }
abbrev MX3_bankOf : mj_M := (RX3, 3, wsX3_bankOf, rmX3_bankOf, false, none)
abbrev rmX3_count : Room := { frames := 8, cells := 0, slots := 0, locals := 142 }
abbrev MX3_count : mj_M := (RX3, 2, wsX3_count, rmX3_count, false, none)
abbrev rmX3_cutter : Room := { frames := 8, cells := 0, slots := 0, locals := 142 }
abbrev MX3_cutter : mj_M := (RX3, 3, wsX3_cutter, rmX3_cutter, false, none)
abbrev rmX3_dryness : Room := { frames := 3, cells := 0, slots := 0, locals := 67 }
abbrev MX3_dryness : mj_M := (RX3, 2, wsX3_dryness, rmX3_dryness, false, none)
abbrev rmX3_give : Room := { frames := 8, cells := 0, slots := 0, locals := 142 }
abbrev MX3_give : mj_M := (RX3, 7, wsX3_give, rmX3_give, false, none)
abbrev rmX3_hearth : Room := { frames := 8, cells := 0, slots := 0, locals := 142 }
abbrev MX3_hearth : mj_M := (RX3, 4, wsX3_hearth, rmX3_hearth, false, none)
abbrev rmX3_hearthOf : Room := { frames := 8, cells := 0, slots := 0, locals := 142 }
abbrev MX3_hearthOf : mj_M := (RX3, 3, wsX3_hearthOf, rmX3_hearthOf, false, none)
abbrev rmX3_init : Room := { frames := 4, cells := 0, slots := 0, locals := 88 }
abbrev MX3_init : mj_M := (RX3, 1, wsX3_init, rmX3_init, true, none)
abbrev rmX3_pass : Room := { frames := 8, cells := 0, slots := 0, locals := 142 }
abbrev MX3_pass : mj_M := (RX3, 2, wsX3_pass, rmX3_pass, false, none)
abbrev rmX3_plot : Room := { frames := 8, cells := 0, slots := 0, locals := 142 }
abbrev MX3_plot : mj_M := (RX3, 4, wsX3_plot, rmX3_plot, false, none)
abbrev rmX3_rain : Room := { frames := 7, cells := 0, slots := 0, locals := 120 }
abbrev MX3_rain : mj_M := (RX3, 2, wsX3_rain, rmX3_rain, false, none)
abbrev rmX3_requireArgument : Room := { frames := 6, cells := 0, slots := 0, locals := 100 }
abbrev MX3_requireArgument : mj_M := (RX3, 1, wsX3_requireArgument, rmX3_requireArgument, false, none)
abbrev rmX3_requireHolder : Room := { frames := 7, cells := 0, slots := 0, locals := 121 }
abbrev MX3_requireHolder : mj_M := (RX3, 1, wsX3_requireHolder, rmX3_requireHolder, false, none)
abbrev rmX3_requireIndex : Room := { frames := 6, cells := 0, slots := 0, locals := 100 }
abbrev MX3_requireIndex : mj_M := (RX3, 2, wsX3_requireIndex, rmX3_requireIndex, false, none)
abbrev rmX3_requireRange : Room := { frames := 7, cells := 0, slots := 0, locals := 120 }
abbrev MX3_requireRange : mj_M := (RX3, 3, wsX3_requireRange, rmX3_requireRange, false, none)
abbrev rmX3_requireState : Room := { frames := 6, cells := 0, slots := 0, locals := 100 }
abbrev MX3_requireState : mj_M := (RX3, 1, wsX3_requireState, rmX3_requireState, false, none)
abbrev rmX3_rest : Room := { frames := 7, cells := 0, slots := 0, locals := 121 }
abbrev MX3_rest : mj_M := (RX3, 2, wsX3_rest, rmX3_rest, false, none)
abbrev rmX3_set : Room := { frames := 8, cells := 0, slots := 0, locals := 142 }
abbrev MX3_set : mj_M := (RX3, 3, wsX3_set, rmX3_set, false, none)
abbrev rmX3_snow : Room := { frames := 4, cells := 0, slots := 0, locals := 87 }
abbrev MX3_snow : mj_M := (RX3, 1, wsX3_snow, rmX3_snow, false, none)
abbrev rmX3_strength : Room := { frames := 8, cells := 0, slots := 0, locals := 142 }
abbrev MX3_strength : mj_M := (RX3, 3, wsX3_strength, rmX3_strength, false, none)
abbrev rmX3_track : Room := { frames := 8, cells := 0, slots := 0, locals := 142 }
abbrev MX3_track : mj_M := (RX3, 3, wsX3_track, rmX3_track, false, none)
abbrev rmX3_undo : Room := { frames := 7, cells := 0, slots := 0, locals := 120 }
abbrev MX3_undo : mj_M := (RX3, 1, wsX3_undo, rmX3_undo, false, none)
abbrev rmX3_whyNot : Room := { frames := 7, cells := 0, slots := 0, locals := 121 }
abbrev MX3_whyNot : mj_M := (RX3, 4, wsX3_whyNot, rmX3_whyNot, false, none)
abbrev rmX3_work : Room := { frames := 7, cells := 0, slots := 0, locals := 121 }
abbrev MX3_work : mj_M := (RX3, 4, wsX3_work, rmX3_work, false, none)
theorem kX3_bankOf_X3_requireIndex : mj_cwS MX3_bankOf 38 yX3_requireIndex wsX3_requireIndex rmX3_requireIndex 2 := ⟨_, _, _, _, gX3_bankOf_X3_requireIndex, rfl, by decide +kernel, by decide⟩
theorem kX3_bankOf_X3_requireRange : mj_cwS MX3_bankOf 42 yX3_requireRange wsX3_requireRange rmX3_requireRange 3 := ⟨_, _, _, _, gX3_bankOf_X3_requireRange, rfl, by decide +kernel, by decide⟩
theorem kX3_bankOf_X0_ofBank : mj_cwV MX3_bankOf 141 RX0 yX0_ofBank wsX0_ofBank rmX0_ofBank 2 := ⟨_, _, _, _, gX3_bankOf_X0_ofBank, rfl, by decide +kernel, by decide⟩
theorem fX3_bankOf_12 : mj_fl MX3_bankOf 12 3 0 := ⟨_, _, _, rfl, by decide +kernel, by decide, by decide +kernel⟩
theorem kX3_count_X3_requireRange : mj_cwS MX3_count 42 yX3_requireRange wsX3_requireRange rmX3_requireRange 3 := ⟨_, _, _, _, gX3_count_X3_requireRange, rfl, by decide +kernel, by decide⟩
theorem kX3_count_X1_size : mj_cwV MX3_count 129 RX1 yX1_size wsX1_size rmX1_size 0 := ⟨_, _, _, _, gX3_count_X1_size, rfl, by decide +kernel, by decide⟩
theorem kX3_count_X0_ofAll : mj_cwV MX3_count 154 RX0 yX0_ofAll wsX0_ofAll rmX0_ofAll 1 := ⟨_, _, _, _, gX3_count_X0_ofAll, rfl, by decide +kernel, by decide⟩
theorem fX3_count_24 : mj_fl MX3_count 24 3 2 := ⟨_, _, _, rfl, by decide +kernel, by decide, by decide +kernel⟩
theorem fX3_count_12 : mj_fl MX3_count 12 3 0 := ⟨_, _, _, rfl, by decide +kernel, by decide, by decide +kernel⟩
theorem kX3_cutter_X3_requireIndex : mj_cwS MX3_cutter 38 yX3_requireIndex wsX3_requireIndex rmX3_requireIndex 2 := ⟨_, _, _, _, gX3_cutter_X3_requireIndex, rfl, by decide +kernel, by decide⟩
theorem kX3_cutter_X3_requireRange : mj_cwS MX3_cutter 42 yX3_requireRange wsX3_requireRange rmX3_requireRange 3 := ⟨_, _, _, _, gX3_cutter_X3_requireRange, rfl, by decide +kernel, by decide⟩
theorem kX3_cutter_X0_ofCutter : mj_cwV MX3_cutter 148 RX0 yX0_ofCutter wsX0_ofCutter rmX0_ofCutter 2 := ⟨_, _, _, _, gX3_cutter_X0_ofCutter, rfl, by decide +kernel, by decide⟩
theorem fX3_cutter_12 : mj_fl MX3_cutter 12 3 0 := ⟨_, _, _, rfl, by decide +kernel, by decide, by decide +kernel⟩
theorem kX3_dryness_X0_turvesOnBanks : mj_cwV MX3_dryness 169 RX0 yX0_turvesOnBanks wsX0_turvesOnBanks rmX0_turvesOnBanks 0 := ⟨_, _, _, _, gX3_dryness_X0_turvesOnBanks, rfl, by decide +kernel, by decide⟩
theorem kX3_dryness_X0_sum : mj_cwV MX3_dryness 163 RX0 yX0_sum wsX0_sum rmX0_sum 2 := ⟨_, _, _, _, gX3_dryness_X0_sum, rfl, by decide +kernel, by decide⟩
theorem fX3_dryness_12 : mj_fl MX3_dryness 12 3 0 := ⟨_, _, _, rfl, by decide +kernel, by decide, by decide +kernel⟩
theorem kX3_give_X3_requireHolder : mj_cwS MX3_give 77 yX3_requireHolder wsX3_requireHolder rmX3_requireHolder 1 := ⟨_, _, _, _, gX3_give_X3_requireHolder, rfl, by decide +kernel, by decide⟩
theorem kX3_give_X3_requireIndex : mj_cwS MX3_give 38 yX3_requireIndex wsX3_requireIndex rmX3_requireIndex 2 := ⟨_, _, _, _, gX3_give_X3_requireIndex, rfl, by decide +kernel, by decide⟩
theorem kX3_give_X3_requireRange : mj_cwS MX3_give 42 yX3_requireRange wsX3_requireRange rmX3_requireRange 3 := ⟨_, _, _, _, gX3_give_X3_requireRange, rfl, by decide +kernel, by decide⟩
theorem kX3_give_X3_requireArgument : mj_cwS MX3_give 80 yX3_requireArgument wsX3_requireArgument rmX3_requireArgument 1 := ⟨_, _, _, _, gX3_give_X3_requireArgument, rfl, by decide +kernel, by decide⟩
theorem kX3_give_X0_sharesPlace : mj_cwS MX3_give 83 yX0_sharesPlace wsX0_sharesPlace rmX0_sharesPlace 2 := ⟨_, _, _, _, gX3_give_X0_sharesPlace, rfl, by decide +kernel, by decide⟩
theorem kX3_give_X0_at : mj_cwV MX3_give 86 RX0 yX0_at wsX0_at rmX0_at 1 := ⟨_, _, _, _, gX3_give_X0_at, rfl, by decide +kernel, by decide⟩
theorem kX3_give_X3_requireState : mj_cwS MX3_give 60 yX3_requireState wsX3_requireState rmX3_requireState 1 := ⟨_, _, _, _, gX3_give_X3_requireState, rfl, by decide +kernel, by decide⟩
theorem kX3_give_X1_push : mj_cwV MX3_give 46 RX1 yX1_push wsX1_push rmX1_push 1 := ⟨_, _, _, _, gX3_give_X1_push, rfl, by decide +kernel, by decide⟩
theorem kX3_give_X0_add : mj_cwV MX3_give 90 RX0 yX0_add wsX0_add rmX0_add 2 := ⟨_, _, _, _, gX3_give_X0_add, rfl, by decide +kernel, by decide⟩
theorem fX3_give_12 : mj_fl MX3_give 12 3 0 := ⟨_, _, _, rfl, by decide +kernel, by decide, by decide +kernel⟩
theorem fX3_give_24 : mj_fl MX3_give 24 3 2 := ⟨_, _, _, rfl, by decide +kernel, by decide, by decide +kernel⟩
theorem kX3_hearth_X3_requireIndex : mj_cwS MX3_hearth 38 yX3_requireIndex wsX3_requireIndex rmX3_requireIndex 2 := ⟨_, _, _, _, gX3_hearth_X3_requireIndex, rfl, by decide +kernel, by decide⟩
theorem kX3_hearth_X3_requireRange : mj_cwS MX3_hearth 42 yX3_requireRange wsX3_requireRange rmX3_requireRange 3 := ⟨_, _, _, _, gX3_hearth_X3_requireRange, rfl, by decide +kernel, by decide⟩
theorem kX3_hearth_X1_push : mj_cwV MX3_hearth 46 RX1 yX1_push wsX1_push rmX1_push 1 := ⟨_, _, _, _, gX3_hearth_X1_push, rfl, by decide +kernel, by decide⟩
theorem kX3_hearth_X0_put : mj_cwV MX3_hearth 50 RX0 yX0_put wsX0_put rmX0_put 2 := ⟨_, _, _, _, gX3_hearth_X0_put, rfl, by decide +kernel, by decide⟩
theorem kX3_hearth_X0_swap : mj_cwV MX3_hearth 53 RX0 yX0_swap wsX0_swap rmX0_swap 2 := ⟨_, _, _, _, gX3_hearth_X0_swap, rfl, by decide +kernel, by decide⟩
theorem fX3_hearth_24 : mj_fl MX3_hearth 24 3 2 := ⟨_, _, _, rfl, by decide +kernel, by decide, by decide +kernel⟩
theorem fX3_hearth_12 : mj_fl MX3_hearth 12 3 0 := ⟨_, _, _, rfl, by decide +kernel, by decide, by decide +kernel⟩
theorem kX3_hearthOf_X3_requireIndex : mj_cwS MX3_hearthOf 38 yX3_requireIndex wsX3_requireIndex rmX3_requireIndex 2 := ⟨_, _, _, _, gX3_hearthOf_X3_requireIndex, rfl, by decide +kernel, by decide⟩
theorem kX3_hearthOf_X3_requireRange : mj_cwS MX3_hearthOf 42 yX3_requireRange wsX3_requireRange rmX3_requireRange 3 := ⟨_, _, _, _, gX3_hearthOf_X3_requireRange, rfl, by decide +kernel, by decide⟩
theorem kX3_hearthOf_X0_ofHearth : mj_cwV MX3_hearthOf 138 RX0 yX0_ofHearth wsX0_ofHearth rmX0_ofHearth 2 := ⟨_, _, _, _, gX3_hearthOf_X0_ofHearth, rfl, by decide +kernel, by decide⟩
theorem fX3_hearthOf_12 : mj_fl MX3_hearthOf 12 3 0 := ⟨_, _, _, rfl, by decide +kernel, by decide, by decide +kernel⟩
theorem pX3_init_12 : mj_flp MX3_init 12 3 0 (.object "PeatHearths$Land") := ⟨_, _, _, tyX3, rfl, by decide +kernel, by decide, by decide +kernel, tyX3_ok, nmX3, by decide +kernel, by decide +kernel⟩
theorem pX3_init_16 : mj_flp MX3_init 16 3 1 (.object "PeatHearths$Land") := ⟨_, _, _, tyX3, rfl, by decide +kernel, by decide, by decide +kernel, tyX3_ok, nmX3, by decide +kernel, by decide +kernel⟩
theorem pX3_init_24 : mj_flp MX3_init 24 3 2 (.object "PeatHearths$Shelf") := ⟨_, _, _, tyX3, rfl, by decide +kernel, by decide, by decide +kernel, tyX3_ok, nmX3, by decide +kernel, by decide +kernel⟩
theorem pX3_init_28 : mj_flp MX3_init 28 3 3 (.object "PeatHearths$Shelf") := ⟨_, _, _, tyX3, rfl, by decide +kernel, by decide, by decide +kernel, tyX3_ok, nmX3, by decide +kernel, by decide +kernel⟩
theorem pX3_init_34 : mj_flp MX3_init 34 3 4 (.object "PeatHearths$Text") := ⟨_, _, _, tyX3, rfl, by decide +kernel, by decide, by decide +kernel, tyX3_ok, nmX3, by decide +kernel, by decide +kernel⟩
theorem kX3_pass_X3_requireRange : mj_cwS MX3_pass 42 yX3_requireRange wsX3_requireRange rmX3_requireRange 3 := ⟨_, _, _, _, gX3_pass_X3_requireRange, rfl, by decide +kernel, by decide⟩
theorem kX3_pass_X1_push : mj_cwV MX3_pass 46 RX1 yX1_push wsX1_push rmX1_push 1 := ⟨_, _, _, _, gX3_pass_X1_push, rfl, by decide +kernel, by decide⟩
theorem kX3_pass_X0_passDays : mj_cwV MX3_pass 96 RX0 yX0_passDays wsX0_passDays rmX0_passDays 1 := ⟨_, _, _, _, gX3_pass_X0_passDays, rfl, by decide +kernel, by decide⟩
theorem fX3_pass_24 : mj_fl MX3_pass 24 3 2 := ⟨_, _, _, rfl, by decide +kernel, by decide, by decide +kernel⟩
theorem fX3_pass_12 : mj_fl MX3_pass 12 3 0 := ⟨_, _, _, rfl, by decide +kernel, by decide, by decide +kernel⟩
theorem kX3_plot_X3_requireIndex : mj_cwS MX3_plot 38 yX3_requireIndex wsX3_requireIndex rmX3_requireIndex 2 := ⟨_, _, _, _, gX3_plot_X3_requireIndex, rfl, by decide +kernel, by decide⟩
theorem kX3_plot_X3_requireRange : mj_cwS MX3_plot 42 yX3_requireRange wsX3_requireRange rmX3_requireRange 3 := ⟨_, _, _, _, gX3_plot_X3_requireRange, rfl, by decide +kernel, by decide⟩
theorem kX3_plot_X0_ofPlot : mj_cwV MX3_plot 144 RX0 yX0_ofPlot wsX0_ofPlot rmX0_ofPlot 3 := ⟨_, _, _, _, gX3_plot_X0_ofPlot, rfl, by decide +kernel, by decide⟩
theorem fX3_plot_12 : mj_fl MX3_plot 12 3 0 := ⟨_, _, _, rfl, by decide +kernel, by decide, by decide +kernel⟩
theorem kX3_rain_X3_requireArgument : mj_cwS MX3_rain 80 yX3_requireArgument wsX3_requireArgument rmX3_requireArgument 1 := ⟨_, _, _, _, gX3_rain_X3_requireArgument, rfl, by decide +kernel, by decide⟩
theorem kX3_rain_X0_rainOf : mj_cwV MX3_rain 151 RX0 yX0_rainOf wsX0_rainOf rmX0_rainOf 1 := ⟨_, _, _, _, gX3_rain_X0_rainOf, rfl, by decide +kernel, by decide⟩
theorem fX3_rain_12 : mj_fl MX3_rain 12 3 0 := ⟨_, _, _, rfl, by decide +kernel, by decide, by decide +kernel⟩
theorem kX3_requireHolder_X3_requireIndex : mj_cwS MX3_requireHolder 38 yX3_requireIndex wsX3_requireIndex rmX3_requireIndex 2 := ⟨_, _, _, _, gX3_requireHolder_X3_requireIndex, rfl, by decide +kernel, by decide⟩
theorem kX3_requireRange_X3_requireArgument : mj_cwS MX3_requireRange 80 yX3_requireArgument wsX3_requireArgument rmX3_requireArgument 1 := ⟨_, _, _, _, gX3_requireRange_X3_requireArgument, rfl, by decide +kernel, by decide⟩
theorem kX3_rest_X3_requireIndex : mj_cwS MX3_rest 38 yX3_requireIndex wsX3_requireIndex rmX3_requireIndex 2 := ⟨_, _, _, _, gX3_rest_X3_requireIndex, rfl, by decide +kernel, by decide⟩
theorem kX3_rest_X1_push : mj_cwV MX3_rest 46 RX1 yX1_push wsX1_push rmX1_push 1 := ⟨_, _, _, _, gX3_rest_X1_push, rfl, by decide +kernel, by decide⟩
theorem kX3_rest_X0_letRest : mj_cwV MX3_rest 70 RX0 yX0_letRest wsX0_letRest rmX0_letRest 1 := ⟨_, _, _, _, gX3_rest_X0_letRest, rfl, by decide +kernel, by decide⟩
theorem kX3_rest_X0_cuttersAtWork : mj_cwV MX3_rest 73 RX0 yX0_cuttersAtWork wsX0_cuttersAtWork rmX0_cuttersAtWork 0 := ⟨_, _, _, _, gX3_rest_X0_cuttersAtWork, rfl, by decide +kernel, by decide⟩
theorem fX3_rest_24 : mj_fl MX3_rest 24 3 2 := ⟨_, _, _, rfl, by decide +kernel, by decide, by decide +kernel⟩
theorem fX3_rest_12 : mj_fl MX3_rest 12 3 0 := ⟨_, _, _, rfl, by decide +kernel, by decide, by decide +kernel⟩
theorem kX3_set_X3_requireIndex : mj_cwS MX3_set 38 yX3_requireIndex wsX3_requireIndex rmX3_requireIndex 2 := ⟨_, _, _, _, gX3_set_X3_requireIndex, rfl, by decide +kernel, by decide⟩
theorem kX3_set_X3_requireRange : mj_cwS MX3_set 42 yX3_requireRange wsX3_requireRange rmX3_requireRange 3 := ⟨_, _, _, _, gX3_set_X3_requireRange, rfl, by decide +kernel, by decide⟩
theorem kX3_set_X1_push : mj_cwV MX3_set 46 RX1 yX1_push wsX1_push rmX1_push 1 := ⟨_, _, _, _, gX3_set_X1_push, rfl, by decide +kernel, by decide⟩
theorem kX3_set_X0_swap : mj_cwV MX3_set 53 RX0 yX0_swap wsX0_swap rmX0_swap 2 := ⟨_, _, _, _, gX3_set_X0_swap, rfl, by decide +kernel, by decide⟩
theorem fX3_set_24 : mj_fl MX3_set 24 3 2 := ⟨_, _, _, rfl, by decide +kernel, by decide, by decide +kernel⟩
theorem fX3_set_12 : mj_fl MX3_set 12 3 0 := ⟨_, _, _, rfl, by decide +kernel, by decide, by decide +kernel⟩
theorem kX3_snow_X1_push : mj_cwV MX3_snow 46 RX1 yX1_push wsX1_push rmX1_push 1 := ⟨_, _, _, _, gX3_snow_X1_push, rfl, by decide +kernel, by decide⟩
theorem kX3_snow_X0_turnSnow : mj_cwV MX3_snow 93 RX0 yX0_turnSnow wsX0_turnSnow rmX0_turnSnow 0 := ⟨_, _, _, _, gX3_snow_X0_turnSnow, rfl, by decide +kernel, by decide⟩
theorem kX3_snow_X0_at : mj_cwV MX3_snow 86 RX0 yX0_at wsX0_at rmX0_at 1 := ⟨_, _, _, _, gX3_snow_X0_at, rfl, by decide +kernel, by decide⟩
theorem fX3_snow_24 : mj_fl MX3_snow 24 3 2 := ⟨_, _, _, rfl, by decide +kernel, by decide, by decide +kernel⟩
theorem fX3_snow_12 : mj_fl MX3_snow 12 3 0 := ⟨_, _, _, rfl, by decide +kernel, by decide, by decide +kernel⟩
theorem kX3_strength_X3_requireIndex : mj_cwS MX3_strength 38 yX3_requireIndex wsX3_requireIndex rmX3_requireIndex 2 := ⟨_, _, _, _, gX3_strength_X3_requireIndex, rfl, by decide +kernel, by decide⟩
theorem kX3_strength_X3_requireRange : mj_cwS MX3_strength 42 yX3_requireRange wsX3_requireRange rmX3_requireRange 3 := ⟨_, _, _, _, gX3_strength_X3_requireRange, rfl, by decide +kernel, by decide⟩
theorem kX3_strength_X1_push : mj_cwV MX3_strength 46 RX1 yX1_push wsX1_push rmX1_push 1 := ⟨_, _, _, _, gX3_strength_X1_push, rfl, by decide +kernel, by decide⟩
theorem kX3_strength_X0_swap : mj_cwV MX3_strength 53 RX0 yX0_swap wsX0_swap rmX0_swap 2 := ⟨_, _, _, _, gX3_strength_X0_swap, rfl, by decide +kernel, by decide⟩
theorem fX3_strength_24 : mj_fl MX3_strength 24 3 2 := ⟨_, _, _, rfl, by decide +kernel, by decide, by decide +kernel⟩
theorem fX3_strength_12 : mj_fl MX3_strength 12 3 0 := ⟨_, _, _, rfl, by decide +kernel, by decide, by decide +kernel⟩
theorem kX3_track_X3_requireIndex : mj_cwS MX3_track 38 yX3_requireIndex wsX3_requireIndex rmX3_requireIndex 2 := ⟨_, _, _, _, gX3_track_X3_requireIndex, rfl, by decide +kernel, by decide⟩
theorem kX3_track_X3_requireRange : mj_cwS MX3_track 42 yX3_requireRange wsX3_requireRange rmX3_requireRange 3 := ⟨_, _, _, _, gX3_track_X3_requireRange, rfl, by decide +kernel, by decide⟩
theorem kX3_track_X1_push : mj_cwV MX3_track 46 RX1 yX1_push wsX1_push rmX1_push 1 := ⟨_, _, _, _, gX3_track_X1_push, rfl, by decide +kernel, by decide⟩
theorem kX3_track_X0_swap : mj_cwV MX3_track 53 RX0 yX0_swap wsX0_swap rmX0_swap 2 := ⟨_, _, _, _, gX3_track_X0_swap, rfl, by decide +kernel, by decide⟩
theorem fX3_track_24 : mj_fl MX3_track 24 3 2 := ⟨_, _, _, rfl, by decide +kernel, by decide, by decide +kernel⟩
theorem fX3_track_12 : mj_fl MX3_track 12 3 0 := ⟨_, _, _, rfl, by decide +kernel, by decide, by decide +kernel⟩
theorem kX3_undo_X1_size : mj_cwV MX3_undo 129 RX1 yX1_size wsX1_size rmX1_size 0 := ⟨_, _, _, _, gX3_undo_X1_size, rfl, by decide +kernel, by decide⟩
theorem kX3_undo_X3_requireState : mj_cwS MX3_undo 60 yX3_requireState wsX3_requireState rmX3_requireState 1 := ⟨_, _, _, _, gX3_undo_X3_requireState, rfl, by decide +kernel, by decide⟩
theorem kX3_undo_X1_showTop : mj_cwV MX3_undo 132 RX1 yX1_showTop wsX1_showTop rmX1_showTop 1 := ⟨_, _, _, _, gX3_undo_X1_showTop, rfl, by decide +kernel, by decide⟩
theorem kX3_undo_X1_dropTop : mj_cwV MX3_undo 135 RX1 yX1_dropTop wsX1_dropTop rmX1_dropTop 0 := ⟨_, _, _, _, gX3_undo_X1_dropTop, rfl, by decide +kernel, by decide⟩
theorem fX3_undo_24 : mj_fl MX3_undo 24 3 2 := ⟨_, _, _, rfl, by decide +kernel, by decide, by decide +kernel⟩
theorem fX3_undo_12 : mj_fl MX3_undo 12 3 0 := ⟨_, _, _, rfl, by decide +kernel, by decide, by decide +kernel⟩
theorem kX3_whyNot_X3_requireIndex : mj_cwS MX3_whyNot 38 yX3_requireIndex wsX3_requireIndex rmX3_requireIndex 2 := ⟨_, _, _, _, gX3_whyNot_X3_requireIndex, rfl, by decide +kernel, by decide⟩
theorem kX3_whyNot_X0_reasonAgainst : mj_cwV MX3_whyNot 57 RX0 yX0_reasonAgainst wsX0_reasonAgainst rmX0_reasonAgainst 2 := ⟨_, _, _, _, gX3_whyNot_X0_reasonAgainst, rfl, by decide +kernel, by decide⟩
theorem fX3_whyNot_12 : mj_fl MX3_whyNot 12 3 0 := ⟨_, _, _, rfl, by decide +kernel, by decide, by decide +kernel⟩
theorem kX3_work_X3_requireIndex : mj_cwS MX3_work 38 yX3_requireIndex wsX3_requireIndex rmX3_requireIndex 2 := ⟨_, _, _, _, gX3_work_X3_requireIndex, rfl, by decide +kernel, by decide⟩
theorem kX3_work_X0_reasonAgainst : mj_cwV MX3_work 57 RX0 yX0_reasonAgainst wsX0_reasonAgainst rmX0_reasonAgainst 2 := ⟨_, _, _, _, gX3_work_X0_reasonAgainst, rfl, by decide +kernel, by decide⟩
theorem kX3_work_X3_requireState : mj_cwS MX3_work 60 yX3_requireState wsX3_requireState rmX3_requireState 1 := ⟨_, _, _, _, gX3_work_X3_requireState, rfl, by decide +kernel, by decide⟩
theorem kX3_work_X1_push : mj_cwV MX3_work 46 RX1 yX1_push wsX1_push rmX1_push 1 := ⟨_, _, _, _, gX3_work_X1_push, rfl, by decide +kernel, by decide⟩
theorem kX3_work_X0_setToWork : mj_cwV MX3_work 64 RX0 yX0_setToWork wsX0_setToWork rmX0_setToWork 3 := ⟨_, _, _, _, gX3_work_X0_setToWork, rfl, by decide +kernel, by decide⟩
theorem kX3_work_X0_cuttersAt : mj_cwV MX3_work 67 RX0 yX0_cuttersAt wsX0_cuttersAt rmX0_cuttersAt 2 := ⟨_, _, _, _, gX3_work_X0_cuttersAt, rfl, by decide +kernel, by decide⟩
theorem fX3_work_12 : mj_fl MX3_work 12 3 0 := ⟨_, _, _, rfl, by decide +kernel, by decide, by decide +kernel⟩
theorem fX3_work_24 : mj_fl MX3_work 24 3 2 := ⟨_, _, _, rfl, by decide +kernel, by decide, by decide +kernel⟩

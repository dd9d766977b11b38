abbrev rmX0_add : Room := { frames := 1, cells := 0, slots := 0, locals := 22 }
abbrev MX0_add : mj_M := (RX0, 3, wsX0_add, rmX0_add, false, none)
abbrev rmX0_at : Room := { frames := 0, cells := 0, slots := 0, locals := 0 }
abbrev MX0_at : mj_M := (RX0, 2, wsX0_at, rmX0_at, false, none)
abbrev rmX0_burn : Room := { frames := 2, cells := 0, slots := 0, locals := 44 }
abbrev MX0_burn : mj_M := (RX0, 4, wsX0_burn, rmX0_burn, false, none)
abbrev rmX0_cartHome : Room := { frames := 2, cells := 0, slots := 0, locals := 44 }
abbrev MX0_cartHome : mj_M := (RX0, 7, wsX0_cartHome, rmX0_cartHome, false, none)
abbrev rmX0_cutTurves : Room := { frames := 2, cells := 0, slots := 0, locals := 44 }
abbrev MX0_cutTurves : mj_M := (RX0, 5, wsX0_cutTurves, rmX0_cutTurves, false, none)
abbrev rmX0_cuttersAt : Room := { frames := 1, cells := 0, slots := 0, locals := 21 }
abbrev MX0_cuttersAt : mj_M := (RX0, 5, wsX0_cuttersAt, rmX0_cuttersAt, false, none)
abbrev rmX0_cuttersAtWork : Room := { frames := 3, cells := 0, slots := 0, locals := 68 }
abbrev MX0_cuttersAtWork : mj_M := (RX0, 3, wsX0_cuttersAtWork, rmX0_cuttersAtWork, false, none)
abbrev rmX0_cuttersOnBank : Room := { frames := 2, cells := 0, slots := 0, locals := 45 }
abbrev MX0_cuttersOnBank : mj_M := (RX0, 4, wsX0_cuttersOnBank, rmX0_cuttersOnBank, false, none)
abbrev rmX0_dryOut : Room := { frames := 2, cells := 0, slots := 0, locals := 44 }
abbrev MX0_dryOut : mj_M := (RX0, 5, wsX0_dryOut, rmX0_dryOut, false, none)
abbrev rmX0_goCarts : Room := { frames := 3, cells := 0, slots := 0, locals := 70 }
abbrev MX0_goCarts : mj_M := (RX0, 7, wsX0_goCarts, rmX0_goCarts, false, none)
abbrev rmX0_halfRoundedUp : Room := { frames := 0, cells := 0, slots := 0, locals := 0 }
abbrev MX0_halfRoundedUp : mj_M := (RX0, 1, wsX0_halfRoundedUp, rmX0_halfRoundedUp, false, none)
abbrev rmX0_hearthsShort : Room := { frames := 2, cells := 0, slots := 0, locals := 42 }
abbrev MX0_hearthsShort : mj_M := (RX0, 3, wsX0_hearthsShort, rmX0_hearthsShort, false, none)
abbrev rmX0_hearthsThatWillBeShort : Room := { frames := 3, cells := 0, slots := 0, locals := 68 }
abbrev MX0_hearthsThatWillBeShort : mj_M := (RX0, 3, wsX0_hearthsThatWillBeShort, rmX0_hearthsThatWillBeShort, false, none)
abbrev rmX0_init : Room := { frames := 3, cells := 0, slots := 0, locals := 66 }
abbrev MX0_init : mj_M := (RX0, 3, wsX0_init, rmX0_init, true, none)
abbrev rmX0_letRest : Room := { frames := 2, cells := 0, slots := 0, locals := 45 }
abbrev MX0_letRest : mj_M := (RX0, 2, wsX0_letRest, rmX0_letRest, false, none)
abbrev rmX0_ofAll : Room := { frames := 4, cells := 0, slots := 0, locals := 90 }
abbrev MX0_ofAll : mj_M := (RX0, 2, wsX0_ofAll, rmX0_ofAll, false, none)
abbrev rmX0_ofBank : Room := { frames := 3, cells := 0, slots := 0, locals := 68 }
abbrev MX0_ofBank : mj_M := (RX0, 3, wsX0_ofBank, rmX0_ofBank, false, none)
abbrev rmX0_ofCutter : Room := { frames := 1, cells := 0, slots := 0, locals := 21 }
abbrev MX0_ofCutter : mj_M := (RX0, 3, wsX0_ofCutter, rmX0_ofCutter, false, none)
abbrev rmX0_ofHearth : Room := { frames := 3, cells := 0, slots := 0, locals := 68 }
abbrev MX0_ofHearth : mj_M := (RX0, 3, wsX0_ofHearth, rmX0_ofHearth, false, none)
abbrev rmX0_ofPlot : Room := { frames := 2, cells := 0, slots := 0, locals := 45 }
abbrev MX0_ofPlot : mj_M := (RX0, 5, wsX0_ofPlot, rmX0_ofPlot, false, none)
abbrev rmX0_passDays : Room := { frames := 4, cells := 0, slots := 0, locals := 96 }
abbrev MX0_passDays : mj_M := (RX0, 4, wsX0_passDays, rmX0_passDays, false, none)
abbrev rmX0_plotOf : Room := { frames := 0, cells := 0, slots := 0, locals := 0 }
abbrev MX0_plotOf : mj_M := (RX0, 2, wsX0_plotOf, rmX0_plotOf, false, none)
abbrev rmX0_poorestWidow : Room := { frames := 1, cells := 0, slots := 0, locals := 21 }
abbrev MX0_poorestWidow : mj_M := (RX0, 3, wsX0_poorestWidow, rmX0_poorestWidow, false, none)
abbrev rmX0_put : Room := { frames := 0, cells := 0, slots := 0, locals := 0 }
abbrev MX0_put : mj_M := (RX0, 3, wsX0_put, rmX0_put, false, none)
abbrev rmX0_rainOf : Room := { frames := 1, cells := 0, slots := 0, locals := 22 }
abbrev MX0_rainOf : mj_M := (RX0, 2, wsX0_rainOf, rmX0_rainOf, false, none)
abbrev rmX0_reasonAgainst : Room := { frames := 2, cells := 0, slots := 0, locals := 45 }
abbrev MX0_reasonAgainst : mj_M := (RX0, 4, wsX0_reasonAgainst, rmX0_reasonAgainst, false, none)
abbrev rmX0_setToWork : Room := { frames := 1, cells := 0, slots := 0, locals := 22 }
abbrev MX0_setToWork : mj_M := (RX0, 4, wsX0_setToWork, rmX0_setToWork, false, none)
abbrev rmX0_sharesPlace : Room := { frames := 1, cells := 0, slots := 0, locals := 21 }
abbrev MX0_sharesPlace : mj_M := (RX0, 2, wsX0_sharesPlace, rmX0_sharesPlace, false, none)
abbrev rmX0_shortBy : Room := { frames := 1, cells := 0, slots := 0, locals := 21 }
abbrev MX0_shortBy : mj_M := (RX0, 2, wsX0_shortBy, rmX0_shortBy, false, none)
abbrev rmX0_sum : Room := { frames := 1, cells := 0, slots := 0, locals := 21 }
abbrev MX0_sum : mj_M := (RX0, 5, wsX0_sum, rmX0_sum, false, none)
abbrev rmX0_swap : Room := { frames := 1, cells := 0, slots := 0, locals := 22 }
abbrev MX0_swap : mj_M := (RX0, 4, wsX0_swap, rmX0_swap, false, none)
abbrev rmX0_turnSnow : Room := { frames := 3, cells := 0, slots := 0, locals := 66 }
abbrev MX0_turnSnow : mj_M := (RX0, 2, wsX0_turnSnow, rmX0_turnSnow, false, none)
abbrev rmX0_turvesOn : Room := { frames := 1, cells := 0, slots := 0, locals := 21 }
abbrev MX0_turvesOn : mj_M := (RX0, 7, wsX0_turvesOn, rmX0_turvesOn, false, none)
abbrev rmX0_turvesOnBanks : Room := { frames := 2, cells := 0, slots := 0, locals := 47 }
abbrev MX0_turvesOnBanks : mj_M := (RX0, 1, wsX0_turvesOnBanks, rmX0_turvesOnBanks, false, none)
abbrev rmX0_weather : Room := { frames := 3, cells := 0, slots := 0, locals := 68 }
abbrev MX0_weather : mj_M := (RX0, 3, wsX0_weather, rmX0_weather, false, none)
abbrev rmX0_wetAgain : Room := { frames := 2, cells := 0, slots := 0, locals := 44 }
abbrev MX0_wetAgain : mj_M := (RX0, 4, wsX0_wetAgain, rmX0_wetAgain, false, none)
abbrev rmX0_willBeShortBy : Room := { frames := 2, cells := 0, slots := 0, locals := 47 }
abbrev MX0_willBeShortBy : mj_M := (RX0, 2, wsX0_willBeShortBy, rmX0_willBeShortBy, false, none)
abbrev rmX0_willBeShortByTheBook : Room := { frames := 1, cells := 0, slots := 0, locals := 21 }
abbrev MX0_willBeShortByTheBook : mj_M := (RX0, 4, wsX0_willBeShortByTheBook, rmX0_willBeShortByTheBook, false, none)
theorem kX0_add_X0_at : mj_cwV MX0_add 30 RX0 yX0_at wsX0_at rmX0_at 1 := ⟨_, _, _, _, gX0_add_X0_at, rfl, by decide +kernel, by decide⟩
theorem kX0_add_X0_put : mj_cwV MX0_add 15 RX0 yX0_put wsX0_put rmX0_put 2 := ⟨_, _, _, _, gX0_add_X0_put, rfl, by decide +kernel, by decide⟩
theorem fX0_at_11 : mj_fl MX0_at 11 0 0 := ⟨_, _, _, rfl, by decide +kernel, by decide, by decide +kernel⟩
theorem kX0_burn_X0_at : mj_cwV MX0_burn 30 RX0 yX0_at wsX0_at rmX0_at 1 := ⟨_, _, _, _, gX0_burn_X0_at, rfl, by decide +kernel, by decide⟩
theorem kX0_burn_Mmin : Cond.methodLink MX0_burn.1 65 Lib.Math.min.name ∈ MX0_burn.2.2.1 ∧ Cond.static Lib.Math.min.name ∈ MX0_burn.2.2.1 ∧ Cond.initialized "java/lang/Math" ∈ MX0_burn.2.2.1 ∧ Cond.code Lib.Math.min.name Lib.Math.min.code 2 (some .int) ∈ MX0_burn.2.2.1 := by decide +kernel
theorem kX0_burn_X0_add : mj_cwV MX0_burn 23 RX0 yX0_add wsX0_add rmX0_add 2 := ⟨_, _, _, _, gX0_burn_X0_add, rfl, by decide +kernel, by decide⟩
theorem kX0_cartHome_X0_plotOf : mj_cwS MX0_cartHome 19 yX0_plotOf wsX0_plotOf rmX0_plotOf 2 := ⟨_, _, _, _, gX0_cartHome_X0_plotOf, rfl, by decide +kernel, by decide⟩
theorem kX0_cartHome_X0_at : mj_cwV MX0_cartHome 30 RX0 yX0_at wsX0_at rmX0_at 1 := ⟨_, _, _, _, gX0_cartHome_X0_at, rfl, by decide +kernel, by decide⟩
theorem kX0_cartHome_Mmin : Cond.methodLink MX0_cartHome.1 65 Lib.Math.min.name ∈ MX0_cartHome.2.2.1 ∧ Cond.static Lib.Math.min.name ∈ MX0_cartHome.2.2.1 ∧ Cond.initialized "java/lang/Math" ∈ MX0_cartHome.2.2.1 ∧ Cond.code Lib.Math.min.name Lib.Math.min.code 2 (some .int) ∈ MX0_cartHome.2.2.1 := by decide +kernel
theorem kX0_cartHome_X0_add : mj_cwV MX0_cartHome 23 RX0 yX0_add wsX0_add rmX0_add 2 := ⟨_, _, _, _, gX0_cartHome_X0_add, rfl, by decide +kernel, by decide⟩
theorem kX0_cartHome_X0_poorestWidow : mj_cwV MX0_cartHome 84 RX0 yX0_poorestWidow wsX0_poorestWidow rmX0_poorestWidow 0 := ⟨_, _, _, _, gX0_cartHome_X0_poorestWidow, rfl, by decide +kernel, by decide⟩
theorem kX0_cutTurves_X0_at : mj_cwV MX0_cutTurves 30 RX0 yX0_at wsX0_at rmX0_at 1 := ⟨_, _, _, _, gX0_cutTurves_X0_at, rfl, by decide +kernel, by decide⟩
theorem kX0_cutTurves_Mmin : Cond.methodLink MX0_cutTurves.1 65 Lib.Math.min.name ∈ MX0_cutTurves.2.2.1 ∧ Cond.static Lib.Math.min.name ∈ MX0_cutTurves.2.2.1 ∧ Cond.initialized "java/lang/Math" ∈ MX0_cutTurves.2.2.1 ∧ Cond.code Lib.Math.min.name Lib.Math.min.code 2 (some .int) ∈ MX0_cutTurves.2.2.1 := by decide +kernel
theorem kX0_cutTurves_X0_add : mj_cwV MX0_cutTurves 23 RX0 yX0_add wsX0_add rmX0_add 2 := ⟨_, _, _, _, gX0_cutTurves_X0_add, rfl, by decide +kernel, by decide⟩
theorem kX0_cutTurves_X0_plotOf : mj_cwS MX0_cutTurves 19 yX0_plotOf wsX0_plotOf rmX0_plotOf 2 := ⟨_, _, _, _, gX0_cutTurves_X0_plotOf, rfl, by decide +kernel, by decide⟩
theorem kX0_cuttersAt_X0_at : mj_cwV MX0_cuttersAt 30 RX0 yX0_at wsX0_at rmX0_at 1 := ⟨_, _, _, _, gX0_cuttersAt_X0_at, rfl, by decide +kernel, by decide⟩
theorem kX0_cuttersAtWork_X0_cuttersOnBank : mj_cwV MX0_cuttersAtWork 37 RX0 yX0_cuttersOnBank wsX0_cuttersOnBank rmX0_cuttersOnBank 1 := ⟨_, _, _, _, gX0_cuttersAtWork_X0_cuttersOnBank, rfl, by decide +kernel, by decide⟩
theorem kX0_cuttersOnBank_X0_cuttersAt : mj_cwV MX0_cuttersOnBank 34 RX0 yX0_cuttersAt wsX0_cuttersAt rmX0_cuttersAt 2 := ⟨_, _, _, _, gX0_cuttersOnBank_X0_cuttersAt, rfl, by decide +kernel, by decide⟩
theorem kX0_dryOut_X0_at : mj_cwV MX0_dryOut 30 RX0 yX0_at wsX0_at rmX0_at 1 := ⟨_, _, _, _, gX0_dryOut_X0_at, rfl, by decide +kernel, by decide⟩
theorem kX0_dryOut_Mmin : Cond.methodLink MX0_dryOut.1 65 Lib.Math.min.name ∈ MX0_dryOut.2.2.1 ∧ Cond.static Lib.Math.min.name ∈ MX0_dryOut.2.2.1 ∧ Cond.initialized "java/lang/Math" ∈ MX0_dryOut.2.2.1 ∧ Cond.code Lib.Math.min.name Lib.Math.min.code 2 (some .int) ∈ MX0_dryOut.2.2.1 := by decide +kernel
theorem kX0_dryOut_X0_halfRoundedUp : mj_cwS MX0_dryOut 78 yX0_halfRoundedUp wsX0_halfRoundedUp rmX0_halfRoundedUp 1 := ⟨_, _, _, _, gX0_dryOut_X0_halfRoundedUp, rfl, by decide +kernel, by decide⟩
theorem kX0_dryOut_X0_add : mj_cwV MX0_dryOut 23 RX0 yX0_add wsX0_add rmX0_add 2 := ⟨_, _, _, _, gX0_dryOut_X0_add, rfl, by decide +kernel, by decide⟩
theorem kX0_goCarts_X0_at : mj_cwV MX0_goCarts 30 RX0 yX0_at wsX0_at rmX0_at 1 := ⟨_, _, _, _, gX0_goCarts_X0_at, rfl, by decide +kernel, by decide⟩
theorem kX0_goCarts_J9_floorMod_7cf53 : mj_cwS MX0_goCarts 44 yJ9_floorMod_7cf53 wsJ9_floorMod_7cf53 rmJ9_floorMod_7cf53 2 := ⟨_, _, _, _, gX0_goCarts_J9_floorMod_7cf53, rfl, by decide +kernel, by decide⟩
theorem kX0_goCarts_X0_cartHome : mj_cwV MX0_goCarts 81 RX0 yX0_cartHome wsX0_cartHome rmX0_cartHome 3 := ⟨_, _, _, _, gX0_goCarts_X0_cartHome, rfl, by decide +kernel, by decide⟩
theorem kX0_hearthsShort_X0_shortBy : mj_cwV MX0_hearthsShort 90 RX0 yX0_shortBy wsX0_shortBy rmX0_shortBy 1 := ⟨_, _, _, _, gX0_hearthsShort_X0_shortBy, rfl, by decide +kernel, by decide⟩
theorem kX0_hearthsThatWillBeShort_X0_willBeShortBy : mj_cwV MX0_hearthsThatWillBeShort 93 RX0 yX0_willBeShortBy wsX0_willBeShortBy rmX0_willBeShortBy 1 := ⟨_, _, _, _, gX0_hearthsThatWillBeShort_X0_willBeShortBy, rfl, by decide +kernel, by decide⟩
theorem kX0_init_X0_put : mj_cwV MX0_init 15 RX0 yX0_put wsX0_put rmX0_put 2 := ⟨_, _, _, _, gX0_init_X0_put, rfl, by decide +kernel, by decide⟩
theorem kX0_init_X0_plotOf : mj_cwS MX0_init 19 yX0_plotOf wsX0_plotOf rmX0_plotOf 2 := ⟨_, _, _, _, gX0_init_X0_plotOf, rfl, by decide +kernel, by decide⟩
theorem kX0_init_X0_add : mj_cwV MX0_init 23 RX0 yX0_add wsX0_add rmX0_add 2 := ⟨_, _, _, _, gX0_init_X0_add, rfl, by decide +kernel, by decide⟩
theorem kX0_init_X0_letRest : mj_cwV MX0_init 26 RX0 yX0_letRest wsX0_letRest rmX0_letRest 1 := ⟨_, _, _, _, gX0_init_X0_letRest, rfl, by decide +kernel, by decide⟩
theorem pX0_init_11 : mj_flp MX0_init 11 0 0 (.array .int) := ⟨_, _, _, tyX0, rfl, by decide +kernel, by decide, by decide +kernel, tyX0_ok, nmX0, by decide +kernel, by decide +kernel⟩
theorem kX0_letRest_X0_setToWork : mj_cwV MX0_letRest 40 RX0 yX0_setToWork wsX0_setToWork rmX0_setToWork 3 := ⟨_, _, _, _, gX0_letRest_X0_setToWork, rfl, by decide +kernel, by decide⟩
theorem kX0_ofAll_X0_at : mj_cwV MX0_ofAll 30 RX0 yX0_at wsX0_at rmX0_at 1 := ⟨_, _, _, _, gX0_ofAll_X0_at, rfl, by decide +kernel, by decide⟩
theorem kX0_ofAll_X0_cuttersAtWork : mj_cwV MX0_ofAll 99 RX0 yX0_cuttersAtWork wsX0_cuttersAtWork rmX0_cuttersAtWork 0 := ⟨_, _, _, _, gX0_ofAll_X0_cuttersAtWork, rfl, by decide +kernel, by decide⟩
theorem kX0_ofAll_X0_sum : mj_cwV MX0_ofAll 102 RX0 yX0_sum wsX0_sum rmX0_sum 2 := ⟨_, _, _, _, gX0_ofAll_X0_sum, rfl, by decide +kernel, by decide⟩
theorem kX0_ofAll_X0_turvesOnBanks : mj_cwV MX0_ofAll 105 RX0 yX0_turvesOnBanks wsX0_turvesOnBanks rmX0_turvesOnBanks 0 := ⟨_, _, _, _, gX0_ofAll_X0_turvesOnBanks, rfl, by decide +kernel, by decide⟩
theorem kX0_ofAll_X0_hearthsShort : mj_cwV MX0_ofAll 108 RX0 yX0_hearthsShort wsX0_hearthsShort rmX0_hearthsShort 0 := ⟨_, _, _, _, gX0_ofAll_X0_hearthsShort, rfl, by decide +kernel, by decide⟩
theorem kX0_ofAll_X0_hearthsThatWillBeShort : mj_cwV MX0_ofAll 111 RX0 yX0_hearthsThatWillBeShort wsX0_hearthsThatWillBeShort rmX0_hearthsThatWillBeShort 0 := ⟨_, _, _, _, gX0_ofAll_X0_hearthsThatWillBeShort, rfl, by decide +kernel, by decide⟩
theorem kX0_ofBank_X0_at : mj_cwV MX0_ofBank 30 RX0 yX0_at wsX0_at rmX0_at 1 := ⟨_, _, _, _, gX0_ofBank_X0_at, rfl, by decide +kernel, by decide⟩
theorem kX0_ofBank_X0_cuttersOnBank : mj_cwV MX0_ofBank 37 RX0 yX0_cuttersOnBank wsX0_cuttersOnBank rmX0_cuttersOnBank 1 := ⟨_, _, _, _, gX0_ofBank_X0_cuttersOnBank, rfl, by decide +kernel, by decide⟩
theorem kX0_ofBank_X0_plotOf : mj_cwS MX0_ofBank 19 yX0_plotOf wsX0_plotOf rmX0_plotOf 2 := ⟨_, _, _, _, gX0_ofBank_X0_plotOf, rfl, by decide +kernel, by decide⟩
theorem kX0_ofBank_X0_turvesOn : mj_cwV MX0_ofBank 68 RX0 yX0_turvesOn wsX0_turvesOn rmX0_turvesOn 3 := ⟨_, _, _, _, gX0_ofBank_X0_turvesOn, rfl, by decide +kernel, by decide⟩
theorem kX0_ofCutter_X0_at : mj_cwV MX0_ofCutter 30 RX0 yX0_at wsX0_at rmX0_at 1 := ⟨_, _, _, _, gX0_ofCutter_X0_at, rfl, by decide +kernel, by decide⟩
theorem kX0_ofHearth_X0_at : mj_cwV MX0_ofHearth 30 RX0 yX0_at wsX0_at rmX0_at 1 := ⟨_, _, _, _, gX0_ofHearth_X0_at, rfl, by decide +kernel, by decide⟩
theorem kX0_ofHearth_X0_plotOf : mj_cwS MX0_ofHearth 19 yX0_plotOf wsX0_plotOf rmX0_plotOf 2 := ⟨_, _, _, _, gX0_ofHearth_X0_plotOf, rfl, by decide +kernel, by decide⟩
theorem kX0_ofHearth_X0_turvesOn : mj_cwV MX0_ofHearth 68 RX0 yX0_turvesOn wsX0_turvesOn rmX0_turvesOn 3 := ⟨_, _, _, _, gX0_ofHearth_X0_turvesOn, rfl, by decide +kernel, by decide⟩
theorem kX0_ofHearth_X0_shortBy : mj_cwV MX0_ofHearth 90 RX0 yX0_shortBy wsX0_shortBy rmX0_shortBy 1 := ⟨_, _, _, _, gX0_ofHearth_X0_shortBy, rfl, by decide +kernel, by decide⟩
theorem kX0_ofHearth_X0_willBeShortBy : mj_cwV MX0_ofHearth 93 RX0 yX0_willBeShortBy wsX0_willBeShortBy rmX0_willBeShortBy 1 := ⟨_, _, _, _, gX0_ofHearth_X0_willBeShortBy, rfl, by decide +kernel, by decide⟩
theorem kX0_ofHearth_X0_willBeShortByTheBook : mj_cwV MX0_ofHearth 96 RX0 yX0_willBeShortByTheBook wsX0_willBeShortByTheBook rmX0_willBeShortByTheBook 1 := ⟨_, _, _, _, gX0_ofHearth_X0_willBeShortByTheBook, rfl, by decide +kernel, by decide⟩
theorem kX0_ofPlot_X0_plotOf : mj_cwS MX0_ofPlot 19 yX0_plotOf wsX0_plotOf rmX0_plotOf 2 := ⟨_, _, _, _, gX0_ofPlot_X0_plotOf, rfl, by decide +kernel, by decide⟩
theorem kX0_ofPlot_X0_at : mj_cwV MX0_ofPlot 30 RX0 yX0_at wsX0_at rmX0_at 1 := ⟨_, _, _, _, gX0_ofPlot_X0_at, rfl, by decide +kernel, by decide⟩
theorem kX0_ofPlot_X0_cuttersAt : mj_cwV MX0_ofPlot 34 RX0 yX0_cuttersAt wsX0_cuttersAt rmX0_cuttersAt 2 := ⟨_, _, _, _, gX0_ofPlot_X0_cuttersAt, rfl, by decide +kernel, by decide⟩
theorem kX0_passDays_X0_add : mj_cwV MX0_passDays 23 RX0 yX0_add wsX0_add rmX0_add 2 := ⟨_, _, _, _, gX0_passDays_X0_add, rfl, by decide +kernel, by decide⟩
theorem kX0_passDays_X0_at : mj_cwV MX0_passDays 30 RX0 yX0_at wsX0_at rmX0_at 1 := ⟨_, _, _, _, gX0_passDays_X0_at, rfl, by decide +kernel, by decide⟩
theorem kX0_passDays_X0_weather : mj_cwV MX0_passDays 49 RX0 yX0_weather wsX0_weather rmX0_weather 1 := ⟨_, _, _, _, gX0_passDays_X0_weather, rfl, by decide +kernel, by decide⟩
theorem kX0_passDays_X0_burn : mj_cwV MX0_passDays 52 RX0 yX0_burn wsX0_burn rmX0_burn 0 := ⟨_, _, _, _, gX0_passDays_X0_burn, rfl, by decide +kernel, by decide⟩
theorem kX0_passDays_X0_cutTurves : mj_cwV MX0_passDays 55 RX0 yX0_cutTurves wsX0_cutTurves rmX0_cutTurves 0 := ⟨_, _, _, _, gX0_passDays_X0_cutTurves, rfl, by decide +kernel, by decide⟩
theorem kX0_passDays_X0_rainOf : mj_cwV MX0_passDays 58 RX0 yX0_rainOf wsX0_rainOf rmX0_rainOf 1 := ⟨_, _, _, _, gX0_passDays_X0_rainOf, rfl, by decide +kernel, by decide⟩
theorem kX0_passDays_X0_goCarts : mj_cwV MX0_passDays 61 RX0 yX0_goCarts wsX0_goCarts rmX0_goCarts 0 := ⟨_, _, _, _, gX0_passDays_X0_goCarts, rfl, by decide +kernel, by decide⟩
theorem kX0_poorestWidow_X0_at : mj_cwV MX0_poorestWidow 30 RX0 yX0_at wsX0_at rmX0_at 1 := ⟨_, _, _, _, gX0_poorestWidow_X0_at, rfl, by decide +kernel, by decide⟩
theorem fX0_put_11 : mj_fl MX0_put 11 0 0 := ⟨_, _, _, rfl, by decide +kernel, by decide, by decide +kernel⟩
theorem kX0_rainOf_J9_floorMod_7cf53 : mj_cwS MX0_rainOf 44 yJ9_floorMod_7cf53 wsJ9_floorMod_7cf53 rmJ9_floorMod_7cf53 2 := ⟨_, _, _, _, gX0_rainOf_J9_floorMod_7cf53, rfl, by decide +kernel, by decide⟩
theorem kX0_rainOf_X0_at : mj_cwV MX0_rainOf 30 RX0 yX0_at wsX0_at rmX0_at 1 := ⟨_, _, _, _, gX0_rainOf_X0_at, rfl, by decide +kernel, by decide⟩
theorem kX0_reasonAgainst_X0_plotOf : mj_cwS MX0_reasonAgainst 19 yX0_plotOf wsX0_plotOf rmX0_plotOf 2 := ⟨_, _, _, _, gX0_reasonAgainst_X0_plotOf, rfl, by decide +kernel, by decide⟩
theorem kX0_reasonAgainst_X0_at : mj_cwV MX0_reasonAgainst 30 RX0 yX0_at wsX0_at rmX0_at 1 := ⟨_, _, _, _, gX0_reasonAgainst_X0_at, rfl, by decide +kernel, by decide⟩
theorem kX0_reasonAgainst_X0_cuttersAt : mj_cwV MX0_reasonAgainst 34 RX0 yX0_cuttersAt wsX0_cuttersAt rmX0_cuttersAt 2 := ⟨_, _, _, _, gX0_reasonAgainst_X0_cuttersAt, rfl, by decide +kernel, by decide⟩
theorem kX0_setToWork_X0_put : mj_cwV MX0_setToWork 15 RX0 yX0_put wsX0_put rmX0_put 2 := ⟨_, _, _, _, gX0_setToWork_X0_put, rfl, by decide +kernel, by decide⟩
theorem kX0_sharesPlace_X0_plotOf : mj_cwS MX0_sharesPlace 19 yX0_plotOf wsX0_plotOf rmX0_plotOf 2 := ⟨_, _, _, _, gX0_sharesPlace_X0_plotOf, rfl, by decide +kernel, by decide⟩
theorem kX0_shortBy_X0_at : mj_cwV MX0_shortBy 30 RX0 yX0_at wsX0_at rmX0_at 1 := ⟨_, _, _, _, gX0_shortBy_X0_at, rfl, by decide +kernel, by decide⟩
theorem kX0_shortBy_Mmax : Cond.methodLink MX0_shortBy.1 87 Lib.Math.max.name ∈ MX0_shortBy.2.2.1 ∧ Cond.static Lib.Math.max.name ∈ MX0_shortBy.2.2.1 ∧ Cond.initialized "java/lang/Math" ∈ MX0_shortBy.2.2.1 ∧ Cond.code Lib.Math.max.name Lib.Math.max.code 2 (some .int) ∈ MX0_shortBy.2.2.1 := by decide +kernel
theorem kX0_sum_X0_at : mj_cwV MX0_sum 30 RX0 yX0_at wsX0_at rmX0_at 1 := ⟨_, _, _, _, gX0_sum_X0_at, rfl, by decide +kernel, by decide⟩
theorem kX0_swap_X0_at : mj_cwV MX0_swap 30 RX0 yX0_at wsX0_at rmX0_at 1 := ⟨_, _, _, _, gX0_swap_X0_at, rfl, by decide +kernel, by decide⟩
theorem kX0_swap_X0_put : mj_cwV MX0_swap 15 RX0 yX0_put wsX0_put rmX0_put 2 := ⟨_, _, _, _, gX0_swap_X0_put, rfl, by decide +kernel, by decide⟩
theorem kX0_turnSnow_X0_at : mj_cwV MX0_turnSnow 30 RX0 yX0_at wsX0_at rmX0_at 1 := ⟨_, _, _, _, gX0_turnSnow_X0_at, rfl, by decide +kernel, by decide⟩
theorem kX0_turnSnow_X0_put : mj_cwV MX0_turnSnow 15 RX0 yX0_put wsX0_put rmX0_put 2 := ⟨_, _, _, _, gX0_turnSnow_X0_put, rfl, by decide +kernel, by decide⟩
theorem kX0_turnSnow_X0_letRest : mj_cwV MX0_turnSnow 26 RX0 yX0_letRest wsX0_letRest rmX0_letRest 1 := ⟨_, _, _, _, gX0_turnSnow_X0_letRest, rfl, by decide +kernel, by decide⟩
theorem kX0_turvesOn_X0_at : mj_cwV MX0_turvesOn 30 RX0 yX0_at wsX0_at rmX0_at 1 := ⟨_, _, _, _, gX0_turvesOn_X0_at, rfl, by decide +kernel, by decide⟩
theorem kX0_turvesOnBanks_X0_turvesOn : mj_cwV MX0_turvesOnBanks 68 RX0 yX0_turvesOn wsX0_turvesOn rmX0_turvesOn 3 := ⟨_, _, _, _, gX0_turvesOnBanks_X0_turvesOn, rfl, by decide +kernel, by decide⟩
theorem kX0_weather_X0_turvesOn : mj_cwV MX0_weather 68 RX0 yX0_turvesOn wsX0_turvesOn rmX0_turvesOn 3 := ⟨_, _, _, _, gX0_weather_X0_turvesOn, rfl, by decide +kernel, by decide⟩
theorem kX0_weather_X0_wetAgain : mj_cwV MX0_weather 72 RX0 yX0_wetAgain wsX0_wetAgain rmX0_wetAgain 1 := ⟨_, _, _, _, gX0_weather_X0_wetAgain, rfl, by decide +kernel, by decide⟩
theorem kX0_weather_X0_dryOut : mj_cwV MX0_weather 75 RX0 yX0_dryOut wsX0_dryOut rmX0_dryOut 1 := ⟨_, _, _, _, gX0_weather_X0_dryOut, rfl, by decide +kernel, by decide⟩
theorem kX0_wetAgain_X0_at : mj_cwV MX0_wetAgain 30 RX0 yX0_at wsX0_at rmX0_at 1 := ⟨_, _, _, _, gX0_wetAgain_X0_at, rfl, by decide +kernel, by decide⟩
theorem kX0_wetAgain_X0_halfRoundedUp : mj_cwS MX0_wetAgain 78 yX0_halfRoundedUp wsX0_halfRoundedUp rmX0_halfRoundedUp 1 := ⟨_, _, _, _, gX0_wetAgain_X0_halfRoundedUp, rfl, by decide +kernel, by decide⟩
theorem kX0_wetAgain_X0_add : mj_cwV MX0_wetAgain 23 RX0 yX0_add wsX0_add rmX0_add 2 := ⟨_, _, _, _, gX0_wetAgain_X0_add, rfl, by decide +kernel, by decide⟩
theorem kX0_willBeShortBy_X0_at : mj_cwV MX0_willBeShortBy 30 RX0 yX0_at wsX0_at rmX0_at 1 := ⟨_, _, _, _, gX0_willBeShortBy_X0_at, rfl, by decide +kernel, by decide⟩
theorem kX0_willBeShortBy_X0_plotOf : mj_cwS MX0_willBeShortBy 19 yX0_plotOf wsX0_plotOf rmX0_plotOf 2 := ⟨_, _, _, _, gX0_willBeShortBy_X0_plotOf, rfl, by decide +kernel, by decide⟩
theorem kX0_willBeShortBy_X0_turvesOn : mj_cwV MX0_willBeShortBy 68 RX0 yX0_turvesOn wsX0_turvesOn rmX0_turvesOn 3 := ⟨_, _, _, _, gX0_willBeShortBy_X0_turvesOn, rfl, by decide +kernel, by decide⟩
theorem kX0_willBeShortBy_Mmax : Cond.methodLink MX0_willBeShortBy.1 87 Lib.Math.max.name ∈ MX0_willBeShortBy.2.2.1 ∧ Cond.static Lib.Math.max.name ∈ MX0_willBeShortBy.2.2.1 ∧ Cond.initialized "java/lang/Math" ∈ MX0_willBeShortBy.2.2.1 ∧ Cond.code Lib.Math.max.name Lib.Math.max.code 2 (some .int) ∈ MX0_willBeShortBy.2.2.1 := by decide +kernel
theorem kX0_willBeShortByTheBook_X0_at : mj_cwV MX0_willBeShortByTheBook 30 RX0 yX0_at wsX0_at rmX0_at 1 := ⟨_, _, _, _, gX0_willBeShortByTheBook_X0_at, rfl, by decide +kernel, by decide⟩
theorem kX0_willBeShortByTheBook_Mmax : Cond.methodLink MX0_willBeShortByTheBook.1 87 Lib.Math.max.name ∈ MX0_willBeShortByTheBook.2.2.1 ∧ Cond.static Lib.Math.max.name ∈ MX0_willBeShortByTheBook.2.2.1 ∧ Cond.initialized "java/lang/Math" ∈ MX0_willBeShortByTheBook.2.2.1 ∧ Cond.code Lib.Math.max.name Lib.Math.max.code 2 (some .int) ∈ MX0_willBeShortByTheBook.2.2.1 := by decide +kernel
